theorem yd_X8_in : yX8_in.cls = RX8 ∧ yX8_in.cls ≠ "java/lang/invoke/MethodHandle" ∧ yX8_in.cls ≠ "java/lang/invoke/VarHandle" ∧ (parseMethodDescriptor yX8_in.desc).map (fun d => d.parameters.length) = some 3 := by decide +kernel
set_option maxHeartbeats 4000000 in
set_option maxRecDepth 100000 in
theorem k_X8_in (l : Launch) (D : va_G) (cI cZ : ClassId) (x lo hi : Int32)  : Met l yX8_in wsX8_in ({ frames := 0, cells := 0, slots := 0, locals := 0 }) (mPc [.int x, .int lo, .int hi] D cI cZ []) (QcRead (bI (inB x lo hi))) 0 0 (fun _ => False) := by
  refine Met.ofW (cc := cX8_in) (maxL := 3) (ret := (some .boolean)) (by decide) rfl ?_
  intro p e s m args below meth c s₁ BB hml hv
  obtain ⟨hargs, hP, hD0, hK⟩ := hv
  have hx := BB.exec
  have hb := BB.bytes
  have hr := BB.returns
  have hts := atoms_spec (ws := wsX8_in) BB.pre
  have hown : s.vm.findClass RX8 = some m.cls := findClass_of_methodNamed BB.named
  have hlocks := BB.notSynchronized
  have hcf : CallFix p m c cX8_in 3 s args wsX8_in RX8 := ⟨hx, hb, hml, hown, hts⟩
  have hD := hD0
  rw [hargs, lg_entry_eq, ← hargs]
  have hl := lv_entry ([.int x, .int lo, .int hi]) (n := 3) (Nat.le_of_ble_eq_true rfl)
  generalize (lg_sl ([.int x, .int lo, .int hi]) ++ List.replicate (3 - (lg_sl ([.int x, .int lo, .int hi])).length) Slot.unset).toArray = ls at hl ⊢
  have hl : lv_has ls 3 [(0, .int x), (1, .int lo), (2, .int hi)] := hl
  obtain ⟨Q, hQ⟩ : ∃ Q, Q = MQ below (QcRead (bI (inB x lo hi))) args s 0 0 (fun _ => False) := ⟨_, rfl⟩
  rw [← hQ]
  refine lv_iload_n hx hb dX8_in_0 rfl (lv_at hl 0 rfl) ?_
  refine lv_iload_n hx hb dX8_in_1 rfl (lv_at hl 1 rfl) ?_
  refine lv_icmp_lt (tgt := 14) hx hb dX8_in_2 (by decide) (fun c_2 => ?_) (fun c_2 => ?_)
  · refine lv_iconst (v := nI 0) hx hb dX8_in_14 (by decide) ?_
    rw [hQ]
    exact m_zrd hx hb hr hlocks (b_zero (by simp only [fa_lt, fa_le] at *; omega)) dX8_in_15
  · refine lv_iload_n hx hb dX8_in_5 rfl (lv_at hl 0 rfl) ?_
    refine lv_iload_n hx hb dX8_in_6 rfl (lv_at hl 2 rfl) ?_
    refine lv_icmp_gt (tgt := 14) hx hb dX8_in_7 (by decide) (fun c_7 => ?_) (fun c_7 => ?_)
    · refine lv_iconst (v := nI 0) hx hb dX8_in_14 (by decide) ?_
      rw [hQ]
      exact m_zrd hx hb hr hlocks (b_zero (by simp only [fa_lt, fa_le] at *; omega)) dX8_in_15
    · refine lv_iconst (v := nI 1) hx hb dX8_in_10 (by decide) ?_
      refine lv_goto (tgt := 15) hx hb dX8_in_11 (by decide) ?_
      rw [hQ]
      exact m_zrd hx hb hr hlocks (b_one (by simp only [fa_lt, fa_le] at *; omega)) dX8_in_15

theorem yd_X8_isWay : yX8_isWay.cls = RX8 ∧ yX8_isWay.cls ≠ "java/lang/invoke/MethodHandle" ∧ yX8_isWay.cls ≠ "java/lang/invoke/VarHandle" ∧ (parseMethodDescriptor yX8_isWay.desc).map (fun d => d.parameters.length) = some 1 := by decide +kernel
set_option maxHeartbeats 4000000 in
set_option maxRecDepth 100000 in
theorem k_X8_isWay (l : Launch) (D : va_G) (cI cZ : ClassId) (x : Int32)  : Met l yX8_isWay wsX8_isWay ({ frames := 1, cells := 0, slots := 0, locals := 22 }) (mPc [.int x] D cI cZ []) (QcRead (bI (ixB x 3))) 0 0 (fun _ => False) := by
  refine Met.ofW (cc := cX8_isWay) (maxL := 1) (ret := (some .boolean)) (by decide) rfl ?_
  intro p e s m args below meth c s₁ BB hml hv
  obtain ⟨hargs, hP, hD0, hK⟩ := hv
  have hx := BB.exec
  have hb := BB.bytes
  have hr := BB.returns
  have hts := atoms_spec (ws := wsX8_isWay) BB.pre
  have hown : s.vm.findClass RX8 = some m.cls := findClass_of_methodNamed BB.named
  have hlocks := BB.notSynchronized
  have hcf : CallFix p m c cX8_isWay 1 s args wsX8_isWay RX8 := ⟨hx, hb, hml, hown, hts⟩
  have hD := hD0
  rw [hargs, lg_entry_eq, ← hargs]
  have hl := lv_entry ([.int x]) (n := 1) (Nat.le_of_ble_eq_true rfl)
  generalize (lg_sl ([.int x]) ++ List.replicate (1 - (lg_sl ([.int x])).length) Slot.unset).toArray = ls at hl ⊢
  have hl : lv_has ls 1 [(0, .int x)] := hl
  obtain ⟨Q, hQ⟩ : ∃ Q, Q = MQ below (QcRead (bI (ixB x 3))) args s 0 0 (fun _ => False) := ⟨_, rfl⟩
  rw [← hQ]
  refine lv_iload_n hx hb dX8_isWay_0 rfl (lv_at hl 0 rfl) ?_
  refine lv_iconst (v := nI 0) hx hb dX8_isWay_1 (by decide) ?_
  refine lv_iconst (v := nI 2) hx hb dX8_isWay_2 (by decide) ?_
  refine m_rdS (As := [.int x, .int (nI 0), .int (nI 2)]) (rest := []) (wc := []) hcf (k_X8_in (l := l) (D := D) (cI := cI) (cZ := cZ) (x := x) (lo := nI 0) (hi := nI 2) ) (va_cwS 3 hts gX8_isWay_X8_in rfl rfl rfl yd_X8_in.2 ⟨Nat.le_of_ble_eq_true rfl, Nat.le_of_ble_eq_true rfl⟩) (m_preS hK hP hD [] (by decide) rfl) rfl hl.1 rfl (Nat.le_of_ble_eq_true rfl) dX8_isWay_3 ⟨Nat.zero_le _, Nat.zero_le _⟩ ?_
  rw [hQ]
  exact m_zrd hx hb hr hlocks (by rw [inB_ix0 (by decide)]) dX8_isWay_6

theorem yd_X8_isStart : yX8_isStart.cls = RX8 ∧ yX8_isStart.cls ≠ "java/lang/invoke/MethodHandle" ∧ yX8_isStart.cls ≠ "java/lang/invoke/VarHandle" ∧ (parseMethodDescriptor yX8_isStart.desc).map (fun d => d.parameters.length) = some 1 := by decide +kernel
set_option maxHeartbeats 4000000 in
set_option maxRecDepth 100000 in
theorem k_X8_isStart (l : Launch) (D : va_G) (cI cZ : ClassId) (x : Int32)  : Met l yX8_isStart wsX8_isStart ({ frames := 1, cells := 0, slots := 0, locals := 22 }) (mPc [.int x] D cI cZ []) (QcRead (bI (ixB x 20))) 0 0 (fun _ => False) := by
  refine Met.ofW (cc := cX8_isStart) (maxL := 1) (ret := (some .boolean)) (by decide) rfl ?_
  intro p e s m args below meth c s₁ BB hml hv
  obtain ⟨hargs, hP, hD0, hK⟩ := hv
  have hx := BB.exec
  have hb := BB.bytes
  have hr := BB.returns
  have hts := atoms_spec (ws := wsX8_isStart) BB.pre
  have hown : s.vm.findClass RX8 = some m.cls := findClass_of_methodNamed BB.named
  have hlocks := BB.notSynchronized
  have hcf : CallFix p m c cX8_isStart 1 s args wsX8_isStart RX8 := ⟨hx, hb, hml, hown, hts⟩
  have hD := hD0
  rw [hargs, lg_entry_eq, ← hargs]
  have hl := lv_entry ([.int x]) (n := 1) (Nat.le_of_ble_eq_true rfl)
  generalize (lg_sl ([.int x]) ++ List.replicate (1 - (lg_sl ([.int x])).length) Slot.unset).toArray = ls at hl ⊢
  have hl : lv_has ls 1 [(0, .int x)] := hl
  obtain ⟨Q, hQ⟩ : ∃ Q, Q = MQ below (QcRead (bI (ixB x 20))) args s 0 0 (fun _ => False) := ⟨_, rfl⟩
  rw [← hQ]
  refine lv_iload_n hx hb dX8_isStart_0 rfl (lv_at hl 0 rfl) ?_
  refine lv_iconst (v := nI 0) hx hb dX8_isStart_1 (by decide) ?_
  refine lv_bipush (v := nI 19) hx hb dX8_isStart_2 (by decide) ?_
  refine m_rdS (As := [.int x, .int (nI 0), .int (nI 19)]) (rest := []) (wc := []) hcf (k_X8_in (l := l) (D := D) (cI := cI) (cZ := cZ) (x := x) (lo := nI 0) (hi := nI 19) ) (va_cwS 3 hts gX8_isStart_X8_in rfl rfl rfl yd_X8_in.2 ⟨Nat.le_of_ble_eq_true rfl, Nat.le_of_ble_eq_true rfl⟩) (m_preS hK hP hD [] (by decide) rfl) rfl hl.1 rfl (Nat.le_of_ble_eq_true rfl) dX8_isStart_4 ⟨Nat.zero_le _, Nat.zero_le _⟩ ?_
  rw [hQ]
  exact m_zrd hx hb hr hlocks (by rw [inB_ix0 (by decide)]) dX8_isStart_7

theorem yd_X8_isLength : yX8_isLength.cls = RX8 ∧ yX8_isLength.cls ≠ "java/lang/invoke/MethodHandle" ∧ yX8_isLength.cls ≠ "java/lang/invoke/VarHandle" ∧ (parseMethodDescriptor yX8_isLength.desc).map (fun d => d.parameters.length) = some 1 := by decide +kernel
set_option maxHeartbeats 4000000 in
set_option maxRecDepth 100000 in
theorem k_X8_isLength (l : Launch) (D : va_G) (cI cZ : ClassId) (x : Int32)  : Met l yX8_isLength wsX8_isLength ({ frames := 1, cells := 0, slots := 0, locals := 22 }) (mPc [.int x] D cI cZ []) (QcRead (bI (lnB x))) 0 0 (fun _ => False) := by
  refine Met.ofW (cc := cX8_isLength) (maxL := 1) (ret := (some .boolean)) (by decide) rfl ?_
  intro p e s m args below meth c s₁ BB hml hv
  obtain ⟨hargs, hP, hD0, hK⟩ := hv
  have hx := BB.exec
  have hb := BB.bytes
  have hr := BB.returns
  have hts := atoms_spec (ws := wsX8_isLength) BB.pre
  have hown : s.vm.findClass RX8 = some m.cls := findClass_of_methodNamed BB.named
  have hlocks := BB.notSynchronized
  have hcf : CallFix p m c cX8_isLength 1 s args wsX8_isLength RX8 := ⟨hx, hb, hml, hown, hts⟩
  have hD := hD0
  rw [hargs, lg_entry_eq, ← hargs]
  have hl := lv_entry ([.int x]) (n := 1) (Nat.le_of_ble_eq_true rfl)
  generalize (lg_sl ([.int x]) ++ List.replicate (1 - (lg_sl ([.int x])).length) Slot.unset).toArray = ls at hl ⊢
  have hl : lv_has ls 1 [(0, .int x)] := hl
  obtain ⟨Q, hQ⟩ : ∃ Q, Q = MQ below (QcRead (bI (lnB x))) args s 0 0 (fun _ => False) := ⟨_, rfl⟩
  rw [← hQ]
  refine lv_iload_n hx hb dX8_isLength_0 rfl (lv_at hl 0 rfl) ?_
  refine lv_iconst (v := nI 1) hx hb dX8_isLength_1 (by decide) ?_
  refine lv_bipush (v := nI 20) hx hb dX8_isLength_2 (by decide) ?_
  refine m_rdS (As := [.int x, .int (nI 1), .int (nI 20)]) (rest := []) (wc := []) hcf (k_X8_in (l := l) (D := D) (cI := cI) (cZ := cZ) (x := x) (lo := nI 1) (hi := nI 20) ) (va_cwS 3 hts gX8_isLength_X8_in rfl rfl rfl yd_X8_in.2 ⟨Nat.le_of_ble_eq_true rfl, Nat.le_of_ble_eq_true rfl⟩) (m_preS hK hP hD [] (by decide) rfl) rfl hl.1 rfl (Nat.le_of_ble_eq_true rfl) dX8_isLength_4 ⟨Nat.zero_le _, Nat.zero_le _⟩ ?_
  rw [hQ]
  exact m_zrd hx hb hr hlocks (by rw [inB_ln]) dX8_isLength_7

theorem yd_X8_isName : yX8_isName.cls = RX8 ∧ yX8_isName.cls ≠ "java/lang/invoke/MethodHandle" ∧ yX8_isName.cls ≠ "java/lang/invoke/VarHandle" ∧ (parseMethodDescriptor yX8_isName.desc).map (fun d => d.parameters.length) = some 1 := by decide +kernel
set_option maxHeartbeats 4000000 in
set_option maxRecDepth 100000 in
theorem k_X8_isName (l : Launch) (D : va_G) (cI cZ : ClassId) (a : Nat) (ha : a < 2 ^ 31) : Met l yX8_isName wsX8_isName ({ frames := 1, cells := 0, slots := 0, locals := 22 }) (mPc [.int (nI a)] D cI cZ []) (QcRead (bI (nmB a))) 0 0 (fun _ => False) := by
  refine Met.ofW (cc := cX8_isName) (maxL := 1) (ret := (some .boolean)) (by decide) rfl ?_
  intro p e s m args below meth c s₁ BB hml hv
  obtain ⟨hargs, hP, hD0, hK⟩ := hv
  have hx := BB.exec
  have hb := BB.bytes
  have hr := BB.returns
  have hts := atoms_spec (ws := wsX8_isName) BB.pre
  have hown : s.vm.findClass RX8 = some m.cls := findClass_of_methodNamed BB.named
  have hlocks := BB.notSynchronized
  have hcf : CallFix p m c cX8_isName 1 s args wsX8_isName RX8 := ⟨hx, hb, hml, hown, hts⟩
  have hD := hD0
  rw [hargs, lg_entry_eq, ← hargs]
  have hl := lv_entry ([.int (nI a)]) (n := 1) (Nat.le_of_ble_eq_true rfl)
  generalize (lg_sl ([.int (nI a)]) ++ List.replicate (1 - (lg_sl ([.int (nI a)])).length) Slot.unset).toArray = ls at hl ⊢
  have hl : lv_has ls 1 [(0, .int (nI a))] := hl
  obtain ⟨Q, hQ⟩ : ∃ Q, Q = MQ below (QcRead (bI (nmB a))) args s 0 0 (fun _ => False) := ⟨_, rfl⟩
  rw [← hQ]
  refine lv_iload_n hx hb dX8_isName_0 rfl (lv_at hl 0 rfl) ?_
  refine lv_bipush (v := nI 97) hx hb dX8_isName_1 (by decide) ?_
  refine lv_bipush (v := nI 122) hx hb dX8_isName_3 (by decide) ?_
  refine m_rdS (As := [.int (nI a), .int (nI 97), .int (nI 122)]) (rest := []) (wc := []) hcf (k_X8_in (l := l) (D := D) (cI := cI) (cZ := cZ) (x := nI a) (lo := nI 97) (hi := nI 122) ) (va_cwS 3 hts gX8_isName_X8_in rfl rfl rfl yd_X8_in.2 ⟨Nat.le_of_ble_eq_true rfl, Nat.le_of_ble_eq_true rfl⟩) (m_preS hK hP hD [] (by decide) rfl) rfl hl.1 rfl (Nat.le_of_ble_eq_true rfl) dX8_isName_5 ⟨Nat.zero_le _, Nat.zero_le _⟩ ?_
  rw [hQ]
  exact m_zrd hx hb hr hlocks (by rw [inB_N ha (by decide) (by decide)]; rfl) dX8_isName_8

theorem yd_X8_isNumber : yX8_isNumber.cls = RX8 ∧ yX8_isNumber.cls ≠ "java/lang/invoke/MethodHandle" ∧ yX8_isNumber.cls ≠ "java/lang/invoke/VarHandle" ∧ (parseMethodDescriptor yX8_isNumber.desc).map (fun d => d.parameters.length) = some 1 := by decide +kernel
set_option maxHeartbeats 4000000 in
set_option maxRecDepth 100000 in
theorem k_X8_isNumber (l : Launch) (D : va_G) (cI cZ : ClassId) (a : Nat) (ha : a < 2 ^ 31) : Met l yX8_isNumber wsX8_isNumber ({ frames := 1, cells := 0, slots := 0, locals := 22 }) (mPc [.int (nI a)] D cI cZ []) (QcRead (bI (nuB a))) 0 0 (fun _ => False) := by
  refine Met.ofW (cc := cX8_isNumber) (maxL := 1) (ret := (some .boolean)) (by decide) rfl ?_
  intro p e s m args below meth c s₁ BB hml hv
  obtain ⟨hargs, hP, hD0, hK⟩ := hv
  have hx := BB.exec
  have hb := BB.bytes
  have hr := BB.returns
  have hts := atoms_spec (ws := wsX8_isNumber) BB.pre
  have hown : s.vm.findClass RX8 = some m.cls := findClass_of_methodNamed BB.named
  have hlocks := BB.notSynchronized
  have hcf : CallFix p m c cX8_isNumber 1 s args wsX8_isNumber RX8 := ⟨hx, hb, hml, hown, hts⟩
  have hD := hD0
  rw [hargs, lg_entry_eq, ← hargs]
  have hl := lv_entry ([.int (nI a)]) (n := 1) (Nat.le_of_ble_eq_true rfl)
  generalize (lg_sl ([.int (nI a)]) ++ List.replicate (1 - (lg_sl ([.int (nI a)])).length) Slot.unset).toArray = ls at hl ⊢
  have hl : lv_has ls 1 [(0, .int (nI a))] := hl
  obtain ⟨Q, hQ⟩ : ∃ Q, Q = MQ below (QcRead (bI (nuB a))) args s 0 0 (fun _ => False) := ⟨_, rfl⟩
  rw [← hQ]
  refine lv_iload_n hx hb dX8_isNumber_0 rfl (lv_at hl 0 rfl) ?_
  refine lv_bipush (v := nI 48) hx hb dX8_isNumber_1 (by decide) ?_
  refine lv_bipush (v := nI 57) hx hb dX8_isNumber_3 (by decide) ?_
  refine m_rdS (As := [.int (nI a), .int (nI 48), .int (nI 57)]) (rest := []) (wc := []) hcf (k_X8_in (l := l) (D := D) (cI := cI) (cZ := cZ) (x := nI a) (lo := nI 48) (hi := nI 57) ) (va_cwS 3 hts gX8_isNumber_X8_in rfl rfl rfl yd_X8_in.2 ⟨Nat.le_of_ble_eq_true rfl, Nat.le_of_ble_eq_true rfl⟩) (m_preS hK hP hD [] (by decide) rfl) rfl hl.1 rfl (Nat.le_of_ble_eq_true rfl) dX8_isNumber_5 ⟨Nat.zero_le _, Nat.zero_le _⟩ ?_
  rw [hQ]
  exact m_zrd hx hb hr hlocks (by rw [inB_N ha (by decide) (by decide)]; rfl) dX8_isNumber_8

theorem yd_X8_isVersion : yX8_isVersion.cls = RX8 ∧ yX8_isVersion.cls ≠ "java/lang/invoke/MethodHandle" ∧ yX8_isVersion.cls ≠ "java/lang/invoke/VarHandle" ∧ (parseMethodDescriptor yX8_isVersion.desc).map (fun d => d.parameters.length) = some 1 := by decide +kernel
set_option maxHeartbeats 4000000 in
set_option maxRecDepth 100000 in
theorem k_X8_isVersion (l : Launch) (D : va_G) (cI cZ : ClassId) (mo ps mpa nl nv msz mcd mbe mba : Nat) (ol : Int32) (op os svn ms1 ms2 ms3 ms4 mfa mim mik : Nat) (x : Int32) (hnl : nl ≤ 20) (hnv : nv ≤ 4) : Met l yX8_isVersion wsX8_isVersion ({ frames := 1, cells := 0, slots := 0, locals := 22 }) (mPc [.ref mo, .int x] D cI cZ [(mo, .inr (8, [.int (nI ps), .ref mpa, .int (nI nl), .int (nI nv), .ref msz, .ref mcd, .ref mbe, .ref mba, .int ol, .int (nI op), .int (nI os), .int (nI svn), .ref ms1, .ref ms2, .ref ms3, .ref ms4, .ref mfa, .ref mim, .ref mik]))]) (QcRead (bI (ixB x nv))) 0 0 (fun _ => False) := by
  refine Met.ofW (cc := cX8_isVersion) (maxL := 2) (ret := (some .boolean)) (by decide) rfl ?_
  intro p e s m args below meth c s₁ BB hml hv
  obtain ⟨hargs, hP, hD0, hK⟩ := hv
  have hx := BB.exec
  have hb := BB.bytes
  have hr := BB.returns
  have hts := atoms_spec (ws := wsX8_isVersion) BB.pre
  have hown : s.vm.findClass RX8 = some m.cls := findClass_of_methodNamed BB.named
  have hlocks := BB.notSynchronized
  have hcf : CallFix p m c cX8_isVersion 2 s args wsX8_isVersion RX8 := ⟨hx, hb, hml, hown, hts⟩
  have hD := hD0
  rw [hargs, lg_entry_eq, ← hargs]
  have hl := lv_entry ([.ref mo, .int x]) (n := 2) (Nat.le_of_ble_eq_true rfl)
  generalize (lg_sl ([.ref mo, .int x]) ++ List.replicate (2 - (lg_sl ([.ref mo, .int x])).length) Slot.unset).toArray = ls at hl ⊢
  have hl : lv_has ls 2 [(0, .ref mo), (1, .int x)] := hl
  obtain ⟨Q, hQ⟩ : ∃ Q, Q = MQ below (QcRead (bI (ixB x nv))) args s 0 0 (fun _ => False) := ⟨_, rfl⟩
  rw [← hQ]
  have i_X8 : ∀ w ∈ u_ws RX8 TX8 19, w ∈ wsX8_isVersion := by decide +kernel
  have f_51 := hts (.fieldLink RX8 51 "SameAgainModel" "versions" "I") (by decide +kernel)
  refine lv_iload_n hx hb dX8_isVersion_0 rfl (lv_at hl 1 rfl) ?_
  refine lv_iconst (v := nI 0) hx hb dX8_isVersion_1 (by decide) ?_
  refine lv_aload_n hx hb dX8_isVersion_2 rfl (lv_at hl 0 rfl) ?_
  refine va_get (D := D) (ci := 8) (v := .int (nI nv)) (C := RX8) (T := TX8) (N := 19) hx hb hts i_X8 hown hK.1 hP 0 rfl rfl 3 (by decide) f_51 (fun _ h9 => h9) rfl dX8_isVersion_3 ?_
  refine lv_iconst (v := nI 1) hx hb dX8_isVersion_6 (by decide) ?_
  refine lv_isub hx hb dX8_isVersion_7 ?_
  refine m_rdS (As := [.int x, .int (nI 0), .int ((nI nv) - (nI 1))]) (rest := []) (wc := []) hcf (k_X8_in (l := l) (D := D) (cI := cI) (cZ := cZ) (x := x) (lo := nI 0) (hi := (nI nv) - (nI 1)) ) (va_cwS 3 hts gX8_isVersion_X8_in rfl rfl rfl yd_X8_in.2 ⟨Nat.le_of_ble_eq_true rfl, Nat.le_of_ble_eq_true rfl⟩) (m_preS hK hP hD [] (by decide) rfl) rfl hl.1 rfl (Nat.le_of_ble_eq_true rfl) dX8_isVersion_8 ⟨Nat.zero_le _, Nat.zero_le _⟩ ?_
  rw [hQ]
  exact m_zrd hx hb hr hlocks (by rw [inB_ix (by omega) (by decide), Nat.add_sub_cancel]) dX8_isVersion_11

theorem yd_X8_isLine : yX8_isLine.cls = RX8 ∧ yX8_isLine.cls ≠ "java/lang/invoke/MethodHandle" ∧ yX8_isLine.cls ≠ "java/lang/invoke/VarHandle" ∧ (parseMethodDescriptor yX8_isLine.desc).map (fun d => d.parameters.length) = some 1 := by decide +kernel
set_option maxHeartbeats 4000000 in
set_option maxRecDepth 100000 in
theorem k_X8_isLine (l : Launch) (D : va_G) (cI cZ : ClassId) (mo ps mpa nl nv msz mcd mbe mba : Nat) (ol : Int32) (op os svn ms1 ms2 ms3 ms4 mfa mim mik : Nat) (x : Int32) (hnl : nl ≤ 20) (hnv : nv ≤ 4) : Met l yX8_isLine wsX8_isLine ({ frames := 1, cells := 0, slots := 0, locals := 22 }) (mPc [.ref mo, .int x] D cI cZ [(mo, .inr (8, [.int (nI ps), .ref mpa, .int (nI nl), .int (nI nv), .ref msz, .ref mcd, .ref mbe, .ref mba, .int ol, .int (nI op), .int (nI os), .int (nI svn), .ref ms1, .ref ms2, .ref ms3, .ref ms4, .ref mfa, .ref mim, .ref mik]))]) (QcRead (bI (ixB x nl))) 0 0 (fun _ => False) := by
  refine Met.ofW (cc := cX8_isLine) (maxL := 2) (ret := (some .boolean)) (by decide) rfl ?_
  intro p e s m args below meth c s₁ BB hml hv
  obtain ⟨hargs, hP, hD0, hK⟩ := hv
  have hx := BB.exec
  have hb := BB.bytes
  have hr := BB.returns
  have hts := atoms_spec (ws := wsX8_isLine) BB.pre
  have hown : s.vm.findClass RX8 = some m.cls := findClass_of_methodNamed BB.named
  have hlocks := BB.notSynchronized
  have hcf : CallFix p m c cX8_isLine 2 s args wsX8_isLine RX8 := ⟨hx, hb, hml, hown, hts⟩
  have hD := hD0
  rw [hargs, lg_entry_eq, ← hargs]
  have hl := lv_entry ([.ref mo, .int x]) (n := 2) (Nat.le_of_ble_eq_true rfl)
  generalize (lg_sl ([.ref mo, .int x]) ++ List.replicate (2 - (lg_sl ([.ref mo, .int x])).length) Slot.unset).toArray = ls at hl ⊢
  have hl : lv_has ls 2 [(0, .ref mo), (1, .int x)] := hl
  obtain ⟨Q, hQ⟩ : ∃ Q, Q = MQ below (QcRead (bI (ixB x nl))) args s 0 0 (fun _ => False) := ⟨_, rfl⟩
  rw [← hQ]
  have i_X8 : ∀ w ∈ u_ws RX8 TX8 19, w ∈ wsX8_isLine := by decide +kernel
  have f_58 := hts (.fieldLink RX8 58 "SameAgainModel" "lines" "I") (by decide +kernel)
  refine lv_iload_n hx hb dX8_isLine_0 rfl (lv_at hl 1 rfl) ?_
  refine lv_iconst (v := nI 0) hx hb dX8_isLine_1 (by decide) ?_
  refine lv_aload_n hx hb dX8_isLine_2 rfl (lv_at hl 0 rfl) ?_
  refine va_get (D := D) (ci := 8) (v := .int (nI nl)) (C := RX8) (T := TX8) (N := 19) hx hb hts i_X8 hown hK.1 hP 0 rfl rfl 2 (by decide) f_58 (fun _ h9 => h9) rfl dX8_isLine_3 ?_
  refine lv_iconst (v := nI 1) hx hb dX8_isLine_6 (by decide) ?_
  refine lv_isub hx hb dX8_isLine_7 ?_
  refine m_rdS (As := [.int x, .int (nI 0), .int ((nI nl) - (nI 1))]) (rest := []) (wc := []) hcf (k_X8_in (l := l) (D := D) (cI := cI) (cZ := cZ) (x := x) (lo := nI 0) (hi := (nI nl) - (nI 1)) ) (va_cwS 3 hts gX8_isLine_X8_in rfl rfl rfl yd_X8_in.2 ⟨Nat.le_of_ble_eq_true rfl, Nat.le_of_ble_eq_true rfl⟩) (m_preS hK hP hD [] (by decide) rfl) rfl hl.1 rfl (Nat.le_of_ble_eq_true rfl) dX8_isLine_8 ⟨Nat.zero_le _, Nat.zero_le _⟩ ?_
  rw [hQ]
  exact m_zrd hx hb hr hlocks (by rw [inB_ix (by omega) (by decide), Nat.add_sub_cancel]) dX8_isLine_11

theorem yd_X8_say : yX8_say.cls = RX8 ∧ yX8_say.cls ≠ "java/lang/invoke/MethodHandle" ∧ yX8_say.cls ≠ "java/lang/invoke/VarHandle" ∧ (parseMethodDescriptor yX8_say.desc).map (fun d => d.parameters.length) = some 1 := by decide +kernel
set_option maxHeartbeats 4000000 in
set_option maxRecDepth 100000 in
theorem k_X8_say (l : Launch) (D : va_G) (cI cZ : ClassId) (mo ps mpa nl nv msz mcd mbe mba : Nat) (ol : Int32) (op os svn ms1 ms2 ms3 ms4 mfa mim mik : Nat) (pd : Nat → Nat) (sgn : Int32) (hps : ps ≤ 8) : Met l yX8_say wsX8_say ({ frames := 1, cells := 0, slots := 0, locals := 22 }) (mPc [.ref mo, .int sgn] D cI cZ [(mo, .inr (8, [.int (nI ps), .ref mpa, .int (nI nl), .int (nI nv), .ref msz, .ref mcd, .ref mbe, .ref mba, .int ol, .int (nI op), .int (nI os), .int (nI svn), .ref ms1, .ref ms2, .ref ms3, .ref ms4, .ref mfa, .ref mim, .ref mik])), (mpa, aN cI 8 pd)]) (mQi D (mA [(mo, .inr (8, [.int (nI ps), .ref mpa, .int (nI nl), .int (nI nv), .ref msz, .ref mcd, .ref mbe, .ref mba, .int ol, .int (nI op), .int (nI os), .int (nI svn), .ref ms1, .ref ms2, .ref ms3, .ref ms4, .ref mfa, .ref mim, .ref mik])), (mpa, aN cI 8 pd)]) (fun (r : Int32) (u : Nat × (Nat → Nat)) => r = sayR ps sgn ∧ (u.1, u.2) = sayS ps pd sgn) (fun (u : Nat × (Nat → Nat)) => [(mo, .inr (8, [.int (nI u.1), .ref mpa, .int (nI nl), .int (nI nv), .ref msz, .ref mcd, .ref mbe, .ref mba, .int ol, .int (nI op), .int (nI os), .int (nI svn), .ref ms1, .ref ms2, .ref ms3, .ref ms4, .ref mfa, .ref mim, .ref mik])), (mpa, aN cI 8 u.2)])) 0 0 (mA [(mo, .inr (8, [.int (nI ps), .ref mpa, .int (nI nl), .int (nI nv), .ref msz, .ref mcd, .ref mbe, .ref mba, .int ol, .int (nI op), .int (nI os), .int (nI svn), .ref ms1, .ref ms2, .ref ms3, .ref ms4, .ref mfa, .ref mim, .ref mik])), (mpa, aN cI 8 pd)]) := by
  refine Met.ofW (cc := cX8_say) (maxL := 2) (ret := (some .int)) (by decide) rfl ?_
  intro p e s m args below meth c s₁ BB hml hv
  obtain ⟨hargs, hP, hD0, hK⟩ := hv
  have hx := BB.exec
  have hb := BB.bytes
  have hr := BB.returns
  have hts := atoms_spec (ws := wsX8_say) BB.pre
  have hown : s.vm.findClass RX8 = some m.cls := findClass_of_methodNamed BB.named
  have hlocks := BB.notSynchronized
  have hcf : CallFix p m c cX8_say 2 s args wsX8_say RX8 := ⟨hx, hb, hml, hown, hts⟩
  obtain ⟨A, hAe⟩ : ∃ A, A = mA [(mo, .inr (8, [.int (nI ps), .ref mpa, .int (nI nl), .int (nI nv), .ref msz, .ref mcd, .ref mbe, .ref mba, .int ol, .int (nI op), .int (nI os), .int (nI svn), .ref ms1, .ref ms2, .ref ms3, .ref ms4, .ref mfa, .ref mim, .ref mik])), (mpa, aN cI 8 pd)] := ⟨_, rfl⟩
  have hD : va_D A [(mo, .inr (8, [.int (nI ps), .ref mpa, .int (nI nl), .int (nI nv), .ref msz, .ref mcd, .ref mbe, .ref mba, .int ol, .int (nI op), .int (nI os), .int (nI svn), .ref ms1, .ref ms2, .ref ms3, .ref ms4, .ref mfa, .ref mim, .ref mik])), (mpa, aN cI 8 pd)] := ⟨hD0.1, fun k q h => by rw [hAe]; exact ⟨k, q.2, h⟩⟩
  have hS : va_S A s.heap s.heap [] := va_S.rf
  rw [← hAe]
  rw [hargs, lg_entry_eq, ← hargs]
  have hl := lv_entry ([.ref mo, .int sgn]) (n := 2) (Nat.le_of_ble_eq_true rfl)
  generalize (lg_sl ([.ref mo, .int sgn]) ++ List.replicate (2 - (lg_sl ([.ref mo, .int sgn])).length) Slot.unset).toArray = ls at hl ⊢
  have hl : lv_has ls 2 [(0, .ref mo), (1, .int sgn)] := hl
  obtain ⟨Q, hQ⟩ : ∃ Q, Q = MQ below (mQi D A (fun (r : Int32) (u : Nat × (Nat → Nat)) => r = sayR ps sgn ∧ (u.1, u.2) = sayS ps pd sgn) (fun (u : Nat × (Nat → Nat)) => [(mo, .inr (8, [.int (nI u.1), .ref mpa, .int (nI nl), .int (nI nv), .ref msz, .ref mcd, .ref mbe, .ref mba, .int ol, .int (nI op), .int (nI os), .int (nI svn), .ref ms1, .ref ms2, .ref ms3, .ref ms4, .ref mfa, .ref mim, .ref mik])), (mpa, aN cI 8 u.2)])) args s 0 0 A := ⟨_, rfl⟩
  rw [← hQ]
  have i_X8 : ∀ w ∈ u_ws RX8 TX8 19, w ∈ wsX8_say := by decide +kernel
  have f_61 := hts (.fieldLink RX8 61 "SameAgainModel" "signs" "I") (by decide +kernel)
  have f_7 := hts (.fieldLink RX8 7 "SameAgainModel" "pad" "[I") (by decide +kernel)
  refine lv_iload_n hx hb dX8_say_0 rfl (lv_at hl 1 rfl) ?_
  refine lv_bipush (v := nI 33) hx hb dX8_say_1 (by decide) ?_
  refine lv_bipush (v := nI 126) hx hb dX8_say_3 (by decide) ?_
  refine m_rdS (As := [.int sgn, .int (nI 33), .int (nI 126)]) (rest := []) (wc := []) hcf (k_X8_in (l := l) (D := D) (cI := cI) (cZ := cZ) (x := sgn) (lo := nI 33) (hi := nI 126) ) (va_cwS 3 hts gX8_say_X8_in rfl rfl rfl yd_X8_in.2 ⟨Nat.le_of_ble_eq_true rfl, Nat.le_of_ble_eq_true rfl⟩) (m_preS hK hP hD [] (by decide) rfl) rfl hl.1 rfl (Nat.le_of_ble_eq_true rfl) dX8_say_5 ⟨Nat.zero_le _, Nat.zero_le _⟩ ?_
  refine m_top (y := bI (sgB sgn)) rfl ?_
  refine m_ifB_ne (tgt := 14) hx hb dX8_say_8 (by decide) (fun c_8 => ?_) (fun c_8 => ?_)
  · obtain ⟨e_s, i_s, j_s⟩ := sgB_cN c_8
    have hl : lv_has ls 2 [(0, .ref mo), (1, .int (nI (cN sgn)))] := by rw [← e_s]; exact hl
    refine lv_aload_n hx hb dX8_say_14 rfl (lv_at hl 0 rfl) ?_
    refine va_get (D := D) (ci := 8) (v := .int (nI ps)) (C := RX8) (T := TX8) (N := 19) hx hb hts i_X8 hown hK.1 hP 0 rfl rfl 0 (by decide) f_61 (fun _ h9 => h9) rfl dX8_say_15 ?_
    refine lv_bipush (v := nI 8) hx hb dX8_say_18 (by decide) ?_
    refine m_cmp_ne (tgt := 26) hx hb dX8_say_20 (by decide) (by omega) (by omega) (fun c_20 => ?_) (fun c_20 => ?_)
    · refine lv_aload_n hx hb dX8_say_26 rfl (lv_at hl 0 rfl) ?_
      refine va_get (D := D) (ci := 8) (v := .ref mpa) (C := RX8) (T := TX8) (N := 19) hx hb hts i_X8 hown hK.1 hP 0 rfl rfl 1 (by decide) f_7 (fun _ h9 => h9) rfl dX8_say_27 ?_
      refine lv_aload_n hx hb dX8_say_30 rfl (lv_at hl 0 rfl) ?_
      refine va_get (D := D) (ci := 8) (v := .int (nI ps)) (C := RX8) (T := TX8) (N := 19) hx hb hts i_X8 hown hK.1 hP 0 rfl rfl 0 (by decide) f_61 (fun _ h9 => h9) rfl dX8_say_31 ?_
      refine lv_iload_n hx hb dX8_say_34 rfl (lv_at hl 1 rfl) ?_
      refine m_ast hx hb hK hP hD hS 1 rfl (by decide) (by omega) dX8_say_35 (ws' := [(mo, .inr (8, [.int (nI ps), .ref mpa, .int (nI nl), .int (nI nv), .ref msz, .ref mcd, .ref mbe, .ref mba, .int ol, .int (nI op), .int (nI os), .int (nI svn), .ref ms1, .ref ms2, .ref ms3, .ref ms4, .ref mfa, .ref mim, .ref mik])), (mpa, aN cI 8 (upN pd ps (cN sgn)))]) rfl (fun H locs hP hD hS => ?_)
      refine lv_aload_n hx hb dX8_say_36 rfl (lv_at hl 0 rfl) ?_
      refine lv_dup hx hb dX8_say_37 rfl ?_
      refine va_get (D := D) (ci := 8) (v := .int (nI ps)) (C := RX8) (T := TX8) (N := 19) hx hb hts i_X8 hown hK.1 hP 0 rfl rfl 0 (by decide) f_61 (fun _ h9 => h9) rfl dX8_say_38 ?_
      refine lv_iconst (v := nI 1) hx hb dX8_say_41 (by decide) ?_
      refine m_add hx hb dX8_say_42 ?_
      refine va_put (D := D) (ci := 8) (v := .int (nI (ps + 1))) (ty := .int) (C := RX8) (T := TX8) (N := 19) hx hb hts i_X8 tyX8 tyX8_ok nmX8 hown hK.1 hP hD hS 0 rfl rfl 0 (by decide) f_61 (fun _ h9 => h9) rfl (by decide +kernel) rfl rfl (Nat.le_of_ble_eq_true rfl) dX8_say_43 (fun H locs hP hD hS => ?_)
      have hP : va_P D vwCl [(mo, .inr (8, [.int (nI (ps + 1)), .ref mpa, .int (nI nl), .int (nI nv), .ref msz, .ref mcd, .ref mbe, .ref mba, .int ol, .int (nI op), .int (nI os), .int (nI svn), .ref ms1, .ref ms2, .ref ms3, .ref ms4, .ref mfa, .ref mim, .ref mik])), (mpa, aN cI 8 (upN pd ps (cN sgn)))] H := hP
      have hD : va_D A [(mo, .inr (8, [.int (nI (ps + 1)), .ref mpa, .int (nI nl), .int (nI nv), .ref msz, .ref mcd, .ref mbe, .ref mba, .int ol, .int (nI op), .int (nI os), .int (nI svn), .ref ms1, .ref ms2, .ref ms3, .ref ms4, .ref mfa, .ref mim, .ref mik])), (mpa, aN cI 8 (upN pd ps (cN sgn)))] := hD
      refine lv_aload_n hx hb dX8_say_46 rfl (lv_at hl 0 rfl) ?_
      refine va_get (D := D) (ci := 8) (v := .int (nI (ps + 1))) (C := RX8) (T := TX8) (N := 19) hx hb hts i_X8 hown hK.1 hP 0 rfl rfl 0 (by decide) f_61 (fun _ h9 => h9) rfl dX8_say_47 ?_
      rw [hQ]
      exact m_iwr hx hb hr hlocks (ps + 1, upN pd ps (cN sgn)) (⟨by unfold sayR; rw [if_pos c_8, if_pos (by omega)], by unfold sayS; rw [if_pos ⟨c_8, by omega⟩]⟩) hP hS dX8_say_50
    · refine lv_bipush (v := (-4)) hx hb dX8_say_23 (by decide) ?_
      rw [hQ]
      exact m_iwr hx hb hr hlocks (ps, pd) (⟨by unfold sayR; rw [if_pos c_8, if_neg (by omega)], by unfold sayS; rw [if_neg (by omega)]⟩) hP hS dX8_say_25
  · refine lv_bipush (v := (-2)) hx hb dX8_say_11 (by decide) ?_
    rw [hQ]
    exact m_iwr hx hb hr hlocks (ps, pd) (⟨by unfold sayR; rw [if_neg (by rw [c_8]; decide)], by unfold sayS; rw [if_neg (fun h => by rw [c_8] at h; cases h.1)]⟩) hP hS dX8_say_13

theorem yd_X8_wipe : yX8_wipe.cls = RX8 ∧ yX8_wipe.cls ≠ "java/lang/invoke/MethodHandle" ∧ yX8_wipe.cls ≠ "java/lang/invoke/VarHandle" ∧ (parseMethodDescriptor yX8_wipe.desc).map (fun d => d.parameters.length) = some 0 := by decide +kernel
set_option maxHeartbeats 4000000 in
set_option maxRecDepth 100000 in
theorem k_X8_wipe (l : Launch) (D : va_G) (cI cZ : ClassId) (mo ps mpa nl nv msz mcd mbe mba : Nat) (ol : Int32) (op os svn ms1 ms2 ms3 ms4 mfa mim mik : Nat)  : Met l yX8_wipe wsX8_wipe ({ frames := 0, cells := 0, slots := 0, locals := 0 }) (mPc [.ref mo] D cI cZ [(mo, .inr (8, [.int (nI ps), .ref mpa, .int (nI nl), .int (nI nv), .ref msz, .ref mcd, .ref mbe, .ref mba, .int ol, .int (nI op), .int (nI os), .int (nI svn), .ref ms1, .ref ms2, .ref ms3, .ref ms4, .ref mfa, .ref mim, .ref mik]))]) (mQi D (mA [(mo, .inr (8, [.int (nI ps), .ref mpa, .int (nI nl), .int (nI nv), .ref msz, .ref mcd, .ref mbe, .ref mba, .int ol, .int (nI op), .int (nI os), .int (nI svn), .ref ms1, .ref ms2, .ref ms3, .ref ms4, .ref mfa, .ref mim, .ref mik]))]) (fun (r : Int32) (u : Unit) => r = nI ps) (fun (u : Unit) => [(mo, .inr (8, [.int (nI 0), .ref mpa, .int (nI nl), .int (nI nv), .ref msz, .ref mcd, .ref mbe, .ref mba, .int ol, .int (nI op), .int (nI os), .int (nI svn), .ref ms1, .ref ms2, .ref ms3, .ref ms4, .ref mfa, .ref mim, .ref mik]))])) 0 0 (mA [(mo, .inr (8, [.int (nI ps), .ref mpa, .int (nI nl), .int (nI nv), .ref msz, .ref mcd, .ref mbe, .ref mba, .int ol, .int (nI op), .int (nI os), .int (nI svn), .ref ms1, .ref ms2, .ref ms3, .ref ms4, .ref mfa, .ref mim, .ref mik]))]) := by
  refine Met.ofW (cc := cX8_wipe) (maxL := 2) (ret := (some .int)) (by decide) rfl ?_
  intro p e s m args below meth c s₁ BB hml hv
  obtain ⟨hargs, hP, hD0, hK⟩ := hv
  have hx := BB.exec
  have hb := BB.bytes
  have hr := BB.returns
  have hts := atoms_spec (ws := wsX8_wipe) BB.pre
  have hown : s.vm.findClass RX8 = some m.cls := findClass_of_methodNamed BB.named
  have hlocks := BB.notSynchronized
  have hcf : CallFix p m c cX8_wipe 2 s args wsX8_wipe RX8 := ⟨hx, hb, hml, hown, hts⟩
  obtain ⟨A, hAe⟩ : ∃ A, A = mA [(mo, .inr (8, [.int (nI ps), .ref mpa, .int (nI nl), .int (nI nv), .ref msz, .ref mcd, .ref mbe, .ref mba, .int ol, .int (nI op), .int (nI os), .int (nI svn), .ref ms1, .ref ms2, .ref ms3, .ref ms4, .ref mfa, .ref mim, .ref mik]))] := ⟨_, rfl⟩
  have hD : va_D A [(mo, .inr (8, [.int (nI ps), .ref mpa, .int (nI nl), .int (nI nv), .ref msz, .ref mcd, .ref mbe, .ref mba, .int ol, .int (nI op), .int (nI os), .int (nI svn), .ref ms1, .ref ms2, .ref ms3, .ref ms4, .ref mfa, .ref mim, .ref mik]))] := ⟨hD0.1, fun k q h => by rw [hAe]; exact ⟨k, q.2, h⟩⟩
  have hS : va_S A s.heap s.heap [] := va_S.rf
  rw [← hAe]
  rw [hargs, lg_entry_eq, ← hargs]
  have hl := lv_entry ([.ref mo]) (n := 2) (Nat.le_of_ble_eq_true rfl)
  generalize (lg_sl ([.ref mo]) ++ List.replicate (2 - (lg_sl ([.ref mo])).length) Slot.unset).toArray = ls at hl ⊢
  have hl : lv_has ls 2 [(0, .ref mo)] := hl
  obtain ⟨Q, hQ⟩ : ∃ Q, Q = MQ below (mQi D A (fun (r : Int32) (u : Unit) => r = nI ps) (fun (u : Unit) => [(mo, .inr (8, [.int (nI 0), .ref mpa, .int (nI nl), .int (nI nv), .ref msz, .ref mcd, .ref mbe, .ref mba, .int ol, .int (nI op), .int (nI os), .int (nI svn), .ref ms1, .ref ms2, .ref ms3, .ref ms4, .ref mfa, .ref mim, .ref mik]))])) args s 0 0 A := ⟨_, rfl⟩
  rw [← hQ]
  have i_X8 : ∀ w ∈ u_ws RX8 TX8 19, w ∈ wsX8_wipe := by decide +kernel
  have f_61 := hts (.fieldLink RX8 61 "SameAgainModel" "signs" "I") (by decide +kernel)
  refine lv_aload_n hx hb dX8_wipe_0 rfl (lv_at hl 0 rfl) ?_
  refine va_get (D := D) (ci := 8) (v := .int (nI ps)) (C := RX8) (T := TX8) (N := 19) hx hb hts i_X8 hown hK.1 hP 0 rfl rfl 0 (by decide) f_61 (fun _ h9 => h9) rfl dX8_wipe_1 ?_
  refine lv_istore_n (lv' := [(1, .int (nI ps)), (0, .ref mo)]) hx hb dX8_wipe_4 rfl hl (by decide) rfl (fun ls hl => ?_)
  refine lv_aload_n hx hb dX8_wipe_5 rfl (lv_at hl 1 rfl) ?_
  refine lv_iconst (v := nI 0) hx hb dX8_wipe_6 (by decide) ?_
  refine va_put (D := D) (ci := 8) (v := .int (nI 0)) (ty := .int) (C := RX8) (T := TX8) (N := 19) hx hb hts i_X8 tyX8 tyX8_ok nmX8 hown hK.1 hP hD hS 0 rfl rfl 0 (by decide) f_61 (fun _ h9 => h9) rfl (by decide +kernel) rfl rfl (Nat.le_of_ble_eq_true rfl) dX8_wipe_7 (fun H locs hP hD hS => ?_)
  have hP : va_P D vwCl [(mo, .inr (8, [.int (nI 0), .ref mpa, .int (nI nl), .int (nI nv), .ref msz, .ref mcd, .ref mbe, .ref mba, .int ol, .int (nI op), .int (nI os), .int (nI svn), .ref ms1, .ref ms2, .ref ms3, .ref ms4, .ref mfa, .ref mim, .ref mik]))] H := hP
  have hD : va_D A [(mo, .inr (8, [.int (nI 0), .ref mpa, .int (nI nl), .int (nI nv), .ref msz, .ref mcd, .ref mbe, .ref mba, .int ol, .int (nI op), .int (nI os), .int (nI svn), .ref ms1, .ref ms2, .ref ms3, .ref ms4, .ref mfa, .ref mim, .ref mik]))] := hD
  refine lv_iload_n hx hb dX8_wipe_10 rfl (lv_at hl 0 rfl) ?_
  rw [hQ]
  exact m_iwr hx hb hr hlocks () (rfl) hP hS dX8_wipe_11

theorem yd_X8_put : yX8_put.cls = RX8 ∧ yX8_put.cls ≠ "java/lang/invoke/MethodHandle" ∧ yX8_put.cls ≠ "java/lang/invoke/VarHandle" ∧ (parseMethodDescriptor yX8_put.desc).map (fun d => d.parameters.length) = some 2 := by decide +kernel
set_option maxHeartbeats 4000000 in
set_option maxRecDepth 100000 in
theorem k_X8_put (l : Launch) (D : va_G) (cI cZ : ClassId) (mo ps mpa nl nv msz mcd mbe mba : Nat) (ol : Int32) (op os svn ms1 ms2 ms3 ms4 mfa mim mik : Nat) (pd z g : Nat → Nat) (v ln : Nat) (hv : v < 4) (hln : ln < 20) (hps : ps ≤ 8) : Met l yX8_put wsX8_put ({ frames := 0, cells := 0, slots := 0, locals := 0 }) (mPc [.ref mo, .int (nI v), .int (nI ln)] D cI cZ [(mo, .inr (8, [.int (nI ps), .ref mpa, .int (nI nl), .int (nI nv), .ref msz, .ref mcd, .ref mbe, .ref mba, .int ol, .int (nI op), .int (nI os), .int (nI svn), .ref ms1, .ref ms2, .ref ms3, .ref ms4, .ref mfa, .ref mim, .ref mik])), (mpa, aN cI 8 pd), (msz, aN cI 80 z), (mcd, aN cI 640 g)]) (mQv D (mA [(mo, .inr (8, [.int (nI ps), .ref mpa, .int (nI nl), .int (nI nv), .ref msz, .ref mcd, .ref mbe, .ref mba, .int ol, .int (nI op), .int (nI os), .int (nI svn), .ref ms1, .ref ms2, .ref ms3, .ref ms4, .ref mfa, .ref mim, .ref mik])), (mpa, aN cI 8 pd), (msz, aN cI 80 z), (mcd, aN cI 640 g)]) (fun (u : Unit) => True) (fun (u : Unit) => [(mo, .inr (8, [.int (nI ps), .ref mpa, .int (nI nl), .int (nI nv), .ref msz, .ref mcd, .ref mbe, .ref mba, .int ol, .int (nI op), .int (nI os), .int (nI svn), .ref ms1, .ref ms2, .ref ms3, .ref ms4, .ref mfa, .ref mim, .ref mik])), (mpa, aN cI 8 pd), (msz, aN cI 80 (upN z (v * 20 + ln) ps)), (mcd, aN cI 640 (cpN pd g 0 ((v * 20 + ln) * 8) ps))])) 0 0 (mA [(mo, .inr (8, [.int (nI ps), .ref mpa, .int (nI nl), .int (nI nv), .ref msz, .ref mcd, .ref mbe, .ref mba, .int ol, .int (nI op), .int (nI os), .int (nI svn), .ref ms1, .ref ms2, .ref ms3, .ref ms4, .ref mfa, .ref mim, .ref mik])), (mpa, aN cI 8 pd), (msz, aN cI 80 z), (mcd, aN cI 640 g)]) := by
  refine Met.ofW (cc := cX8_put) (maxL := 4) (ret := none) (by decide) rfl ?_
  intro p e s m args below meth c s₁ BB hml hv
  obtain ⟨hargs, hP, hD0, hK⟩ := hv
  have hx := BB.exec
  have hb := BB.bytes
  have hr := BB.returns
  have hts := atoms_spec (ws := wsX8_put) BB.pre
  have hown : s.vm.findClass RX8 = some m.cls := findClass_of_methodNamed BB.named
  have hlocks := BB.notSynchronized
  have hcf : CallFix p m c cX8_put 4 s args wsX8_put RX8 := ⟨hx, hb, hml, hown, hts⟩
  obtain ⟨A, hAe⟩ : ∃ A, A = mA [(mo, .inr (8, [.int (nI ps), .ref mpa, .int (nI nl), .int (nI nv), .ref msz, .ref mcd, .ref mbe, .ref mba, .int ol, .int (nI op), .int (nI os), .int (nI svn), .ref ms1, .ref ms2, .ref ms3, .ref ms4, .ref mfa, .ref mim, .ref mik])), (mpa, aN cI 8 pd), (msz, aN cI 80 z), (mcd, aN cI 640 g)] := ⟨_, rfl⟩
  have hD : va_D A [(mo, .inr (8, [.int (nI ps), .ref mpa, .int (nI nl), .int (nI nv), .ref msz, .ref mcd, .ref mbe, .ref mba, .int ol, .int (nI op), .int (nI os), .int (nI svn), .ref ms1, .ref ms2, .ref ms3, .ref ms4, .ref mfa, .ref mim, .ref mik])), (mpa, aN cI 8 pd), (msz, aN cI 80 z), (mcd, aN cI 640 g)] := ⟨hD0.1, fun k q h => by rw [hAe]; exact ⟨k, q.2, h⟩⟩
  have hS : va_S A s.heap s.heap [] := va_S.rf
  rw [← hAe]
  rw [hargs, lg_entry_eq, ← hargs]
  have hl := lv_entry ([.ref mo, .int (nI v), .int (nI ln)]) (n := 4) (Nat.le_of_ble_eq_true rfl)
  generalize (lg_sl ([.ref mo, .int (nI v), .int (nI ln)]) ++ List.replicate (4 - (lg_sl ([.ref mo, .int (nI v), .int (nI ln)])).length) Slot.unset).toArray = ls at hl ⊢
  have hl : lv_has ls 4 [(0, .ref mo), (1, .int (nI v)), (2, .int (nI ln))] := hl
  obtain ⟨Q, hQ⟩ : ∃ Q, Q = MQ below (mQv D A (fun (u : Unit) => True) (fun (u : Unit) => [(mo, .inr (8, [.int (nI ps), .ref mpa, .int (nI nl), .int (nI nv), .ref msz, .ref mcd, .ref mbe, .ref mba, .int ol, .int (nI op), .int (nI os), .int (nI svn), .ref ms1, .ref ms2, .ref ms3, .ref ms4, .ref mfa, .ref mim, .ref mik])), (mpa, aN cI 8 pd), (msz, aN cI 80 (upN z (v * 20 + ln) ps)), (mcd, aN cI 640 (cpN pd g 0 ((v * 20 + ln) * 8) ps))])) args s 0 0 A := ⟨_, rfl⟩
  rw [← hQ]
  have i_X8 : ∀ w ∈ u_ws RX8 TX8 19, w ∈ wsX8_put := by decide +kernel
  have f_13 := hts (.fieldLink RX8 13 "SameAgainModel" "sizes" "[I") (by decide +kernel)
  have f_61 := hts (.fieldLink RX8 61 "SameAgainModel" "signs" "I") (by decide +kernel)
  have f_16 := hts (.fieldLink RX8 16 "SameAgainModel" "code" "[I") (by decide +kernel)
  have f_7 := hts (.fieldLink RX8 7 "SameAgainModel" "pad" "[I") (by decide +kernel)
  refine lv_aload_n hx hb dX8_put_0 rfl (lv_at hl 0 rfl) ?_
  refine va_get (D := D) (ci := 8) (v := .ref msz) (C := RX8) (T := TX8) (N := 19) hx hb hts i_X8 hown hK.1 hP 0 rfl rfl 4 (by decide) f_13 (fun _ h9 => h9) rfl dX8_put_1 ?_
  refine lv_bipush (v := nI 20) hx hb dX8_put_4 (by decide) ?_
  refine lv_iload_n hx hb dX8_put_6 rfl (lv_at hl 1 rfl) ?_
  refine m_mul hx hb dX8_put_7 ?_
  refine lv_iload_n hx hb dX8_put_8 rfl (lv_at hl 2 rfl) ?_
  refine m_add hx hb dX8_put_9 ?_
  refine m_top (y := nI (v * 20 + ln)) (by rw [Nat.mul_comm]) ?_
  refine lv_aload_n hx hb dX8_put_10 rfl (lv_at hl 0 rfl) ?_
  refine va_get (D := D) (ci := 8) (v := .int (nI ps)) (C := RX8) (T := TX8) (N := 19) hx hb hts i_X8 hown hK.1 hP 0 rfl rfl 0 (by decide) f_61 (fun _ h9 => h9) rfl dX8_put_11 ?_
  refine m_ast hx hb hK hP hD hS 2 rfl (by decide) (by omega) dX8_put_14 (ws' := [(mo, .inr (8, [.int (nI ps), .ref mpa, .int (nI nl), .int (nI nv), .ref msz, .ref mcd, .ref mbe, .ref mba, .int ol, .int (nI op), .int (nI os), .int (nI svn), .ref ms1, .ref ms2, .ref ms3, .ref ms4, .ref mfa, .ref mim, .ref mik])), (mpa, aN cI 8 pd), (msz, aN cI 80 (upN z (v * 20 + ln) ps)), (mcd, aN cI 640 g)]) rfl (fun H locs hP hD hS => ?_)
  refine lv_iconst (v := nI 0) hx hb dX8_put_15 (by decide) ?_
  refine lv_istore_n (lv' := [(3, .int (nI 0)), (0, .ref mo), (1, .int (nI v)), (2, .int (nI ln))]) hx hb dX8_put_16 rfl hl (by decide) rfl (fun ls hl => ?_)
  have loop_17 : ∀ (fu : Nat) (k : Nat) (g2 : Nat → Nat) (hfu : ps - k < fu)  (hk : k ≤ ps) (hg2 : g2 = cpN pd g 0 ((v * 20 + ln) * 8) k) (H : Heap) (locs : List Loc) (hP : va_P D vwCl [(mo, .inr (8, [.int (nI ps), .ref mpa, .int (nI nl), .int (nI nv), .ref msz, .ref mcd, .ref mbe, .ref mba, .int ol, .int (nI op), .int (nI os), .int (nI svn), .ref ms1, .ref ms2, .ref ms3, .ref ms4, .ref mfa, .ref mim, .ref mik])), (mpa, aN cI 8 pd), (msz, aN cI 80 (upN z (v * 20 + ln) ps)), (mcd, aN cI 640 g2)] H) (hD : va_D A [(mo, .inr (8, [.int (nI ps), .ref mpa, .int (nI nl), .int (nI nv), .ref msz, .ref mcd, .ref mbe, .ref mba, .int ol, .int (nI op), .int (nI os), .int (nI svn), .ref ms1, .ref ms2, .ref ms3, .ref ms4, .ref mfa, .ref mim, .ref mik])), (mpa, aN cI 8 pd), (msz, aN cI 80 (upN z (v * 20 + ln) ps)), (mcd, aN cI 640 g2)]) (hS : va_S A s.heap H locs) (ls : Array Slot) (hl : lv_has ls 4 [(0, .ref mo), (1, .int (nI v)), (2, .int (nI ln)), (3, .int (nI k))]), W p l e (headSpec wsX8_put { frames := 0, cells := 0, slots := 0, locals := 0 }).room s m args below meth c H locs 0 0 Q (F0 m 17 ls []) := by
    intro fu
    induction fu with
    | zero => intro k g2 hfu; exact absurd hfu (Nat.not_lt_zero _)
    | succ fu ih_17 =>
      intro k g2 hfu hk hg2 H locs hP hD hS ls hl
      refine lv_iload_n hx hb dX8_put_17 rfl (lv_at hl 3 rfl) ?_
      refine lv_aload_n hx hb dX8_put_18 rfl (lv_at hl 0 rfl) ?_
      refine va_get (D := D) (ci := 8) (v := .int (nI ps)) (C := RX8) (T := TX8) (N := 19) hx hb hts i_X8 hown hK.1 hP 0 rfl rfl 0 (by decide) f_61 (fun _ h9 => h9) rfl dX8_put_19 ?_
      refine m_cmp_ge (tgt := 54) hx hb dX8_put_22 (by decide) (by omega) (by omega) (fun c_22 => ?_) (fun c_22 => ?_)
      · rw [hQ]
        have e9 : k = ps := by omega
        rw [hg2, e9] at hP
        exact m_vwr hx hb hr hlocks () (trivial) hP hS dX8_put_54
      · refine lv_aload_n hx hb dX8_put_25 rfl (lv_at hl 0 rfl) ?_
        refine va_get (D := D) (ci := 8) (v := .ref mcd) (C := RX8) (T := TX8) (N := 19) hx hb hts i_X8 hown hK.1 hP 0 rfl rfl 5 (by decide) f_16 (fun _ h9 => h9) rfl dX8_put_26 ?_
        refine lv_sipush (v := nI 160) hx hb dX8_put_29 (by decide) ?_
        refine lv_iload_n hx hb dX8_put_32 rfl (lv_at hl 1 rfl) ?_
        refine m_mul hx hb dX8_put_33 ?_
        refine lv_bipush (v := nI 8) hx hb dX8_put_34 (by decide) ?_
        refine lv_iload_n hx hb dX8_put_36 rfl (lv_at hl 2 rfl) ?_
        refine m_mul hx hb dX8_put_37 ?_
        refine m_add hx hb dX8_put_38 ?_
        refine lv_iload_n hx hb dX8_put_39 rfl (lv_at hl 3 rfl) ?_
        refine m_add hx hb dX8_put_40 ?_
        refine m_top (y := nI ((v * 20 + ln) * 8 + k)) (by congr 1; omega) ?_
        refine lv_aload_n hx hb dX8_put_41 rfl (lv_at hl 0 rfl) ?_
        refine va_get (D := D) (ci := 8) (v := .ref mpa) (C := RX8) (T := TX8) (N := 19) hx hb hts i_X8 hown hK.1 hP 0 rfl rfl 1 (by decide) f_7 (fun _ h9 => h9) rfl dX8_put_42 ?_
        refine lv_iload_n hx hb dX8_put_45 rfl (lv_at hl 3 rfl) ?_
        refine m_ald hx hb hK hP 1 rfl (by decide) (by omega) dX8_put_46 ?_
        refine m_ast hx hb hK hP hD hS 3 rfl (by decide) (by omega) dX8_put_47 (ws' := [(mo, .inr (8, [.int (nI ps), .ref mpa, .int (nI nl), .int (nI nv), .ref msz, .ref mcd, .ref mbe, .ref mba, .int ol, .int (nI op), .int (nI os), .int (nI svn), .ref ms1, .ref ms2, .ref ms3, .ref ms4, .ref mfa, .ref mim, .ref mik])), (mpa, aN cI 8 pd), (msz, aN cI 80 (upN z (v * 20 + ln) ps)), (mcd, aN cI 640 (upN g2 ((v * 20 + ln) * 8 + k) (pd k)))]) rfl (fun H locs hP hD hS => ?_)
        refine lv_iinc (v := nI (k + 1)) (lv' := [(3, .int (nI (k + 1))), (0, .ref mo), (1, .int (nI v)), (2, .int (nI ln))]) hx hb dX8_put_48 hl (k := 3) rfl ((nI_succ _).symm) (by decide) rfl (fun ls hl => ?_)
        refine lv_goto (tgt := 17) hx hb dX8_put_51 (by decide) ?_
        exact ih_17 (k + 1) _ (by omega) (by omega) (by rw [hg2, ← cp_s, Nat.zero_add]) _ _ hP hD hS ls (lv_sub hl [1, 2, 3, 0] rfl)
  exact loop_17 (ps + 1) 0 g (by omega) (by omega) (cp_0 _ _ _ _).symm _ _ hP hD hS ls (lv_sub hl [1, 2, 3, 0] rfl)

theorem yd_X8_line : yX8_line.cls = RX8 ∧ yX8_line.cls ≠ "java/lang/invoke/MethodHandle" ∧ yX8_line.cls ≠ "java/lang/invoke/VarHandle" ∧ (parseMethodDescriptor yX8_line.desc).map (fun d => d.parameters.length) = some 0 := by decide +kernel
set_option maxHeartbeats 4000000 in
set_option maxRecDepth 100000 in
theorem k_X8_line (l : Launch) (D : va_G) (cI cZ : ClassId) (mo ps mpa nl nv msz mcd mbe mba : Nat) (ol : Int32) (op os svn ms1 ms2 ms3 ms4 mfa mim mik : Nat) (pd z g : Nat → Nat) (hnl : nl ≤ 20) (hnv : nv ≤ 4) (hps : ps ≤ 8) : Met l yX8_line wsX8_line ({ frames := 1, cells := 0, slots := 0, locals := 23 }) (mPc [.ref mo] D cI cZ [(mo, .inr (8, [.int (nI ps), .ref mpa, .int (nI nl), .int (nI nv), .ref msz, .ref mcd, .ref mbe, .ref mba, .int ol, .int (nI op), .int (nI os), .int (nI svn), .ref ms1, .ref ms2, .ref ms3, .ref ms4, .ref mfa, .ref mim, .ref mik])), (mpa, aN cI 8 pd), (msz, aN cI 80 z), (mcd, aN cI 640 g)]) (mQi D (mA [(mo, .inr (8, [.int (nI ps), .ref mpa, .int (nI nl), .int (nI nv), .ref msz, .ref mcd, .ref mbe, .ref mba, .int ol, .int (nI op), .int (nI os), .int (nI svn), .ref ms1, .ref ms2, .ref ms3, .ref ms4, .ref mfa, .ref mim, .ref mik])), (mpa, aN cI 8 pd), (msz, aN cI 80 z), (mcd, aN cI 640 g)]) (fun (r : Int32) (u : Nat × (Nat → Nat) × (Nat → Nat) × Nat) => r = lineR nl ps ∧ (u.1, u.2.1, u.2.2.1, u.2.2.2) = lineS nl nv z g ps pd) (fun (u : Nat × (Nat → Nat) × (Nat → Nat) × Nat) => [(mo, .inr (8, [.int (nI u.2.2.2), .ref mpa, .int (nI u.1), .int (nI nv), .ref msz, .ref mcd, .ref mbe, .ref mba, .int ol, .int (nI op), .int (nI os), .int (nI svn), .ref ms1, .ref ms2, .ref ms3, .ref ms4, .ref mfa, .ref mim, .ref mik])), (mpa, aN cI 8 pd), (msz, aN cI 80 u.2.1), (mcd, aN cI 640 u.2.2.1)])) 0 0 (mA [(mo, .inr (8, [.int (nI ps), .ref mpa, .int (nI nl), .int (nI nv), .ref msz, .ref mcd, .ref mbe, .ref mba, .int ol, .int (nI op), .int (nI os), .int (nI svn), .ref ms1, .ref ms2, .ref ms3, .ref ms4, .ref mfa, .ref mim, .ref mik])), (mpa, aN cI 8 pd), (msz, aN cI 80 z), (mcd, aN cI 640 g)]) := by
  refine Met.ofW (cc := cX8_line) (maxL := 2) (ret := (some .int)) (by decide) rfl ?_
  intro p e s m args below meth c s₁ BB hml hv
  obtain ⟨hargs, hP, hD0, hK⟩ := hv
  have hx := BB.exec
  have hb := BB.bytes
  have hr := BB.returns
  have hts := atoms_spec (ws := wsX8_line) BB.pre
  have hown : s.vm.findClass RX8 = some m.cls := findClass_of_methodNamed BB.named
  have hlocks := BB.notSynchronized
  have hcf : CallFix p m c cX8_line 2 s args wsX8_line RX8 := ⟨hx, hb, hml, hown, hts⟩
  obtain ⟨A, hAe⟩ : ∃ A, A = mA [(mo, .inr (8, [.int (nI ps), .ref mpa, .int (nI nl), .int (nI nv), .ref msz, .ref mcd, .ref mbe, .ref mba, .int ol, .int (nI op), .int (nI os), .int (nI svn), .ref ms1, .ref ms2, .ref ms3, .ref ms4, .ref mfa, .ref mim, .ref mik])), (mpa, aN cI 8 pd), (msz, aN cI 80 z), (mcd, aN cI 640 g)] := ⟨_, rfl⟩
  have hD : va_D A [(mo, .inr (8, [.int (nI ps), .ref mpa, .int (nI nl), .int (nI nv), .ref msz, .ref mcd, .ref mbe, .ref mba, .int ol, .int (nI op), .int (nI os), .int (nI svn), .ref ms1, .ref ms2, .ref ms3, .ref ms4, .ref mfa, .ref mim, .ref mik])), (mpa, aN cI 8 pd), (msz, aN cI 80 z), (mcd, aN cI 640 g)] := ⟨hD0.1, fun k q h => by rw [hAe]; exact ⟨k, q.2, h⟩⟩
  have hS : va_S A s.heap s.heap [] := va_S.rf
  rw [← hAe]
  rw [hargs, lg_entry_eq, ← hargs]
  have hl := lv_entry ([.ref mo]) (n := 2) (Nat.le_of_ble_eq_true rfl)
  generalize (lg_sl ([.ref mo]) ++ List.replicate (2 - (lg_sl ([.ref mo])).length) Slot.unset).toArray = ls at hl ⊢
  have hl : lv_has ls 2 [(0, .ref mo)] := hl
  obtain ⟨Q, hQ⟩ : ∃ Q, Q = MQ below (mQi D A (fun (r : Int32) (u : Nat × (Nat → Nat) × (Nat → Nat) × Nat) => r = lineR nl ps ∧ (u.1, u.2.1, u.2.2.1, u.2.2.2) = lineS nl nv z g ps pd) (fun (u : Nat × (Nat → Nat) × (Nat → Nat) × Nat) => [(mo, .inr (8, [.int (nI u.2.2.2), .ref mpa, .int (nI u.1), .int (nI nv), .ref msz, .ref mcd, .ref mbe, .ref mba, .int ol, .int (nI op), .int (nI os), .int (nI svn), .ref ms1, .ref ms2, .ref ms3, .ref ms4, .ref mfa, .ref mim, .ref mik])), (mpa, aN cI 8 pd), (msz, aN cI 80 u.2.1), (mcd, aN cI 640 u.2.2.1)])) args s 0 0 A := ⟨_, rfl⟩
  rw [← hQ]
  have i_X8 : ∀ w ∈ u_ws RX8 TX8 19, w ∈ wsX8_line := by decide +kernel
  have f_58 := hts (.fieldLink RX8 58 "SameAgainModel" "lines" "I") (by decide +kernel)
  have f_61 := hts (.fieldLink RX8 61 "SameAgainModel" "signs" "I") (by decide +kernel)
  have f_51 := hts (.fieldLink RX8 51 "SameAgainModel" "versions" "I") (by decide +kernel)
  refine lv_aload_n hx hb dX8_line_0 rfl (lv_at hl 0 rfl) ?_
  refine va_get (D := D) (ci := 8) (v := .int (nI nl)) (C := RX8) (T := TX8) (N := 19) hx hb hts i_X8 hown hK.1 hP 0 rfl rfl 2 (by decide) f_58 (fun _ h9 => h9) rfl dX8_line_1 ?_
  refine lv_bipush (v := nI 20) hx hb dX8_line_4 (by decide) ?_
  refine m_cmp_ne (tgt := 12) hx hb dX8_line_6 (by decide) (by omega) (by omega) (fun c_6 => ?_) (fun c_6 => ?_)
  · refine lv_aload_n hx hb dX8_line_12 rfl (lv_at hl 0 rfl) ?_
    refine va_get (D := D) (ci := 8) (v := .int (nI ps)) (C := RX8) (T := TX8) (N := 19) hx hb hts i_X8 hown hK.1 hP 0 rfl rfl 0 (by decide) f_61 (fun _ h9 => h9) rfl dX8_line_13 ?_
    refine m_if_ne (tgt := 22) hx hb dX8_line_16 (by decide) (by omega) (fun c_16 => ?_) (fun c_16 => ?_)
    · refine lv_iconst (v := nI 0) hx hb dX8_line_22 (by decide) ?_
      refine lv_istore_n (lv' := [(1, .int (nI 0)), (0, .ref mo)]) hx hb dX8_line_23 rfl hl (by decide) rfl (fun ls hl => ?_)
      have loop_24 : ∀ (fu : Nat) (w : Nat) (hfu : nv - w < fu)  (hw : w ≤ nv) (H : Heap) (locs : List Loc) (hP : va_P D vwCl [(mo, .inr (8, [.int (nI ps), .ref mpa, .int (nI nl), .int (nI nv), .ref msz, .ref mcd, .ref mbe, .ref mba, .int ol, .int (nI op), .int (nI os), .int (nI svn), .ref ms1, .ref ms2, .ref ms3, .ref ms4, .ref mfa, .ref mim, .ref mik])), (mpa, aN cI 8 pd), (msz, aN cI 80 (wrZ z nl ps w)), (mcd, aN cI 640 (wrG pd g nl ps w))] H) (hD : va_D A [(mo, .inr (8, [.int (nI ps), .ref mpa, .int (nI nl), .int (nI nv), .ref msz, .ref mcd, .ref mbe, .ref mba, .int ol, .int (nI op), .int (nI os), .int (nI svn), .ref ms1, .ref ms2, .ref ms3, .ref ms4, .ref mfa, .ref mim, .ref mik])), (mpa, aN cI 8 pd), (msz, aN cI 80 (wrZ z nl ps w)), (mcd, aN cI 640 (wrG pd g nl ps w))]) (hS : va_S A s.heap H locs) (ls : Array Slot) (hl : lv_has ls 2 [(0, .ref mo), (1, .int (nI w))]), W p l e (headSpec wsX8_line { frames := 1, cells := 0, slots := 0, locals := 23 }).room s m args below meth c H locs 0 0 Q (F0 m 24 ls []) := by
        intro fu
        induction fu with
        | zero => intro w hfu; exact absurd hfu (Nat.not_lt_zero _)
        | succ fu ih_24 =>
          intro w hfu hw H locs hP hD hS ls hl
          refine lv_iload_n hx hb dX8_line_24 rfl (lv_at hl 1 rfl) ?_
          refine lv_aload_n hx hb dX8_line_25 rfl (lv_at hl 0 rfl) ?_
          refine va_get (D := D) (ci := 8) (v := .int (nI nv)) (C := RX8) (T := TX8) (N := 19) hx hb hts i_X8 hown hK.1 hP 0 rfl rfl 3 (by decide) f_51 (fun _ h9 => h9) rfl dX8_line_26 ?_
          refine m_cmp_ge (tgt := 47) hx hb dX8_line_29 (by decide) (by omega) (by omega) (fun c_29 => ?_) (fun c_29 => ?_)
          · refine lv_aload_n hx hb dX8_line_47 rfl (lv_at hl 0 rfl) ?_
            refine lv_iconst (v := nI 0) hx hb dX8_line_48 (by decide) ?_
            refine va_put (D := D) (ci := 8) (v := .int (nI 0)) (ty := .int) (C := RX8) (T := TX8) (N := 19) hx hb hts i_X8 tyX8 tyX8_ok nmX8 hown hK.1 hP hD hS 0 rfl rfl 0 (by decide) f_61 (fun _ h9 => h9) rfl (by decide +kernel) rfl rfl (Nat.le_of_ble_eq_true rfl) dX8_line_49 (fun H locs hP hD hS => ?_)
            have hP : va_P D vwCl [(mo, .inr (8, [.int (nI 0), .ref mpa, .int (nI nl), .int (nI nv), .ref msz, .ref mcd, .ref mbe, .ref mba, .int ol, .int (nI op), .int (nI os), .int (nI svn), .ref ms1, .ref ms2, .ref ms3, .ref ms4, .ref mfa, .ref mim, .ref mik])), (mpa, aN cI 8 pd), (msz, aN cI 80 (wrZ z nl ps w)), (mcd, aN cI 640 (wrG pd g nl ps w))] H := hP
            have hD : va_D A [(mo, .inr (8, [.int (nI 0), .ref mpa, .int (nI nl), .int (nI nv), .ref msz, .ref mcd, .ref mbe, .ref mba, .int ol, .int (nI op), .int (nI os), .int (nI svn), .ref ms1, .ref ms2, .ref ms3, .ref ms4, .ref mfa, .ref mim, .ref mik])), (mpa, aN cI 8 pd), (msz, aN cI 80 (wrZ z nl ps w)), (mcd, aN cI 640 (wrG pd g nl ps w))] := hD
            refine lv_aload_n hx hb dX8_line_52 rfl (lv_at hl 0 rfl) ?_
            refine lv_dup hx hb dX8_line_53 rfl ?_
            refine va_get (D := D) (ci := 8) (v := .int (nI nl)) (C := RX8) (T := TX8) (N := 19) hx hb hts i_X8 hown hK.1 hP 0 rfl rfl 2 (by decide) f_58 (fun _ h9 => h9) rfl dX8_line_54 ?_
            refine lv_iconst (v := nI 1) hx hb dX8_line_57 (by decide) ?_
            refine m_add hx hb dX8_line_58 ?_
            refine va_put (D := D) (ci := 8) (v := .int (nI (nl + 1))) (ty := .int) (C := RX8) (T := TX8) (N := 19) hx hb hts i_X8 tyX8 tyX8_ok nmX8 hown hK.1 hP hD hS 0 rfl rfl 2 (by decide) f_58 (fun _ h9 => h9) rfl (by decide +kernel) rfl rfl (Nat.le_of_ble_eq_true rfl) dX8_line_59 (fun H locs hP hD hS => ?_)
            have hP : va_P D vwCl [(mo, .inr (8, [.int (nI 0), .ref mpa, .int (nI (nl + 1)), .int (nI nv), .ref msz, .ref mcd, .ref mbe, .ref mba, .int ol, .int (nI op), .int (nI os), .int (nI svn), .ref ms1, .ref ms2, .ref ms3, .ref ms4, .ref mfa, .ref mim, .ref mik])), (mpa, aN cI 8 pd), (msz, aN cI 80 (wrZ z nl ps w)), (mcd, aN cI 640 (wrG pd g nl ps w))] H := hP
            have hD : va_D A [(mo, .inr (8, [.int (nI 0), .ref mpa, .int (nI (nl + 1)), .int (nI nv), .ref msz, .ref mcd, .ref mbe, .ref mba, .int ol, .int (nI op), .int (nI os), .int (nI svn), .ref ms1, .ref ms2, .ref ms3, .ref ms4, .ref mfa, .ref mim, .ref mik])), (mpa, aN cI 8 pd), (msz, aN cI 80 (wrZ z nl ps w)), (mcd, aN cI 640 (wrG pd g nl ps w))] := hD
            refine lv_aload_n hx hb dX8_line_62 rfl (lv_at hl 0 rfl) ?_
            refine va_get (D := D) (ci := 8) (v := .int (nI (nl + 1))) (C := RX8) (T := TX8) (N := 19) hx hb hts i_X8 hown hK.1 hP 0 rfl rfl 2 (by decide) f_58 (fun _ h9 => h9) rfl dX8_line_63 ?_
            refine lv_iconst (v := nI 1) hx hb dX8_line_66 (by decide) ?_
            refine m_sub hx hb (by omega) dX8_line_67 ?_
            refine m_top (y := nI nl) rfl ?_
            rw [hQ]
            have e9 : w = nv := by omega
            exact m_iwr hx hb hr hlocks (nl + 1, wrZ z nl ps w, wrG pd g nl ps w, 0) (⟨by unfold lineR; rw [if_pos (by omega), if_neg c_16], by unfold lineS; rw [if_pos ⟨by omega, c_16⟩, e9]⟩) hP hS dX8_line_68
          · refine lv_aload_n hx hb dX8_line_32 rfl (lv_at hl 0 rfl) ?_
            refine lv_iload_n hx hb dX8_line_33 rfl (lv_at hl 1 rfl) ?_
            refine lv_aload_n hx hb dX8_line_34 rfl (lv_at hl 0 rfl) ?_
            refine va_get (D := D) (ci := 8) (v := .int (nI nl)) (C := RX8) (T := TX8) (N := 19) hx hb hts i_X8 hown hK.1 hP 0 rfl rfl 2 (by decide) f_58 (fun _ h9 => h9) rfl dX8_line_35 ?_
            refine m_wvV (As := [.int (nI w), .int (nI nl)]) (rest := []) (wc := [(mo, .inr (8, [.int (nI ps), .ref mpa, .int (nI nl), .int (nI nv), .ref msz, .ref mcd, .ref mbe, .ref mba, .int ol, .int (nI op), .int (nI os), .int (nI svn), .ref ms1, .ref ms2, .ref ms3, .ref ms4, .ref mfa, .ref mim, .ref mik])), (mpa, aN cI 8 pd), (msz, aN cI 80 (wrZ z nl ps w)), (mcd, aN cI 640 (wrG pd g nl ps w))]) hcf (k_X8_put (l := l) (D := D) (cI := cI) (cZ := cZ) (v := w) (ln := nl) (mo := mo) (ps := ps) (mpa := mpa) (nl := nl) (nv := nv) (msz := msz) (mcd := mcd) (mbe := mbe) (mba := mba) (ol := ol) (op := op) (os := os) (svn := svn) (ms1 := ms1) (ms2 := ms2) (ms3 := ms3) (ms4 := ms4) (mfa := mfa) (mim := mim) (mik := mik) (pd := pd) (z := wrZ z nl ps w) (g := wrG pd g nl ps w) (hv := by omega) (hln := by omega) (hps := hps)) (cwV 2 hts gX8_line_X8_put rfl rfl rfl yd_X8_put ⟨Nat.le_of_ble_eq_true rfl, Nat.le_of_ble_eq_true rfl⟩) hK hP hD hS [0, 1, 2, 3] (by decide) rfl rfl rfl rfl hl.1 rfl (Nat.le_of_ble_eq_true rfl) dX8_line_38 ⟨Nat.zero_le _, Nat.zero_le _⟩ (fun _ => rfl) (fun (u : Unit) => [(mo, .inr (8, [.int (nI ps), .ref mpa, .int (nI nl), .int (nI nv), .ref msz, .ref mcd, .ref mbe, .ref mba, .int ol, .int (nI op), .int (nI os), .int (nI svn), .ref ms1, .ref ms2, .ref ms3, .ref ms4, .ref mfa, .ref mim, .ref mik])), (mpa, aN cI 8 pd), (msz, aN cI 80 (upN (wrZ z nl ps w) (w * 20 + nl) ps)), (mcd, aN cI 640 (cpN pd (wrG pd g nl ps w) 0 ((w * 20 + nl) * 8) ps))]) (fun _ => rfl) (fun u H locs hp_38 hP hD hS => ?_)
            have hP : va_P D vwCl [(mo, .inr (8, [.int (nI ps), .ref mpa, .int (nI nl), .int (nI nv), .ref msz, .ref mcd, .ref mbe, .ref mba, .int ol, .int (nI op), .int (nI os), .int (nI svn), .ref ms1, .ref ms2, .ref ms3, .ref ms4, .ref mfa, .ref mim, .ref mik])), (mpa, aN cI 8 pd), (msz, aN cI 80 (upN (wrZ z nl ps w) (w * 20 + nl) ps)), (mcd, aN cI 640 (cpN pd (wrG pd g nl ps w) 0 ((w * 20 + nl) * 8) ps))] H := hP
            have hD : va_D A [(mo, .inr (8, [.int (nI ps), .ref mpa, .int (nI nl), .int (nI nv), .ref msz, .ref mcd, .ref mbe, .ref mba, .int ol, .int (nI op), .int (nI os), .int (nI svn), .ref ms1, .ref ms2, .ref ms3, .ref ms4, .ref mfa, .ref mim, .ref mik])), (mpa, aN cI 8 pd), (msz, aN cI 80 (upN (wrZ z nl ps w) (w * 20 + nl) ps)), (mcd, aN cI 640 (cpN pd (wrG pd g nl ps w) 0 ((w * 20 + nl) * 8) ps))] := hD
            refine lv_iinc (v := nI (w + 1)) (lv' := [(1, .int (nI (w + 1))), (0, .ref mo)]) hx hb dX8_line_41 hl (k := 1) rfl ((nI_succ _).symm) (by decide) rfl (fun ls hl => ?_)
            refine lv_goto (tgt := 24) hx hb dX8_line_44 (by decide) ?_
            exact ih_24 (w + 1) (by omega) (by omega) _ _ hP hD hS ls (lv_sub hl [1, 0] rfl)
      exact loop_24 (nv + 1) 0 (by omega) (by omega) _ _ hP hD hS ls (lv_sub hl [1, 0] rfl)
    · refine lv_bipush (v := (-5)) hx hb dX8_line_19 (by decide) ?_
      rw [hQ]
      exact m_iwr hx hb hr hlocks (nl, z, g, ps) (⟨by unfold lineR; rw [if_pos (by omega), if_pos c_16], by unfold lineS; rw [if_neg (by omega)]⟩) hP hS dX8_line_21
  · refine lv_bipush (v := (-4)) hx hb dX8_line_9 (by decide) ?_
    rw [hQ]
    exact m_iwr hx hb hr hlocks (nl, z, g, ps) (⟨by unfold lineR; rw [if_neg (by omega)], by unfold lineS; rw [if_neg (by omega)]⟩) hP hS dX8_line_11

theorem yd_X8_change : yX8_change.cls = RX8 ∧ yX8_change.cls ≠ "java/lang/invoke/MethodHandle" ∧ yX8_change.cls ≠ "java/lang/invoke/VarHandle" ∧ (parseMethodDescriptor yX8_change.desc).map (fun d => d.parameters.length) = some 1 := by decide +kernel
set_option maxHeartbeats 4000000 in
set_option maxRecDepth 100000 in
theorem k_X8_change (l : Launch) (D : va_G) (cI cZ : ClassId) (mo ps mpa nl nv msz mcd mbe mba : Nat) (ol : Int32) (op os svn ms1 ms2 ms3 ms4 mfa mim mik : Nat) (pd z g : Nat → Nat) (li : Int32) (hnl : nl ≤ 20) (hnv : nv ≤ 4) (hnv1 : 1 ≤ nv) (hps : ps ≤ 8) : Met l yX8_change wsX8_change ({ frames := 2, cells := 0, slots := 0, locals := 43 }) (mPc [.ref mo, .int li] D cI cZ [(mo, .inr (8, [.int (nI ps), .ref mpa, .int (nI nl), .int (nI nv), .ref msz, .ref mcd, .ref mbe, .ref mba, .int ol, .int (nI op), .int (nI os), .int (nI svn), .ref ms1, .ref ms2, .ref ms3, .ref ms4, .ref mfa, .ref mim, .ref mik])), (mpa, aN cI 8 pd), (msz, aN cI 80 z), (mcd, aN cI 640 g)]) (mQi D (mA [(mo, .inr (8, [.int (nI ps), .ref mpa, .int (nI nl), .int (nI nv), .ref msz, .ref mcd, .ref mbe, .ref mba, .int ol, .int (nI op), .int (nI os), .int (nI svn), .ref ms1, .ref ms2, .ref ms3, .ref ms4, .ref mfa, .ref mim, .ref mik])), (mpa, aN cI 8 pd), (msz, aN cI 80 z), (mcd, aN cI 640 g)]) (fun (r : Int32) (u : (Nat → Nat) × (Nat → Nat) × Nat) => r = chgR nl ps li ∧ (u.1, u.2.1, u.2.2) = chgS nl nv z g ps pd li) (fun (u : (Nat → Nat) × (Nat → Nat) × Nat) => [(mo, .inr (8, [.int (nI u.2.2), .ref mpa, .int (nI nl), .int (nI nv), .ref msz, .ref mcd, .ref mbe, .ref mba, .int ol, .int (nI op), .int (nI os), .int (nI svn), .ref ms1, .ref ms2, .ref ms3, .ref ms4, .ref mfa, .ref mim, .ref mik])), (mpa, aN cI 8 pd), (msz, aN cI 80 u.1), (mcd, aN cI 640 u.2.1)])) 0 0 (mA [(mo, .inr (8, [.int (nI ps), .ref mpa, .int (nI nl), .int (nI nv), .ref msz, .ref mcd, .ref mbe, .ref mba, .int ol, .int (nI op), .int (nI os), .int (nI svn), .ref ms1, .ref ms2, .ref ms3, .ref ms4, .ref mfa, .ref mim, .ref mik])), (mpa, aN cI 8 pd), (msz, aN cI 80 z), (mcd, aN cI 640 g)]) := by
  refine Met.ofW (cc := cX8_change) (maxL := 2) (ret := (some .int)) (by decide) rfl ?_
  intro p e s m args below meth c s₁ BB hml hv
  obtain ⟨hargs, hP, hD0, hK⟩ := hv
  have hx := BB.exec
  have hb := BB.bytes
  have hr := BB.returns
  have hts := atoms_spec (ws := wsX8_change) BB.pre
  have hown : s.vm.findClass RX8 = some m.cls := findClass_of_methodNamed BB.named
  have hlocks := BB.notSynchronized
  have hcf : CallFix p m c cX8_change 2 s args wsX8_change RX8 := ⟨hx, hb, hml, hown, hts⟩
  obtain ⟨A, hAe⟩ : ∃ A, A = mA [(mo, .inr (8, [.int (nI ps), .ref mpa, .int (nI nl), .int (nI nv), .ref msz, .ref mcd, .ref mbe, .ref mba, .int ol, .int (nI op), .int (nI os), .int (nI svn), .ref ms1, .ref ms2, .ref ms3, .ref ms4, .ref mfa, .ref mim, .ref mik])), (mpa, aN cI 8 pd), (msz, aN cI 80 z), (mcd, aN cI 640 g)] := ⟨_, rfl⟩
  have hD : va_D A [(mo, .inr (8, [.int (nI ps), .ref mpa, .int (nI nl), .int (nI nv), .ref msz, .ref mcd, .ref mbe, .ref mba, .int ol, .int (nI op), .int (nI os), .int (nI svn), .ref ms1, .ref ms2, .ref ms3, .ref ms4, .ref mfa, .ref mim, .ref mik])), (mpa, aN cI 8 pd), (msz, aN cI 80 z), (mcd, aN cI 640 g)] := ⟨hD0.1, fun k q h => by rw [hAe]; exact ⟨k, q.2, h⟩⟩
  have hS : va_S A s.heap s.heap [] := va_S.rf
  rw [← hAe]
  rw [hargs, lg_entry_eq, ← hargs]
  have hl := lv_entry ([.ref mo, .int li]) (n := 2) (Nat.le_of_ble_eq_true rfl)
  generalize (lg_sl ([.ref mo, .int li]) ++ List.replicate (2 - (lg_sl ([.ref mo, .int li])).length) Slot.unset).toArray = ls at hl ⊢
  have hl : lv_has ls 2 [(0, .ref mo), (1, .int li)] := hl
  obtain ⟨Q, hQ⟩ : ∃ Q, Q = MQ below (mQi D A (fun (r : Int32) (u : (Nat → Nat) × (Nat → Nat) × Nat) => r = chgR nl ps li ∧ (u.1, u.2.1, u.2.2) = chgS nl nv z g ps pd li) (fun (u : (Nat → Nat) × (Nat → Nat) × Nat) => [(mo, .inr (8, [.int (nI u.2.2), .ref mpa, .int (nI nl), .int (nI nv), .ref msz, .ref mcd, .ref mbe, .ref mba, .int ol, .int (nI op), .int (nI os), .int (nI svn), .ref ms1, .ref ms2, .ref ms3, .ref ms4, .ref mfa, .ref mim, .ref mik])), (mpa, aN cI 8 pd), (msz, aN cI 80 u.1), (mcd, aN cI 640 u.2.1)])) args s 0 0 A := ⟨_, rfl⟩
  rw [← hQ]
  have i_X8 : ∀ w ∈ u_ws RX8 TX8 19, w ∈ wsX8_change := by decide +kernel
  have f_61 := hts (.fieldLink RX8 61 "SameAgainModel" "signs" "I") (by decide +kernel)
  have f_51 := hts (.fieldLink RX8 51 "SameAgainModel" "versions" "I") (by decide +kernel)
  refine lv_aload_n hx hb dX8_change_0 rfl (lv_at hl 0 rfl) ?_
  refine lv_iload_n hx hb dX8_change_1 rfl (lv_at hl 1 rfl) ?_
  refine m_rdV (As := [.int li]) (rest := []) (wc := [(mo, .inr (8, [.int (nI ps), .ref mpa, .int (nI nl), .int (nI nv), .ref msz, .ref mcd, .ref mbe, .ref mba, .int ol, .int (nI op), .int (nI os), .int (nI svn), .ref ms1, .ref ms2, .ref ms3, .ref ms4, .ref mfa, .ref mim, .ref mik]))]) hcf (k_X8_isLine (l := l) (D := D) (cI := cI) (cZ := cZ) (x := li) (mo := mo) (ps := ps) (mpa := mpa) (nl := nl) (nv := nv) (msz := msz) (mcd := mcd) (mbe := mbe) (mba := mba) (ol := ol) (op := op) (os := os) (svn := svn) (ms1 := ms1) (ms2 := ms2) (ms3 := ms3) (ms4 := ms4) (mfa := mfa) (mim := mim) (mik := mik) (hnl := hnl) (hnv := hnv)) (cwV 1 hts gX8_change_X8_isLine rfl rfl rfl yd_X8_isLine ⟨Nat.le_of_ble_eq_true rfl, Nat.le_of_ble_eq_true rfl⟩) (m_preV hK hP hD [0] (by decide) rfl rfl rfl) rfl hl.1 rfl (Nat.le_of_ble_eq_true rfl) dX8_change_2 ⟨Nat.zero_le _, Nat.zero_le _⟩ ?_
  refine m_ifB_ne (tgt := 10) hx hb dX8_change_5 (by decide) (fun c_5 => ?_) (fun c_5 => ?_)
  · obtain ⟨e_l, i_l⟩ := ixB_cN (by omega) c_5
    have hl : lv_has ls 2 [(0, .ref mo), (1, .int (nI (cN li)))] := by rw [← e_l]; exact hl
    refine lv_aload_n hx hb dX8_change_10 rfl (lv_at hl 0 rfl) ?_
    refine va_get (D := D) (ci := 8) (v := .int (nI ps)) (C := RX8) (T := TX8) (N := 19) hx hb hts i_X8 hown hK.1 hP 0 rfl rfl 0 (by decide) f_61 (fun _ h9 => h9) rfl dX8_change_11 ?_
    refine m_if_ne (tgt := 20) hx hb dX8_change_14 (by decide) (by omega) (fun c_14 => ?_) (fun c_14 => ?_)
    · refine lv_aload_n hx hb dX8_change_20 rfl (lv_at hl 0 rfl) ?_
      refine lv_aload_n hx hb dX8_change_21 rfl (lv_at hl 0 rfl) ?_
      refine va_get (D := D) (ci := 8) (v := .int (nI nv)) (C := RX8) (T := TX8) (N := 19) hx hb hts i_X8 hown hK.1 hP 0 rfl rfl 3 (by decide) f_51 (fun _ h9 => h9) rfl dX8_change_22 ?_
      refine lv_iconst (v := nI 1) hx hb dX8_change_25 (by decide) ?_
      refine m_sub hx hb (by omega) dX8_change_26 ?_
      refine lv_iload_n hx hb dX8_change_27 rfl (lv_at hl 1 rfl) ?_
      refine m_wvV (As := [.int (nI (nv - 1)), .int (nI (cN li))]) (rest := []) (wc := [(mo, .inr (8, [.int (nI ps), .ref mpa, .int (nI nl), .int (nI nv), .ref msz, .ref mcd, .ref mbe, .ref mba, .int ol, .int (nI op), .int (nI os), .int (nI svn), .ref ms1, .ref ms2, .ref ms3, .ref ms4, .ref mfa, .ref mim, .ref mik])), (mpa, aN cI 8 pd), (msz, aN cI 80 z), (mcd, aN cI 640 g)]) hcf (k_X8_put (l := l) (D := D) (cI := cI) (cZ := cZ) (v := nv - 1) (ln := cN li) (mo := mo) (ps := ps) (mpa := mpa) (nl := nl) (nv := nv) (msz := msz) (mcd := mcd) (mbe := mbe) (mba := mba) (ol := ol) (op := op) (os := os) (svn := svn) (ms1 := ms1) (ms2 := ms2) (ms3 := ms3) (ms4 := ms4) (mfa := mfa) (mim := mim) (mik := mik) (pd := pd) (z := z) (g := g) (hv := by omega) (hln := by omega) (hps := hps)) (cwV 2 hts gX8_change_X8_put rfl rfl rfl yd_X8_put ⟨Nat.le_of_ble_eq_true rfl, Nat.le_of_ble_eq_true rfl⟩) hK hP hD hS [0, 1, 2, 3] (by decide) rfl rfl rfl rfl hl.1 rfl (Nat.le_of_ble_eq_true rfl) dX8_change_28 ⟨Nat.zero_le _, Nat.zero_le _⟩ (fun _ => rfl) (fun (u : Unit) => [(mo, .inr (8, [.int (nI ps), .ref mpa, .int (nI nl), .int (nI nv), .ref msz, .ref mcd, .ref mbe, .ref mba, .int ol, .int (nI op), .int (nI os), .int (nI svn), .ref ms1, .ref ms2, .ref ms3, .ref ms4, .ref mfa, .ref mim, .ref mik])), (mpa, aN cI 8 pd), (msz, aN cI 80 (upN z ((nv - 1) * 20 + (cN li)) ps)), (mcd, aN cI 640 (cpN pd g 0 (((nv - 1) * 20 + (cN li)) * 8) ps))]) (fun _ => rfl) (fun u H locs hp_28 hP hD hS => ?_)
      have hP : va_P D vwCl [(mo, .inr (8, [.int (nI ps), .ref mpa, .int (nI nl), .int (nI nv), .ref msz, .ref mcd, .ref mbe, .ref mba, .int ol, .int (nI op), .int (nI os), .int (nI svn), .ref ms1, .ref ms2, .ref ms3, .ref ms4, .ref mfa, .ref mim, .ref mik])), (mpa, aN cI 8 pd), (msz, aN cI 80 (upN z ((nv - 1) * 20 + (cN li)) ps)), (mcd, aN cI 640 (cpN pd g 0 (((nv - 1) * 20 + (cN li)) * 8) ps))] H := hP
      have hD : va_D A [(mo, .inr (8, [.int (nI ps), .ref mpa, .int (nI nl), .int (nI nv), .ref msz, .ref mcd, .ref mbe, .ref mba, .int ol, .int (nI op), .int (nI os), .int (nI svn), .ref ms1, .ref ms2, .ref ms3, .ref ms4, .ref mfa, .ref mim, .ref mik])), (mpa, aN cI 8 pd), (msz, aN cI 80 (upN z ((nv - 1) * 20 + (cN li)) ps)), (mcd, aN cI 640 (cpN pd g 0 (((nv - 1) * 20 + (cN li)) * 8) ps))] := hD
      refine lv_aload_n hx hb dX8_change_31 rfl (lv_at hl 0 rfl) ?_
      refine lv_iconst (v := nI 0) hx hb dX8_change_32 (by decide) ?_
      refine va_put (D := D) (ci := 8) (v := .int (nI 0)) (ty := .int) (C := RX8) (T := TX8) (N := 19) hx hb hts i_X8 tyX8 tyX8_ok nmX8 hown hK.1 hP hD hS 0 rfl rfl 0 (by decide) f_61 (fun _ h9 => h9) rfl (by decide +kernel) rfl rfl (Nat.le_of_ble_eq_true rfl) dX8_change_33 (fun H locs hP hD hS => ?_)
      have hP : va_P D vwCl [(mo, .inr (8, [.int (nI 0), .ref mpa, .int (nI nl), .int (nI nv), .ref msz, .ref mcd, .ref mbe, .ref mba, .int ol, .int (nI op), .int (nI os), .int (nI svn), .ref ms1, .ref ms2, .ref ms3, .ref ms4, .ref mfa, .ref mim, .ref mik])), (mpa, aN cI 8 pd), (msz, aN cI 80 (upN z ((nv - 1) * 20 + (cN li)) ps)), (mcd, aN cI 640 (cpN pd g 0 (((nv - 1) * 20 + (cN li)) * 8) ps))] H := hP
      have hD : va_D A [(mo, .inr (8, [.int (nI 0), .ref mpa, .int (nI nl), .int (nI nv), .ref msz, .ref mcd, .ref mbe, .ref mba, .int ol, .int (nI op), .int (nI os), .int (nI svn), .ref ms1, .ref ms2, .ref ms3, .ref ms4, .ref mfa, .ref mim, .ref mik])), (mpa, aN cI 8 pd), (msz, aN cI 80 (upN z ((nv - 1) * 20 + (cN li)) ps)), (mcd, aN cI 640 (cpN pd g 0 (((nv - 1) * 20 + (cN li)) * 8) ps))] := hD
      refine lv_iconst (v := nI 1) hx hb dX8_change_36 (by decide) ?_
      rw [hQ]
      exact m_iwr hx hb hr hlocks (upN z ((nv - 1) * 20 + (cN li)) ps, cpN pd g 0 (((nv - 1) * 20 + (cN li)) * 8) ps, 0) (⟨by unfold chgR; rw [if_pos c_5, if_neg c_14]; rfl, by unfold chgS; rw [if_pos ⟨c_5, c_14⟩]⟩) hP hS dX8_change_37
    · refine lv_bipush (v := (-5)) hx hb dX8_change_17 (by decide) ?_
      rw [hQ]
      exact m_iwr hx hb hr hlocks (z, g, ps) (⟨by unfold chgR; rw [if_pos c_5, if_pos c_14], by unfold chgS; rw [if_neg (fun h => h.2 c_14)]⟩) hP hS dX8_change_19
  · refine lv_iconst (v := (-1)) hx hb dX8_change_8 (by decide) ?_
    rw [hQ]
    exact m_iwr hx hb hr hlocks (z, g, ps) (⟨by unfold chgR; rw [if_neg (by rw [c_5]; decide)], by unfold chgS; rw [if_neg (fun h => by rw [c_5] at h; cases h.1)]⟩) hP hS dX8_change_9

theorem yd_X8_version : yX8_version.cls = RX8 ∧ yX8_version.cls ≠ "java/lang/invoke/MethodHandle" ∧ yX8_version.cls ≠ "java/lang/invoke/VarHandle" ∧ (parseMethodDescriptor yX8_version.desc).map (fun d => d.parameters.length) = some 0 := by decide +kernel
set_option maxHeartbeats 4000000 in
set_option maxRecDepth 100000 in
theorem k_X8_version (l : Launch) (D : va_G) (cI cZ : ClassId) (mo ps mpa nl nv msz mcd mbe mba : Nat) (ol : Int32) (op os svn ms1 ms2 ms3 ms4 mfa mim mik : Nat) (z g : Nat → Nat) (hnv1 : 1 ≤ nv) (hnv : nv ≤ 4) : Met l yX8_version wsX8_version ({ frames := 0, cells := 0, slots := 0, locals := 0 }) (mPc [.ref mo] D cI cZ [(mo, .inr (8, [.int (nI ps), .ref mpa, .int (nI nl), .int (nI nv), .ref msz, .ref mcd, .ref mbe, .ref mba, .int ol, .int (nI op), .int (nI os), .int (nI svn), .ref ms1, .ref ms2, .ref ms3, .ref ms4, .ref mfa, .ref mim, .ref mik])), (msz, aN cI 80 z), (mcd, aN cI 640 g)]) (mQi D (mA [(mo, .inr (8, [.int (nI ps), .ref mpa, .int (nI nl), .int (nI nv), .ref msz, .ref mcd, .ref mbe, .ref mba, .int ol, .int (nI op), .int (nI os), .int (nI svn), .ref ms1, .ref ms2, .ref ms3, .ref ms4, .ref mfa, .ref mim, .ref mik])), (msz, aN cI 80 z), (mcd, aN cI 640 g)]) (fun (r : Int32) (u : Nat × (Nat → Nat) × (Nat → Nat)) => r = verR nv ∧ (u.1, u.2.1, u.2.2) = verS nv z g) (fun (u : Nat × (Nat → Nat) × (Nat → Nat)) => [(mo, .inr (8, [.int (nI ps), .ref mpa, .int (nI nl), .int (nI u.1), .ref msz, .ref mcd, .ref mbe, .ref mba, .int ol, .int (nI op), .int (nI os), .int (nI svn), .ref ms1, .ref ms2, .ref ms3, .ref ms4, .ref mfa, .ref mim, .ref mik])), (msz, aN cI 80 u.2.1), (mcd, aN cI 640 u.2.2)])) 0 0 (mA [(mo, .inr (8, [.int (nI ps), .ref mpa, .int (nI nl), .int (nI nv), .ref msz, .ref mcd, .ref mbe, .ref mba, .int ol, .int (nI op), .int (nI os), .int (nI svn), .ref ms1, .ref ms2, .ref ms3, .ref ms4, .ref mfa, .ref mim, .ref mik])), (msz, aN cI 80 z), (mcd, aN cI 640 g)]) := by
  refine Met.ofW (cc := cX8_version) (maxL := 2) (ret := (some .int)) (by decide) rfl ?_
  intro p e s m args below meth c s₁ BB hml hv
  obtain ⟨hargs, hP, hD0, hK⟩ := hv
  have hx := BB.exec
  have hb := BB.bytes
  have hr := BB.returns
  have hts := atoms_spec (ws := wsX8_version) BB.pre
  have hown : s.vm.findClass RX8 = some m.cls := findClass_of_methodNamed BB.named
  have hlocks := BB.notSynchronized
  have hcf : CallFix p m c cX8_version 2 s args wsX8_version RX8 := ⟨hx, hb, hml, hown, hts⟩
  obtain ⟨A, hAe⟩ : ∃ A, A = mA [(mo, .inr (8, [.int (nI ps), .ref mpa, .int (nI nl), .int (nI nv), .ref msz, .ref mcd, .ref mbe, .ref mba, .int ol, .int (nI op), .int (nI os), .int (nI svn), .ref ms1, .ref ms2, .ref ms3, .ref ms4, .ref mfa, .ref mim, .ref mik])), (msz, aN cI 80 z), (mcd, aN cI 640 g)] := ⟨_, rfl⟩
  have hD : va_D A [(mo, .inr (8, [.int (nI ps), .ref mpa, .int (nI nl), .int (nI nv), .ref msz, .ref mcd, .ref mbe, .ref mba, .int ol, .int (nI op), .int (nI os), .int (nI svn), .ref ms1, .ref ms2, .ref ms3, .ref ms4, .ref mfa, .ref mim, .ref mik])), (msz, aN cI 80 z), (mcd, aN cI 640 g)] := ⟨hD0.1, fun k q h => by rw [hAe]; exact ⟨k, q.2, h⟩⟩
  have hS : va_S A s.heap s.heap [] := va_S.rf
  rw [← hAe]
  rw [hargs, lg_entry_eq, ← hargs]
  have hl := lv_entry ([.ref mo]) (n := 2) (Nat.le_of_ble_eq_true rfl)
  generalize (lg_sl ([.ref mo]) ++ List.replicate (2 - (lg_sl ([.ref mo])).length) Slot.unset).toArray = ls at hl ⊢
  have hl : lv_has ls 2 [(0, .ref mo)] := hl
  obtain ⟨Q, hQ⟩ : ∃ Q, Q = MQ below (mQi D A (fun (r : Int32) (u : Nat × (Nat → Nat) × (Nat → Nat)) => r = verR nv ∧ (u.1, u.2.1, u.2.2) = verS nv z g) (fun (u : Nat × (Nat → Nat) × (Nat → Nat)) => [(mo, .inr (8, [.int (nI ps), .ref mpa, .int (nI nl), .int (nI u.1), .ref msz, .ref mcd, .ref mbe, .ref mba, .int ol, .int (nI op), .int (nI os), .int (nI svn), .ref ms1, .ref ms2, .ref ms3, .ref ms4, .ref mfa, .ref mim, .ref mik])), (msz, aN cI 80 u.2.1), (mcd, aN cI 640 u.2.2)])) args s 0 0 A := ⟨_, rfl⟩
  rw [← hQ]
  have i_X8 : ∀ w ∈ u_ws RX8 TX8 19, w ∈ wsX8_version := by decide +kernel
  have f_51 := hts (.fieldLink RX8 51 "SameAgainModel" "versions" "I") (by decide +kernel)
  have f_16 := hts (.fieldLink RX8 16 "SameAgainModel" "code" "[I") (by decide +kernel)
  have f_13 := hts (.fieldLink RX8 13 "SameAgainModel" "sizes" "[I") (by decide +kernel)
  refine lv_aload_n hx hb dX8_version_0 rfl (lv_at hl 0 rfl) ?_
  refine va_get (D := D) (ci := 8) (v := .int (nI nv)) (C := RX8) (T := TX8) (N := 19) hx hb hts i_X8 hown hK.1 hP 0 rfl rfl 3 (by decide) f_51 (fun _ h9 => h9) rfl dX8_version_1 ?_
  refine lv_iconst (v := nI 4) hx hb dX8_version_4 (by decide) ?_
  refine m_cmp_ne (tgt := 11) hx hb dX8_version_5 (by decide) (by omega) (by omega) (fun c_5 => ?_) (fun c_5 => ?_)
  · refine lv_iconst (v := nI 0) hx hb dX8_version_11 (by decide) ?_
    refine lv_istore_n (lv' := [(1, .int (nI 0)), (0, .ref mo)]) hx hb dX8_version_12 rfl hl (by decide) rfl (fun ls hl => ?_)
    have loop_13 : ∀ (fu : Nat) (k : Nat) (z2 : Nat → Nat) (hfu : 20 - k < fu)  (hk : k ≤ 20) (hz2 : z2 = cpN z z ((nv - 1) * 20) (nv * 20) k) (H : Heap) (locs : List Loc) (hP : va_P D vwCl [(mo, .inr (8, [.int (nI ps), .ref mpa, .int (nI nl), .int (nI nv), .ref msz, .ref mcd, .ref mbe, .ref mba, .int ol, .int (nI op), .int (nI os), .int (nI svn), .ref ms1, .ref ms2, .ref ms3, .ref ms4, .ref mfa, .ref mim, .ref mik])), (msz, aN cI 80 z2), (mcd, aN cI 640 g)] H) (hD : va_D A [(mo, .inr (8, [.int (nI ps), .ref mpa, .int (nI nl), .int (nI nv), .ref msz, .ref mcd, .ref mbe, .ref mba, .int ol, .int (nI op), .int (nI os), .int (nI svn), .ref ms1, .ref ms2, .ref ms3, .ref ms4, .ref mfa, .ref mim, .ref mik])), (msz, aN cI 80 z2), (mcd, aN cI 640 g)]) (hS : va_S A s.heap H locs) (ls : Array Slot) (hl : lv_has ls 2 [(0, .ref mo), (1, .int (nI k))]), W p l e (headSpec wsX8_version { frames := 0, cells := 0, slots := 0, locals := 0 }).room s m args below meth c H locs 0 0 Q (F0 m 13 ls []) := by
      intro fu
      induction fu with
      | zero => intro k z2 hfu; exact absurd hfu (Nat.not_lt_zero _)
      | succ fu ih_13 =>
        intro k z2 hfu hk hz2 H locs hP hD hS ls hl
        refine lv_iload_n hx hb dX8_version_13 rfl (lv_at hl 1 rfl) ?_
        refine lv_bipush (v := nI 20) hx hb dX8_version_14 (by decide) ?_
        refine m_cmp_ge (tgt := 56) hx hb dX8_version_16 (by decide) (by omega) (by omega) (fun c_16 => ?_) (fun c_16 => ?_)
        · refine lv_iconst (v := nI 0) hx hb dX8_version_56 (by decide) ?_
          refine lv_istore_n (lv' := [(1, .int (nI 0)), (0, .ref mo)]) hx hb dX8_version_57 rfl hl (by decide) rfl (fun ls hl => ?_)
          have loop_58 : ∀ (fu : Nat) (k2 : Nat) (g2 : Nat → Nat) (hfu : 160 - k2 < fu)  (hk2 : k2 ≤ 160) (hg2 : g2 = cpN g g ((nv - 1) * 20 * 8) (nv * 20 * 8) k2) (H : Heap) (locs : List Loc) (hP : va_P D vwCl [(mo, .inr (8, [.int (nI ps), .ref mpa, .int (nI nl), .int (nI nv), .ref msz, .ref mcd, .ref mbe, .ref mba, .int ol, .int (nI op), .int (nI os), .int (nI svn), .ref ms1, .ref ms2, .ref ms3, .ref ms4, .ref mfa, .ref mim, .ref mik])), (msz, aN cI 80 z2), (mcd, aN cI 640 g2)] H) (hD : va_D A [(mo, .inr (8, [.int (nI ps), .ref mpa, .int (nI nl), .int (nI nv), .ref msz, .ref mcd, .ref mbe, .ref mba, .int ol, .int (nI op), .int (nI os), .int (nI svn), .ref ms1, .ref ms2, .ref ms3, .ref ms4, .ref mfa, .ref mim, .ref mik])), (msz, aN cI 80 z2), (mcd, aN cI 640 g2)]) (hS : va_S A s.heap H locs) (ls : Array Slot) (hl : lv_has ls 2 [(0, .ref mo), (1, .int (nI k2))]), W p l e (headSpec wsX8_version { frames := 0, cells := 0, slots := 0, locals := 0 }).room s m args below meth c H locs 0 0 Q (F0 m 58 ls []) := by
            intro fu
            induction fu with
            | zero => intro k2 g2 hfu; exact absurd hfu (Nat.not_lt_zero _)
            | succ fu ih_58 =>
              intro k2 g2 hfu hk2 hg2 H locs hP hD hS ls hl
              refine lv_iload_n hx hb dX8_version_58 rfl (lv_at hl 1 rfl) ?_
              refine lv_sipush (v := nI 160) hx hb dX8_version_59 (by decide) ?_
              refine m_cmp_ge (tgt := 105) hx hb dX8_version_62 (by decide) (by omega) (by omega) (fun c_62 => ?_) (fun c_62 => ?_)
              · refine lv_aload_n hx hb dX8_version_105 rfl (lv_at hl 0 rfl) ?_
                refine lv_dup hx hb dX8_version_106 rfl ?_
                refine va_get (D := D) (ci := 8) (v := .int (nI nv)) (C := RX8) (T := TX8) (N := 19) hx hb hts i_X8 hown hK.1 hP 0 rfl rfl 3 (by decide) f_51 (fun _ h9 => h9) rfl dX8_version_107 ?_
                refine lv_iconst (v := nI 1) hx hb dX8_version_110 (by decide) ?_
                refine m_add hx hb dX8_version_111 ?_
                refine va_put (D := D) (ci := 8) (v := .int (nI (nv + 1))) (ty := .int) (C := RX8) (T := TX8) (N := 19) hx hb hts i_X8 tyX8 tyX8_ok nmX8 hown hK.1 hP hD hS 0 rfl rfl 3 (by decide) f_51 (fun _ h9 => h9) rfl (by decide +kernel) rfl rfl (Nat.le_of_ble_eq_true rfl) dX8_version_112 (fun H locs hP hD hS => ?_)
                have hP : va_P D vwCl [(mo, .inr (8, [.int (nI ps), .ref mpa, .int (nI nl), .int (nI (nv + 1)), .ref msz, .ref mcd, .ref mbe, .ref mba, .int ol, .int (nI op), .int (nI os), .int (nI svn), .ref ms1, .ref ms2, .ref ms3, .ref ms4, .ref mfa, .ref mim, .ref mik])), (msz, aN cI 80 z2), (mcd, aN cI 640 g2)] H := hP
                have hD : va_D A [(mo, .inr (8, [.int (nI ps), .ref mpa, .int (nI nl), .int (nI (nv + 1)), .ref msz, .ref mcd, .ref mbe, .ref mba, .int ol, .int (nI op), .int (nI os), .int (nI svn), .ref ms1, .ref ms2, .ref ms3, .ref ms4, .ref mfa, .ref mim, .ref mik])), (msz, aN cI 80 z2), (mcd, aN cI 640 g2)] := hD
                refine lv_aload_n hx hb dX8_version_115 rfl (lv_at hl 0 rfl) ?_
                refine va_get (D := D) (ci := 8) (v := .int (nI (nv + 1))) (C := RX8) (T := TX8) (N := 19) hx hb hts i_X8 hown hK.1 hP 0 rfl rfl 3 (by decide) f_51 (fun _ h9 => h9) rfl dX8_version_116 ?_
                refine lv_iconst (v := nI 1) hx hb dX8_version_119 (by decide) ?_
                refine m_sub hx hb (by omega) dX8_version_120 ?_
                refine m_top (y := nI nv) rfl ?_
                rw [hQ]
                have e8 : k = 20 := by omega
                have e9 : k2 = 160 := by omega
                exact m_iwr hx hb hr hlocks (nv + 1, z2, g2) (⟨by unfold verR; rw [if_pos (by omega)], by unfold verS; rw [if_pos (by omega), hz2, hg2, e8, e9]⟩) hP hS dX8_version_121
              · refine lv_aload_n hx hb dX8_version_65 rfl (lv_at hl 0 rfl) ?_
                refine va_get (D := D) (ci := 8) (v := .ref mcd) (C := RX8) (T := TX8) (N := 19) hx hb hts i_X8 hown hK.1 hP 0 rfl rfl 5 (by decide) f_16 (fun _ h9 => h9) rfl dX8_version_66 ?_
                refine lv_sipush (v := nI 160) hx hb dX8_version_69 (by decide) ?_
                refine lv_aload_n hx hb dX8_version_72 rfl (lv_at hl 0 rfl) ?_
                refine va_get (D := D) (ci := 8) (v := .int (nI nv)) (C := RX8) (T := TX8) (N := 19) hx hb hts i_X8 hown hK.1 hP 0 rfl rfl 3 (by decide) f_51 (fun _ h9 => h9) rfl dX8_version_73 ?_
                refine m_mul hx hb dX8_version_76 ?_
                refine lv_iload_n hx hb dX8_version_77 rfl (lv_at hl 1 rfl) ?_
                refine m_add hx hb dX8_version_78 ?_
                refine m_top (y := nI (nv * 20 * 8 + k2)) (by congr 1; omega) ?_
                refine lv_aload_n hx hb dX8_version_79 rfl (lv_at hl 0 rfl) ?_
                refine va_get (D := D) (ci := 8) (v := .ref mcd) (C := RX8) (T := TX8) (N := 19) hx hb hts i_X8 hown hK.1 hP 0 rfl rfl 5 (by decide) f_16 (fun _ h9 => h9) rfl dX8_version_80 ?_
                refine lv_sipush (v := nI 160) hx hb dX8_version_83 (by decide) ?_
                refine lv_aload_n hx hb dX8_version_86 rfl (lv_at hl 0 rfl) ?_
                refine va_get (D := D) (ci := 8) (v := .int (nI nv)) (C := RX8) (T := TX8) (N := 19) hx hb hts i_X8 hown hK.1 hP 0 rfl rfl 3 (by decide) f_51 (fun _ h9 => h9) rfl dX8_version_87 ?_
                refine m_mul hx hb dX8_version_90 ?_
                refine lv_sipush (v := nI 160) hx hb dX8_version_91 (by decide) ?_
                refine m_sub hx hb (by omega) dX8_version_94 ?_
                refine lv_iload_n hx hb dX8_version_95 rfl (lv_at hl 1 rfl) ?_
                refine m_add hx hb dX8_version_96 ?_
                refine m_top (y := nI ((nv - 1) * 20 * 8 + k2)) (by congr 1; omega) ?_
                refine m_ald hx hb hK hP 2 rfl (by decide) (by omega) dX8_version_97 ?_
                refine m_top (y := nI (g ((nv - 1) * 20 * 8 + k2))) (by rw [hg2, cp_out (by omega)]) ?_
                refine m_ast hx hb hK hP hD hS 2 rfl (by decide) (by omega) dX8_version_98 (ws' := [(mo, .inr (8, [.int (nI ps), .ref mpa, .int (nI nl), .int (nI nv), .ref msz, .ref mcd, .ref mbe, .ref mba, .int ol, .int (nI op), .int (nI os), .int (nI svn), .ref ms1, .ref ms2, .ref ms3, .ref ms4, .ref mfa, .ref mim, .ref mik])), (msz, aN cI 80 z2), (mcd, aN cI 640 (upN g2 (nv * 20 * 8 + k2) (g ((nv - 1) * 20 * 8 + k2))))]) rfl (fun H locs hP hD hS => ?_)
                refine lv_iinc (v := nI (k2 + 1)) (lv' := [(1, .int (nI (k2 + 1))), (0, .ref mo)]) hx hb dX8_version_99 hl (k := 1) rfl ((nI_succ _).symm) (by decide) rfl (fun ls hl => ?_)
                refine lv_goto (tgt := 58) hx hb dX8_version_102 (by decide) ?_
                exact ih_58 (k2 + 1) _ (by omega) (by omega) (by rw [hg2]; exact cp_s _ _ _ _ _) _ _ hP hD hS ls (lv_sub hl [1, 0] rfl)
          exact loop_58 161 0 g (by omega) (by omega) (cp_0 _ _ _ _).symm _ _ hP hD hS ls (lv_sub hl [1, 0] rfl)
        · refine lv_aload_n hx hb dX8_version_19 rfl (lv_at hl 0 rfl) ?_
          refine va_get (D := D) (ci := 8) (v := .ref msz) (C := RX8) (T := TX8) (N := 19) hx hb hts i_X8 hown hK.1 hP 0 rfl rfl 4 (by decide) f_13 (fun _ h9 => h9) rfl dX8_version_20 ?_
          refine lv_bipush (v := nI 20) hx hb dX8_version_23 (by decide) ?_
          refine lv_aload_n hx hb dX8_version_25 rfl (lv_at hl 0 rfl) ?_
          refine va_get (D := D) (ci := 8) (v := .int (nI nv)) (C := RX8) (T := TX8) (N := 19) hx hb hts i_X8 hown hK.1 hP 0 rfl rfl 3 (by decide) f_51 (fun _ h9 => h9) rfl dX8_version_26 ?_
          refine m_mul hx hb dX8_version_29 ?_
          refine lv_iload_n hx hb dX8_version_30 rfl (lv_at hl 1 rfl) ?_
          refine m_add hx hb dX8_version_31 ?_
          refine m_top (y := nI (nv * 20 + k)) (by congr 1; omega) ?_
          refine lv_aload_n hx hb dX8_version_32 rfl (lv_at hl 0 rfl) ?_
          refine va_get (D := D) (ci := 8) (v := .ref msz) (C := RX8) (T := TX8) (N := 19) hx hb hts i_X8 hown hK.1 hP 0 rfl rfl 4 (by decide) f_13 (fun _ h9 => h9) rfl dX8_version_33 ?_
          refine lv_bipush (v := nI 20) hx hb dX8_version_36 (by decide) ?_
          refine lv_aload_n hx hb dX8_version_38 rfl (lv_at hl 0 rfl) ?_
          refine va_get (D := D) (ci := 8) (v := .int (nI nv)) (C := RX8) (T := TX8) (N := 19) hx hb hts i_X8 hown hK.1 hP 0 rfl rfl 3 (by decide) f_51 (fun _ h9 => h9) rfl dX8_version_39 ?_
          refine m_mul hx hb dX8_version_42 ?_
          refine lv_bipush (v := nI 20) hx hb dX8_version_43 (by decide) ?_
          refine m_sub hx hb (by omega) dX8_version_45 ?_
          refine lv_iload_n hx hb dX8_version_46 rfl (lv_at hl 1 rfl) ?_
          refine m_add hx hb dX8_version_47 ?_
          refine m_top (y := nI ((nv - 1) * 20 + k)) (by congr 1; omega) ?_
          refine m_ald hx hb hK hP 1 rfl (by decide) (by omega) dX8_version_48 ?_
          refine m_top (y := nI (z ((nv - 1) * 20 + k))) (by rw [hz2, cp_out (by omega)]) ?_
          refine m_ast hx hb hK hP hD hS 1 rfl (by decide) (by omega) dX8_version_49 (ws' := [(mo, .inr (8, [.int (nI ps), .ref mpa, .int (nI nl), .int (nI nv), .ref msz, .ref mcd, .ref mbe, .ref mba, .int ol, .int (nI op), .int (nI os), .int (nI svn), .ref ms1, .ref ms2, .ref ms3, .ref ms4, .ref mfa, .ref mim, .ref mik])), (msz, aN cI 80 (upN z2 (nv * 20 + k) (z ((nv - 1) * 20 + k)))), (mcd, aN cI 640 g)]) rfl (fun H locs hP hD hS => ?_)
          refine lv_iinc (v := nI (k + 1)) (lv' := [(1, .int (nI (k + 1))), (0, .ref mo)]) hx hb dX8_version_50 hl (k := 1) rfl ((nI_succ _).symm) (by decide) rfl (fun ls hl => ?_)
          refine lv_goto (tgt := 13) hx hb dX8_version_53 (by decide) ?_
          exact ih_13 (k + 1) _ (by omega) (by omega) (by rw [hz2]; exact cp_s _ _ _ _ _) _ _ hP hD hS ls (lv_sub hl [1, 0] rfl)
    exact loop_13 21 0 z (by omega) (by omega) (cp_0 _ _ _ _).symm _ _ hP hD hS ls (lv_sub hl [1, 0] rfl)
  · refine lv_bipush (v := (-4)) hx hb dX8_version_8 (by decide) ?_
    rw [hQ]
    exact m_iwr hx hb hr hlocks (nv, z, g) (⟨by unfold verR; rw [if_neg (by omega)], by unfold verS; rw [if_neg (by omega)]⟩) hP hS dX8_version_10

theorem yd_X8_size : yX8_size.cls = RX8 ∧ yX8_size.cls ≠ "java/lang/invoke/MethodHandle" ∧ yX8_size.cls ≠ "java/lang/invoke/VarHandle" ∧ (parseMethodDescriptor yX8_size.desc).map (fun d => d.parameters.length) = some 2 := by decide +kernel
set_option maxHeartbeats 4000000 in
set_option maxRecDepth 100000 in
theorem k_X8_size (l : Launch) (D : va_G) (cI cZ : ClassId) (mo ps mpa nl nv msz mcd mbe mba : Nat) (ol : Int32) (op os svn ms1 ms2 ms3 ms4 mfa mim mik : Nat) (z : Nat → Nat) (v ln : Nat) (hv : v < 4) (hln : ln < 20) : Met l yX8_size wsX8_size ({ frames := 0, cells := 0, slots := 0, locals := 0 }) (mPc [.ref mo, .int (nI v), .int (nI ln)] D cI cZ [(mo, .inr (8, [.int (nI ps), .ref mpa, .int (nI nl), .int (nI nv), .ref msz, .ref mcd, .ref mbe, .ref mba, .int ol, .int (nI op), .int (nI os), .int (nI svn), .ref ms1, .ref ms2, .ref ms3, .ref ms4, .ref mfa, .ref mim, .ref mik])), (msz, aN cI 80 z)]) (QcRead (nI (z (v * 20 + ln)))) 0 0 (fun _ => False) := by
  refine Met.ofW (cc := cX8_size) (maxL := 3) (ret := (some .int)) (by decide) rfl ?_
  intro p e s m args below meth c s₁ BB hml hv
  obtain ⟨hargs, hP, hD0, hK⟩ := hv
  have hx := BB.exec
  have hb := BB.bytes
  have hr := BB.returns
  have hts := atoms_spec (ws := wsX8_size) BB.pre
  have hown : s.vm.findClass RX8 = some m.cls := findClass_of_methodNamed BB.named
  have hlocks := BB.notSynchronized
  have hcf : CallFix p m c cX8_size 3 s args wsX8_size RX8 := ⟨hx, hb, hml, hown, hts⟩
  have hD := hD0
  rw [hargs, lg_entry_eq, ← hargs]
  have hl := lv_entry ([.ref mo, .int (nI v), .int (nI ln)]) (n := 3) (Nat.le_of_ble_eq_true rfl)
  generalize (lg_sl ([.ref mo, .int (nI v), .int (nI ln)]) ++ List.replicate (3 - (lg_sl ([.ref mo, .int (nI v), .int (nI ln)])).length) Slot.unset).toArray = ls at hl ⊢
  have hl : lv_has ls 3 [(0, .ref mo), (1, .int (nI v)), (2, .int (nI ln))] := hl
  obtain ⟨Q, hQ⟩ : ∃ Q, Q = MQ below (QcRead (nI (z (v * 20 + ln)))) args s 0 0 (fun _ => False) := ⟨_, rfl⟩
  rw [← hQ]
  have i_X8 : ∀ w ∈ u_ws RX8 TX8 19, w ∈ wsX8_size := by decide +kernel
  have f_13 := hts (.fieldLink RX8 13 "SameAgainModel" "sizes" "[I") (by decide +kernel)
  refine lv_aload_n hx hb dX8_size_0 rfl (lv_at hl 0 rfl) ?_
  refine va_get (D := D) (ci := 8) (v := .ref msz) (C := RX8) (T := TX8) (N := 19) hx hb hts i_X8 hown hK.1 hP 0 rfl rfl 4 (by decide) f_13 (fun _ h9 => h9) rfl dX8_size_1 ?_
  refine lv_bipush (v := nI 20) hx hb dX8_size_4 (by decide) ?_
  refine lv_iload_n hx hb dX8_size_6 rfl (lv_at hl 1 rfl) ?_
  refine m_mul hx hb dX8_size_7 ?_
  refine lv_iload_n hx hb dX8_size_8 rfl (lv_at hl 2 rfl) ?_
  refine m_add hx hb dX8_size_9 ?_
  refine m_top (y := nI (v * 20 + ln)) (by rw [Nat.mul_comm]) ?_
  refine m_ald hx hb hK hP 1 rfl (by decide) (by omega) dX8_size_10 ?_
  skip
  rw [hQ]
  exact m_ird hx hb hr hlocks rfl dX8_size_11

theorem yd_X8_signAt : yX8_signAt.cls = RX8 ∧ yX8_signAt.cls ≠ "java/lang/invoke/MethodHandle" ∧ yX8_signAt.cls ≠ "java/lang/invoke/VarHandle" ∧ (parseMethodDescriptor yX8_signAt.desc).map (fun d => d.parameters.length) = some 3 := by decide +kernel
set_option maxHeartbeats 4000000 in
set_option maxRecDepth 100000 in
theorem k_X8_signAt (l : Launch) (D : va_G) (cI cZ : ClassId) (mo ps mpa nl nv msz mcd mbe mba : Nat) (ol : Int32) (op os svn ms1 ms2 ms3 ms4 mfa mim mik : Nat) (g : Nat → Nat) (v ln k : Nat) (hv : v < 4) (hln : ln < 20) (hk : k < 8) : Met l yX8_signAt wsX8_signAt ({ frames := 0, cells := 0, slots := 0, locals := 0 }) (mPc [.ref mo, .int (nI v), .int (nI ln), .int (nI k)] D cI cZ [(mo, .inr (8, [.int (nI ps), .ref mpa, .int (nI nl), .int (nI nv), .ref msz, .ref mcd, .ref mbe, .ref mba, .int ol, .int (nI op), .int (nI os), .int (nI svn), .ref ms1, .ref ms2, .ref ms3, .ref ms4, .ref mfa, .ref mim, .ref mik])), (mcd, aN cI 640 g)]) (QcRead (nI (g ((v * 20 + ln) * 8 + k)))) 0 0 (fun _ => False) := by
  refine Met.ofW (cc := cX8_signAt) (maxL := 4) (ret := (some .int)) (by decide) rfl ?_
  intro p e s m args below meth c s₁ BB hml hv
  obtain ⟨hargs, hP, hD0, hK⟩ := hv
  have hx := BB.exec
  have hb := BB.bytes
  have hr := BB.returns
  have hts := atoms_spec (ws := wsX8_signAt) BB.pre
  have hown : s.vm.findClass RX8 = some m.cls := findClass_of_methodNamed BB.named
  have hlocks := BB.notSynchronized
  have hcf : CallFix p m c cX8_signAt 4 s args wsX8_signAt RX8 := ⟨hx, hb, hml, hown, hts⟩
  have hD := hD0
  rw [hargs, lg_entry_eq, ← hargs]
  have hl := lv_entry ([.ref mo, .int (nI v), .int (nI ln), .int (nI k)]) (n := 4) (Nat.le_of_ble_eq_true rfl)
  generalize (lg_sl ([.ref mo, .int (nI v), .int (nI ln), .int (nI k)]) ++ List.replicate (4 - (lg_sl ([.ref mo, .int (nI v), .int (nI ln), .int (nI k)])).length) Slot.unset).toArray = ls at hl ⊢
  have hl : lv_has ls 4 [(0, .ref mo), (1, .int (nI v)), (2, .int (nI ln)), (3, .int (nI k))] := hl
  obtain ⟨Q, hQ⟩ : ∃ Q, Q = MQ below (QcRead (nI (g ((v * 20 + ln) * 8 + k)))) args s 0 0 (fun _ => False) := ⟨_, rfl⟩
  rw [← hQ]
  have i_X8 : ∀ w ∈ u_ws RX8 TX8 19, w ∈ wsX8_signAt := by decide +kernel
  have f_16 := hts (.fieldLink RX8 16 "SameAgainModel" "code" "[I") (by decide +kernel)
  refine lv_aload_n hx hb dX8_signAt_0 rfl (lv_at hl 0 rfl) ?_
  refine va_get (D := D) (ci := 8) (v := .ref mcd) (C := RX8) (T := TX8) (N := 19) hx hb hts i_X8 hown hK.1 hP 0 rfl rfl 5 (by decide) f_16 (fun _ h9 => h9) rfl dX8_signAt_1 ?_
  refine lv_sipush (v := nI 160) hx hb dX8_signAt_4 (by decide) ?_
  refine lv_iload_n hx hb dX8_signAt_7 rfl (lv_at hl 1 rfl) ?_
  refine m_mul hx hb dX8_signAt_8 ?_
  refine lv_bipush (v := nI 8) hx hb dX8_signAt_9 (by decide) ?_
  refine lv_iload_n hx hb dX8_signAt_11 rfl (lv_at hl 2 rfl) ?_
  refine m_mul hx hb dX8_signAt_12 ?_
  refine m_add hx hb dX8_signAt_13 ?_
  refine lv_iload_n hx hb dX8_signAt_14 rfl (lv_at hl 3 rfl) ?_
  refine m_add hx hb dX8_signAt_15 ?_
  refine m_top (y := nI ((v * 20 + ln) * 8 + k)) (by congr 1; omega) ?_
  refine m_ald hx hb hK hP 1 rfl (by decide) (by omega) dX8_signAt_16 ?_
  rw [hQ]
  exact m_ird hx hb hr hlocks rfl dX8_signAt_17

theorem sgA_in {z g : Nat → Nat} {sl : Nat} {x : Int32} (hz : ∀ j, z j ≤ 8) (h : ixB x (z sl) = true) : x = nI (cN x) ∧ cN x < z sl ∧ sgA z g sl x = g (sl * 8 + cN x) := by
  have h8 := hz sl
  obtain ⟨e, i⟩ := ixB_cN (by omega) h
  refine ⟨e, i, ?_⟩
  have h0 : ¬ x < 0 := by rw [e]; exact nI_pos (by omega)
  unfold sgA
  rw [if_neg h0]
  exact sg_g i
theorem sgA_no {z g : Nat → Nat} {sl : Nat} {x : Int32} (h : ixB x (z sl) = false) : sgA z g sl x = 0 := by
  unfold sgA
  split
  · rfl
  · rename_i h0
    obtain ⟨j, hj, rfl⟩ := nI_of h0
    rw [nI_clamp hj]
    unfold sgN
    rw [if_neg]
    intro q
    rw [ixB_d hj, decide_eq_true q] at h
    cases h

theorem yd_X8_sign : yX8_sign.cls = RX8 ∧ yX8_sign.cls ≠ "java/lang/invoke/MethodHandle" ∧ yX8_sign.cls ≠ "java/lang/invoke/VarHandle" ∧ (parseMethodDescriptor yX8_sign.desc).map (fun d => d.parameters.length) = some 3 := by decide +kernel
set_option maxHeartbeats 4000000 in
set_option maxRecDepth 100000 in
theorem k_X8_sign (l : Launch) (D : va_G) (cI cZ : ClassId) (mo ps mpa nl nv msz mcd mbe mba : Nat) (ol : Int32) (op os svn ms1 ms2 ms3 ms4 mfa mim mik : Nat) (z g : Nat → Nat) (ve li pl : Int32) (hnl : nl ≤ 20) (hnv : nv ≤ 4) (hz : ∀ j, z j ≤ 8) (hg : ∀ j, g j ≤ 126) (hgp : ∀ v ln k, v < nv → ln < nl → k < z (v * 20 + ln) → g ((v * 20 + ln) * 8 + k) ≠ 0) : Met l yX8_sign wsX8_sign ({ frames := 2, cells := 0, slots := 0, locals := 43 }) (mPc [.ref mo, .int ve, .int li, .int pl] D cI cZ [(mo, .inr (8, [.int (nI ps), .ref mpa, .int (nI nl), .int (nI nv), .ref msz, .ref mcd, .ref mbe, .ref mba, .int ol, .int (nI op), .int (nI os), .int (nI svn), .ref ms1, .ref ms2, .ref ms3, .ref ms4, .ref mfa, .ref mim, .ref mik])), (msz, aN cI 80 z), (mcd, aN cI 640 g)]) (QcRead (sigR nl nv z g ve li pl)) 0 0 (fun _ => False) := by
  refine Met.ofW (cc := cX8_sign) (maxL := 4) (ret := (some .int)) (by decide) rfl ?_
  intro p e s m args below meth c s₁ BB hml hv
  obtain ⟨hargs, hP, hD0, hK⟩ := hv
  have hx := BB.exec
  have hb := BB.bytes
  have hr := BB.returns
  have hts := atoms_spec (ws := wsX8_sign) BB.pre
  have hown : s.vm.findClass RX8 = some m.cls := findClass_of_methodNamed BB.named
  have hlocks := BB.notSynchronized
  have hcf : CallFix p m c cX8_sign 4 s args wsX8_sign RX8 := ⟨hx, hb, hml, hown, hts⟩
  have hD := hD0
  rw [hargs, lg_entry_eq, ← hargs]
  have hl := lv_entry ([.ref mo, .int ve, .int li, .int pl]) (n := 4) (Nat.le_of_ble_eq_true rfl)
  generalize (lg_sl ([.ref mo, .int ve, .int li, .int pl]) ++ List.replicate (4 - (lg_sl ([.ref mo, .int ve, .int li, .int pl])).length) Slot.unset).toArray = ls at hl ⊢
  have hl : lv_has ls 4 [(0, .ref mo), (1, .int ve), (2, .int li), (3, .int pl)] := hl
  obtain ⟨Q, hQ⟩ : ∃ Q, Q = MQ below (QcRead (sigR nl nv z g ve li pl)) args s 0 0 (fun _ => False) := ⟨_, rfl⟩
  rw [← hQ]
  refine lv_aload_n hx hb dX8_sign_0 rfl (lv_at hl 0 rfl) ?_
  refine lv_iload_n hx hb dX8_sign_1 rfl (lv_at hl 1 rfl) ?_
  refine m_rdV (As := [.int ve]) (rest := []) (wc := [(mo, .inr (8, [.int (nI ps), .ref mpa, .int (nI nl), .int (nI nv), .ref msz, .ref mcd, .ref mbe, .ref mba, .int ol, .int (nI op), .int (nI os), .int (nI svn), .ref ms1, .ref ms2, .ref ms3, .ref ms4, .ref mfa, .ref mim, .ref mik]))]) hcf (k_X8_isVersion (l := l) (D := D) (cI := cI) (cZ := cZ) (x := ve) (mo := mo) (ps := ps) (mpa := mpa) (nl := nl) (nv := nv) (msz := msz) (mcd := mcd) (mbe := mbe) (mba := mba) (ol := ol) (op := op) (os := os) (svn := svn) (ms1 := ms1) (ms2 := ms2) (ms3 := ms3) (ms4 := ms4) (mfa := mfa) (mim := mim) (mik := mik) (hnl := hnl) (hnv := hnv)) (cwV 1 hts gX8_sign_X8_isVersion rfl rfl rfl yd_X8_isVersion ⟨Nat.le_of_ble_eq_true rfl, Nat.le_of_ble_eq_true rfl⟩) (m_preV hK hP hD [0] (by decide) rfl rfl rfl) rfl hl.1 rfl (Nat.le_of_ble_eq_true rfl) dX8_sign_2 ⟨Nat.zero_le _, Nat.zero_le _⟩ ?_
  refine m_ifB_eq (tgt := 16) hx hb dX8_sign_5 (by decide) (fun c_5 => ?_) (fun c_5 => ?_)
  · refine lv_iconst (v := (-1)) hx hb dX8_sign_16 (by decide) ?_
    rw [hQ]
    exact m_ird hx hb hr hlocks (by unfold sigR; rw [if_neg (by first | (simp [c_5]; done) | (simp [c_13]; done))]) dX8_sign_17
  · obtain ⟨e_v, i_v⟩ := ixB_cN (by omega) c_5
    refine lv_aload_n hx hb dX8_sign_8 rfl (lv_at hl 0 rfl) ?_
    refine lv_iload_n hx hb dX8_sign_9 rfl (lv_at hl 2 rfl) ?_
    refine m_rdV (As := [.int li]) (rest := []) (wc := [(mo, .inr (8, [.int (nI ps), .ref mpa, .int (nI nl), .int (nI nv), .ref msz, .ref mcd, .ref mbe, .ref mba, .int ol, .int (nI op), .int (nI os), .int (nI svn), .ref ms1, .ref ms2, .ref ms3, .ref ms4, .ref mfa, .ref mim, .ref mik]))]) hcf (k_X8_isLine (l := l) (D := D) (cI := cI) (cZ := cZ) (x := li) (mo := mo) (ps := ps) (mpa := mpa) (nl := nl) (nv := nv) (msz := msz) (mcd := mcd) (mbe := mbe) (mba := mba) (ol := ol) (op := op) (os := os) (svn := svn) (ms1 := ms1) (ms2 := ms2) (ms3 := ms3) (ms4 := ms4) (mfa := mfa) (mim := mim) (mik := mik) (hnl := hnl) (hnv := hnv)) (cwV 1 hts gX8_sign_X8_isLine rfl rfl rfl yd_X8_isLine ⟨Nat.le_of_ble_eq_true rfl, Nat.le_of_ble_eq_true rfl⟩) (m_preV hK hP hD [0] (by decide) rfl rfl rfl) rfl hl.1 rfl (Nat.le_of_ble_eq_true rfl) dX8_sign_10 ⟨Nat.zero_le _, Nat.zero_le _⟩ ?_
    refine m_ifB_ne (tgt := 18) hx hb dX8_sign_13 (by decide) (fun c_13 => ?_) (fun c_13 => ?_)
    · obtain ⟨e_l, i_l⟩ := ixB_cN (by omega) c_13
      have K9 : (ixB ve nv && ixB li nl) = true := by rw [c_5, c_13]; rfl
      have hz8 := hz (cN ve * 20 + cN li)
      have hl : lv_has ls 4 [(0, .ref mo), (1, .int (nI (cN ve))), (2, .int (nI (cN li))), (3, .int pl)] := by rw [← e_v, ← e_l]; exact hl
      refine lv_iload_n hx hb dX8_sign_18 rfl (lv_at hl 3 rfl) ?_
      refine lv_iconst (v := (-1)) hx hb dX8_sign_19 (by decide) ?_
      refine lv_icmp_ne (tgt := 32) hx hb dX8_sign_20 (by decide) (fun c_20 => ?_) (fun c_20 => ?_)
      · refine lv_iload_n hx hb dX8_sign_32 rfl (lv_at hl 3 rfl) ?_
        refine lv_iconst (v := nI 0) hx hb dX8_sign_33 (by decide) ?_
        refine lv_aload_n hx hb dX8_sign_34 rfl (lv_at hl 0 rfl) ?_
        refine lv_iload_n hx hb dX8_sign_35 rfl (lv_at hl 1 rfl) ?_
        refine lv_iload_n hx hb dX8_sign_36 rfl (lv_at hl 2 rfl) ?_
        refine m_rdV (As := [.int (nI (cN ve)), .int (nI (cN li))]) (rest := [.int (nI 0), .int pl]) (wc := [(mo, .inr (8, [.int (nI ps), .ref mpa, .int (nI nl), .int (nI nv), .ref msz, .ref mcd, .ref mbe, .ref mba, .int ol, .int (nI op), .int (nI os), .int (nI svn), .ref ms1, .ref ms2, .ref ms3, .ref ms4, .ref mfa, .ref mim, .ref mik])), (msz, aN cI 80 z)]) hcf (k_X8_size (l := l) (D := D) (cI := cI) (cZ := cZ) (v := cN ve) (ln := cN li) (mo := mo) (ps := ps) (mpa := mpa) (nl := nl) (nv := nv) (msz := msz) (mcd := mcd) (mbe := mbe) (mba := mba) (ol := ol) (op := op) (os := os) (svn := svn) (ms1 := ms1) (ms2 := ms2) (ms3 := ms3) (ms4 := ms4) (mfa := mfa) (mim := mim) (mik := mik) (z := z) (hv := by omega) (hln := by omega)) (cwV 2 hts gX8_sign_X8_size rfl rfl rfl yd_X8_size ⟨Nat.le_of_ble_eq_true rfl, Nat.le_of_ble_eq_true rfl⟩) (m_preV hK hP hD [0, 1] (by decide) rfl rfl rfl) rfl hl.1 rfl (Nat.le_of_ble_eq_true rfl) dX8_sign_37 ⟨Nat.zero_le _, Nat.zero_le _⟩ ?_
        refine lv_iconst (v := nI 1) hx hb dX8_sign_40 (by decide) ?_
        refine lv_isub hx hb dX8_sign_41 ?_
        refine m_rdS (As := [.int pl, .int (nI 0), .int ((nI (z ((cN ve) * 20 + (cN li)))) - (nI 1))]) (rest := []) (wc := []) hcf (k_X8_in (l := l) (D := D) (cI := cI) (cZ := cZ) (x := pl) (lo := nI 0) (hi := (nI (z ((cN ve) * 20 + (cN li)))) - (nI 1)) ) (va_cwS 3 hts gX8_sign_X8_in rfl rfl rfl yd_X8_in.2 ⟨Nat.le_of_ble_eq_true rfl, Nat.le_of_ble_eq_true rfl⟩) (m_preS hK hP hD [] (by decide) rfl) rfl hl.1 rfl (Nat.le_of_ble_eq_true rfl) dX8_sign_42 ⟨Nat.zero_le _, Nat.zero_le _⟩ ?_
        refine m_top (y := bI (ixB pl (z (cN ve * 20 + cN li)))) (by rw [inB_ix (by omega) (by decide), Nat.add_sub_cancel]) ?_
        refine m_ifB_eq (tgt := 58) hx hb dX8_sign_45 (by decide) (fun c_45 => ?_) (fun c_45 => ?_)
        · refine lv_bipush (v := (-6)) hx hb dX8_sign_58 (by decide) ?_
          rw [hQ]
          exact m_ird hx hb hr hlocks (by unfold sigR; rw [if_pos K9, if_neg c_20, if_pos (sgA_no c_45)]) dX8_sign_60
        · obtain ⟨e_p, i_p, s_p⟩ := sgA_in (g := g) hz c_45
          have hl : lv_has ls 4 [(0, .ref mo), (1, .int (nI (cN ve))), (2, .int (nI (cN li))), (3, .int (nI (cN pl)))] := by rw [← e_p]; exact hl
          refine lv_aload_n hx hb dX8_sign_48 rfl (lv_at hl 0 rfl) ?_
          refine lv_iload_n hx hb dX8_sign_49 rfl (lv_at hl 1 rfl) ?_
          refine lv_iload_n hx hb dX8_sign_50 rfl (lv_at hl 2 rfl) ?_
          refine lv_iload_n hx hb dX8_sign_51 rfl (lv_at hl 3 rfl) ?_
          refine m_rdV (As := [.int (nI (cN ve)), .int (nI (cN li)), .int (nI (cN pl))]) (rest := []) (wc := [(mo, .inr (8, [.int (nI ps), .ref mpa, .int (nI nl), .int (nI nv), .ref msz, .ref mcd, .ref mbe, .ref mba, .int ol, .int (nI op), .int (nI os), .int (nI svn), .ref ms1, .ref ms2, .ref ms3, .ref ms4, .ref mfa, .ref mim, .ref mik])), (mcd, aN cI 640 g)]) hcf (k_X8_signAt (l := l) (D := D) (cI := cI) (cZ := cZ) (v := cN ve) (ln := cN li) (k := cN pl) (mo := mo) (ps := ps) (mpa := mpa) (nl := nl) (nv := nv) (msz := msz) (mcd := mcd) (mbe := mbe) (mba := mba) (ol := ol) (op := op) (os := os) (svn := svn) (ms1 := ms1) (ms2 := ms2) (ms3 := ms3) (ms4 := ms4) (mfa := mfa) (mim := mim) (mik := mik) (g := g) (hv := by omega) (hln := by omega) (hk := by omega)) (cwV 3 hts gX8_sign_X8_signAt rfl rfl rfl yd_X8_signAt ⟨Nat.le_of_ble_eq_true rfl, Nat.le_of_ble_eq_true rfl⟩) (m_preV hK hP hD [0, 2] (by decide) rfl rfl rfl) rfl hl.1 rfl (Nat.le_of_ble_eq_true rfl) dX8_sign_52 ⟨Nat.zero_le _, Nat.zero_le _⟩ ?_
          refine lv_goto (tgt := 60) hx hb dX8_sign_55 (by decide) ?_
          rw [hQ]
          exact m_ird hx hb hr hlocks (by unfold sigR; rw [if_pos K9, if_neg c_20, s_p, if_neg (hgp _ _ _ i_v i_l i_p)]) dX8_sign_60
      · refine lv_aload_n hx hb dX8_sign_23 rfl (lv_at hl 0 rfl) ?_
        refine lv_iload_n hx hb dX8_sign_24 rfl (lv_at hl 1 rfl) ?_
        refine lv_iload_n hx hb dX8_sign_25 rfl (lv_at hl 2 rfl) ?_
        refine m_rdV (As := [.int (nI (cN ve)), .int (nI (cN li))]) (rest := []) (wc := [(mo, .inr (8, [.int (nI ps), .ref mpa, .int (nI nl), .int (nI nv), .ref msz, .ref mcd, .ref mbe, .ref mba, .int ol, .int (nI op), .int (nI os), .int (nI svn), .ref ms1, .ref ms2, .ref ms3, .ref ms4, .ref mfa, .ref mim, .ref mik])), (msz, aN cI 80 z)]) hcf (k_X8_size (l := l) (D := D) (cI := cI) (cZ := cZ) (v := cN ve) (ln := cN li) (mo := mo) (ps := ps) (mpa := mpa) (nl := nl) (nv := nv) (msz := msz) (mcd := mcd) (mbe := mbe) (mba := mba) (ol := ol) (op := op) (os := os) (svn := svn) (ms1 := ms1) (ms2 := ms2) (ms3 := ms3) (ms4 := ms4) (mfa := mfa) (mim := mim) (mik := mik) (z := z) (hv := by omega) (hln := by omega)) (cwV 2 hts gX8_sign_X8_size rfl rfl rfl yd_X8_size ⟨Nat.le_of_ble_eq_true rfl, Nat.le_of_ble_eq_true rfl⟩) (m_preV hK hP hD [0, 1] (by decide) rfl rfl rfl) rfl hl.1 rfl (Nat.le_of_ble_eq_true rfl) dX8_sign_26 ⟨Nat.zero_le _, Nat.zero_le _⟩ ?_
        refine lv_goto (tgt := 60) hx hb dX8_sign_29 (by decide) ?_
        rw [hQ]
        exact m_ird hx hb hr hlocks (by unfold sigR; rw [if_pos K9, if_pos c_20]) dX8_sign_60
    · refine lv_iconst (v := (-1)) hx hb dX8_sign_16 (by decide) ?_
      rw [hQ]
      exact m_ird hx hb hr hlocks (by unfold sigR; rw [if_neg (by first | (simp [c_5]; done) | (simp [c_13]; done))]) dX8_sign_17
