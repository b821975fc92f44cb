theorem yd_X0_lines : yX0_lines.cls = RX0 ∧ yX0_lines.cls ≠ "java/lang/invoke/MethodHandle" ∧ yX0_lines.cls ≠ "java/lang/invoke/VarHandle" ∧ (parseMethodDescriptor yX0_lines.desc).map (fun d => d.parameters.length) = some 0 := by decide +kernel
set_option maxHeartbeats 4000000 in
set_option maxRecDepth 100000 in
theorem k_X0_lines (l : Launch) (D : va_G) (cI cZ : ClassId) (o a1 a2 nl nv : Nat) (z g : Nat → Nat) (hnl : nl ≤ 20) (hnv : nv ≤ 4) (hz : ∀ j, z j ≤ 8) (hg : ∀ j, g j ≤ 126) : Met l yX0_lines wsX0_lines ({ frames := 0, cells := 0, slots := 0, locals := 0 }) (mPc [.ref o] D cI cZ [(o, .inr (0, [.ref a1, .ref a2, .int (nI nl), .int (nI nv)])), (a1, aN cI 640 g), (a2, aN cI 80 z)]) (QcRead (nI nl)) 0 0 (fun _ => False) := by
  refine Met.ofW (cc := cX0_lines) (maxL := 1) (ret := (some .int)) (by decide) rfl ?_
  intro p e s m args below meth c s₁ BB hml hv
  obtain ⟨hargs, hP, hD0, hK⟩ := hv
  have hx := BB.exec
  have hb := BB.bytes
  have hr := BB.returns
  have hts := atoms_spec (ws := wsX0_lines) BB.pre
  have hown : s.vm.findClass RX0 = some m.cls := findClass_of_methodNamed BB.named
  have hlocks := BB.notSynchronized
  have hcf : CallFix p m c cX0_lines 1 s args wsX0_lines RX0 := ⟨hx, hb, hml, hown, hts⟩
  have hD := hD0
  rw [hargs, lg_entry_eq, ← hargs]
  have hl := lv_entry ([.ref o]) (n := 1) (Nat.le_of_ble_eq_true rfl)
  generalize (lg_sl ([.ref o]) ++ List.replicate (1 - (lg_sl ([.ref o])).length) Slot.unset).toArray = ls at hl ⊢
  have hl : lv_has ls 1 [(0, .ref o)] := hl
  obtain ⟨Q, hQ⟩ : ∃ Q, Q = MQ below (QcRead (nI nl)) args s 0 0 (fun _ => False) := ⟨_, rfl⟩
  rw [← hQ]
  have i_X0 : ∀ w ∈ u_ws RX0 TX0 4, w ∈ wsX0_lines := by decide +kernel
  have f_18 := hts (.fieldLink RX0 18 "SameAgain$Code" "lineCount" "I") (by decide +kernel)
  refine lv_aload_n hx hb dX0_lines_0 rfl (lv_at hl 0 rfl) ?_
  refine va_get (D := D) (ci := 0) (v := .int (nI nl)) (C := RX0) (T := TX0) (N := 4) hx hb hts i_X0 hown hK.1 hP 0 rfl rfl 2 (by decide) f_18 (fun _ h9 => h9) rfl dX0_lines_1 ?_
  rw [hQ]
  exact m_ird hx hb hr hlocks rfl dX0_lines_4

theorem yd_X0_versions : yX0_versions.cls = RX0 ∧ yX0_versions.cls ≠ "java/lang/invoke/MethodHandle" ∧ yX0_versions.cls ≠ "java/lang/invoke/VarHandle" ∧ (parseMethodDescriptor yX0_versions.desc).map (fun d => d.parameters.length) = some 0 := by decide +kernel
set_option maxHeartbeats 4000000 in
set_option maxRecDepth 100000 in
theorem k_X0_versions (l : Launch) (D : va_G) (cI cZ : ClassId) (o a1 a2 nl nv : Nat) (z g : Nat → Nat) (hnl : nl ≤ 20) (hnv : nv ≤ 4) (hz : ∀ j, z j ≤ 8) (hg : ∀ j, g j ≤ 126) : Met l yX0_versions wsX0_versions ({ frames := 0, cells := 0, slots := 0, locals := 0 }) (mPc [.ref o] D cI cZ [(o, .inr (0, [.ref a1, .ref a2, .int (nI nl), .int (nI nv)])), (a1, aN cI 640 g), (a2, aN cI 80 z)]) (QcRead (nI nv)) 0 0 (fun _ => False) := by
  refine Met.ofW (cc := cX0_versions) (maxL := 1) (ret := (some .int)) (by decide) rfl ?_
  intro p e s m args below meth c s₁ BB hml hv
  obtain ⟨hargs, hP, hD0, hK⟩ := hv
  have hx := BB.exec
  have hb := BB.bytes
  have hr := BB.returns
  have hts := atoms_spec (ws := wsX0_versions) BB.pre
  have hown : s.vm.findClass RX0 = some m.cls := findClass_of_methodNamed BB.named
  have hlocks := BB.notSynchronized
  have hcf : CallFix p m c cX0_versions 1 s args wsX0_versions RX0 := ⟨hx, hb, hml, hown, hts⟩
  have hD := hD0
  rw [hargs, lg_entry_eq, ← hargs]
  have hl := lv_entry ([.ref o]) (n := 1) (Nat.le_of_ble_eq_true rfl)
  generalize (lg_sl ([.ref o]) ++ List.replicate (1 - (lg_sl ([.ref o])).length) Slot.unset).toArray = ls at hl ⊢
  have hl : lv_has ls 1 [(0, .ref o)] := hl
  obtain ⟨Q, hQ⟩ : ∃ Q, Q = MQ below (QcRead (nI nv)) args s 0 0 (fun _ => False) := ⟨_, rfl⟩
  rw [← hQ]
  have i_X0 : ∀ w ∈ u_ws RX0 TX0 4, w ∈ wsX0_versions := by decide +kernel
  have f_22 := hts (.fieldLink RX0 22 "SameAgain$Code" "versionCount" "I") (by decide +kernel)
  refine lv_aload_n hx hb dX0_versions_0 rfl (lv_at hl 0 rfl) ?_
  refine va_get (D := D) (ci := 0) (v := .int (nI nv)) (C := RX0) (T := TX0) (N := 4) hx hb hts i_X0 hown hK.1 hP 0 rfl rfl 3 (by decide) f_22 (fun _ h9 => h9) rfl dX0_versions_1 ?_
  rw [hQ]
  exact m_ird hx hb hr hlocks rfl dX0_versions_4

theorem yd_X0_hasVersion : yX0_hasVersion.cls = RX0 ∧ yX0_hasVersion.cls ≠ "java/lang/invoke/MethodHandle" ∧ yX0_hasVersion.cls ≠ "java/lang/invoke/VarHandle" ∧ (parseMethodDescriptor yX0_hasVersion.desc).map (fun d => d.parameters.length) = some 1 := by decide +kernel
set_option maxHeartbeats 4000000 in
set_option maxRecDepth 100000 in
theorem k_X0_hasVersion (l : Launch) (D : va_G) (cI cZ : ClassId) (o a1 a2 nl nv : Nat) (z g : Nat → Nat) (x : Int32) (hnl : nl ≤ 20) (hnv : nv ≤ 4) (hz : ∀ j, z j ≤ 8) (hg : ∀ j, g j ≤ 126) : Met l yX0_hasVersion wsX0_hasVersion ({ frames := 0, cells := 0, slots := 0, locals := 0 }) (mPc [.ref o, .int x] D cI cZ [(o, .inr (0, [.ref a1, .ref a2, .int (nI nl), .int (nI nv)])), (a1, aN cI 640 g), (a2, aN cI 80 z)]) (QcRead (bI (ixB x nv))) 0 0 (fun _ => False) := by
  refine Met.ofW (cc := cX0_hasVersion) (maxL := 2) (ret := (some .boolean)) (by decide) rfl ?_
  intro p e s m args below meth c s₁ BB hml hv
  obtain ⟨hargs, hP, hD0, hK⟩ := hv
  have hx := BB.exec
  have hb := BB.bytes
  have hr := BB.returns
  have hts := atoms_spec (ws := wsX0_hasVersion) BB.pre
  have hown : s.vm.findClass RX0 = some m.cls := findClass_of_methodNamed BB.named
  have hlocks := BB.notSynchronized
  have hcf : CallFix p m c cX0_hasVersion 2 s args wsX0_hasVersion RX0 := ⟨hx, hb, hml, hown, hts⟩
  have hD := hD0
  rw [hargs, lg_entry_eq, ← hargs]
  have hl := lv_entry ([.ref o, .int x]) (n := 2) (Nat.le_of_ble_eq_true rfl)
  generalize (lg_sl ([.ref o, .int x]) ++ List.replicate (2 - (lg_sl ([.ref o, .int x])).length) Slot.unset).toArray = ls at hl ⊢
  have hl : lv_has ls 2 [(0, .ref o), (1, .int x)] := hl
  obtain ⟨Q, hQ⟩ : ∃ Q, Q = MQ below (QcRead (bI (ixB x nv))) args s 0 0 (fun _ => False) := ⟨_, rfl⟩
  rw [← hQ]
  have i_X0 : ∀ w ∈ u_ws RX0 TX0 4, w ∈ wsX0_hasVersion := by decide +kernel
  have f_22 := hts (.fieldLink RX0 22 "SameAgain$Code" "versionCount" "I") (by decide +kernel)
  refine lv_iload_n hx hb dX0_hasVersion_0 rfl (lv_at hl 1 rfl) ?_
  refine lv_if_lt (tgt := 16) hx hb dX0_hasVersion_1 (by decide) (fun c_1 => ?_) (fun c_1 => ?_)
  · refine lv_iconst (v := nI 0) hx hb dX0_hasVersion_16 (by decide) ?_
    rw [hQ]
    have h9 := nI_toInt (show nv < 2 ^ 31 by omega)
    exact m_zrd hx hb hr hlocks (b_zero (by simp only [fa_lt, fa_le, tI0] at *; omega)) dX0_hasVersion_17
  · refine lv_iload_n hx hb dX0_hasVersion_4 rfl (lv_at hl 1 rfl) ?_
    refine lv_aload_n hx hb dX0_hasVersion_5 rfl (lv_at hl 0 rfl) ?_
    refine va_get (D := D) (ci := 0) (v := .int (nI nv)) (C := RX0) (T := TX0) (N := 4) hx hb hts i_X0 hown hK.1 hP 0 rfl rfl 3 (by decide) f_22 (fun _ h9 => h9) rfl dX0_hasVersion_6 ?_
    refine lv_icmp_ge (tgt := 16) hx hb dX0_hasVersion_9 (by decide) (fun c_9 => ?_) (fun c_9 => ?_)
    · refine lv_iconst (v := nI 0) hx hb dX0_hasVersion_16 (by decide) ?_
      rw [hQ]
      have h9 := nI_toInt (show nv < 2 ^ 31 by omega)
      exact m_zrd hx hb hr hlocks (b_zero (by simp only [fa_lt, fa_le, tI0] at *; omega)) dX0_hasVersion_17
    · refine lv_iconst (v := nI 1) hx hb dX0_hasVersion_12 (by decide) ?_
      refine lv_goto (tgt := 17) hx hb dX0_hasVersion_13 (by decide) ?_
      rw [hQ]
      have h9 := nI_toInt (show nv < 2 ^ 31 by omega)
      exact m_zrd hx hb hr hlocks (b_one (by simp only [fa_lt, fa_le, tI0] at *; omega)) dX0_hasVersion_17

theorem yd_X0_hasLine : yX0_hasLine.cls = RX0 ∧ yX0_hasLine.cls ≠ "java/lang/invoke/MethodHandle" ∧ yX0_hasLine.cls ≠ "java/lang/invoke/VarHandle" ∧ (parseMethodDescriptor yX0_hasLine.desc).map (fun d => d.parameters.length) = some 1 := by decide +kernel
set_option maxHeartbeats 4000000 in
set_option maxRecDepth 100000 in
theorem k_X0_hasLine (l : Launch) (D : va_G) (cI cZ : ClassId) (o a1 a2 nl nv : Nat) (z g : Nat → Nat) (x : Int32) (hnl : nl ≤ 20) (hnv : nv ≤ 4) (hz : ∀ j, z j ≤ 8) (hg : ∀ j, g j ≤ 126) : Met l yX0_hasLine wsX0_hasLine ({ frames := 0, cells := 0, slots := 0, locals := 0 }) (mPc [.ref o, .int x] D cI cZ [(o, .inr (0, [.ref a1, .ref a2, .int (nI nl), .int (nI nv)])), (a1, aN cI 640 g), (a2, aN cI 80 z)]) (QcRead (bI (ixB x nl))) 0 0 (fun _ => False) := by
  refine Met.ofW (cc := cX0_hasLine) (maxL := 2) (ret := (some .boolean)) (by decide) rfl ?_
  intro p e s m args below meth c s₁ BB hml hv
  obtain ⟨hargs, hP, hD0, hK⟩ := hv
  have hx := BB.exec
  have hb := BB.bytes
  have hr := BB.returns
  have hts := atoms_spec (ws := wsX0_hasLine) BB.pre
  have hown : s.vm.findClass RX0 = some m.cls := findClass_of_methodNamed BB.named
  have hlocks := BB.notSynchronized
  have hcf : CallFix p m c cX0_hasLine 2 s args wsX0_hasLine RX0 := ⟨hx, hb, hml, hown, hts⟩
  have hD := hD0
  rw [hargs, lg_entry_eq, ← hargs]
  have hl := lv_entry ([.ref o, .int x]) (n := 2) (Nat.le_of_ble_eq_true rfl)
  generalize (lg_sl ([.ref o, .int x]) ++ List.replicate (2 - (lg_sl ([.ref o, .int x])).length) Slot.unset).toArray = ls at hl ⊢
  have hl : lv_has ls 2 [(0, .ref o), (1, .int x)] := hl
  obtain ⟨Q, hQ⟩ : ∃ Q, Q = MQ below (QcRead (bI (ixB x nl))) args s 0 0 (fun _ => False) := ⟨_, rfl⟩
  rw [← hQ]
  have i_X0 : ∀ w ∈ u_ws RX0 TX0 4, w ∈ wsX0_hasLine := by decide +kernel
  have f_18 := hts (.fieldLink RX0 18 "SameAgain$Code" "lineCount" "I") (by decide +kernel)
  refine lv_iload_n hx hb dX0_hasLine_0 rfl (lv_at hl 1 rfl) ?_
  refine lv_if_lt (tgt := 16) hx hb dX0_hasLine_1 (by decide) (fun c_1 => ?_) (fun c_1 => ?_)
  · refine lv_iconst (v := nI 0) hx hb dX0_hasLine_16 (by decide) ?_
    rw [hQ]
    have h9 := nI_toInt (show nl < 2 ^ 31 by omega)
    exact m_zrd hx hb hr hlocks (b_zero (by simp only [fa_lt, fa_le, tI0] at *; omega)) dX0_hasLine_17
  · refine lv_iload_n hx hb dX0_hasLine_4 rfl (lv_at hl 1 rfl) ?_
    refine lv_aload_n hx hb dX0_hasLine_5 rfl (lv_at hl 0 rfl) ?_
    refine va_get (D := D) (ci := 0) (v := .int (nI nl)) (C := RX0) (T := TX0) (N := 4) hx hb hts i_X0 hown hK.1 hP 0 rfl rfl 2 (by decide) f_18 (fun _ h9 => h9) rfl dX0_hasLine_6 ?_
    refine lv_icmp_ge (tgt := 16) hx hb dX0_hasLine_9 (by decide) (fun c_9 => ?_) (fun c_9 => ?_)
    · refine lv_iconst (v := nI 0) hx hb dX0_hasLine_16 (by decide) ?_
      rw [hQ]
      have h9 := nI_toInt (show nl < 2 ^ 31 by omega)
      exact m_zrd hx hb hr hlocks (b_zero (by simp only [fa_lt, fa_le, tI0] at *; omega)) dX0_hasLine_17
    · refine lv_iconst (v := nI 1) hx hb dX0_hasLine_12 (by decide) ?_
      refine lv_goto (tgt := 17) hx hb dX0_hasLine_13 (by decide) ?_
      rw [hQ]
      have h9 := nI_toInt (show nl < 2 ^ 31 by omega)
      exact m_zrd hx hb hr hlocks (b_one (by simp only [fa_lt, fa_le, tI0] at *; omega)) dX0_hasLine_17

theorem yd_X0_sizeOf : yX0_sizeOf.cls = RX0 ∧ yX0_sizeOf.cls ≠ "java/lang/invoke/MethodHandle" ∧ yX0_sizeOf.cls ≠ "java/lang/invoke/VarHandle" ∧ (parseMethodDescriptor yX0_sizeOf.desc).map (fun d => d.parameters.length) = some 2 := by decide +kernel
set_option maxHeartbeats 4000000 in
set_option maxRecDepth 100000 in
theorem k_X0_sizeOf (l : Launch) (D : va_G) (cI cZ : ClassId) (o a1 a2 nl nv : Nat) (z g : Nat → Nat) (v ln : Nat) (hnl : nl ≤ 20) (hnv : nv ≤ 4) (hz : ∀ j, z j ≤ 8) (hg : ∀ j, g j ≤ 126) (hv : v < nv) (hln : ln < nl) : Met l yX0_sizeOf wsX0_sizeOf ({ frames := 0, cells := 0, slots := 0, locals := 0 }) (mPc [.ref o, .int (nI v), .int (nI ln)] D cI cZ [(o, .inr (0, [.ref a1, .ref a2, .int (nI nl), .int (nI nv)])), (a1, aN cI 640 g), (a2, aN cI 80 z)]) (QcRead (nI (z (v * 20 + ln)))) 0 0 (fun _ => False) := by
  refine Met.ofW (cc := cX0_sizeOf) (maxL := 3) (ret := (some .int)) (by decide) rfl ?_
  intro p e s m args below meth c s₁ BB hml hv
  obtain ⟨hargs, hP, hD0, hK⟩ := hv
  have hx := BB.exec
  have hb := BB.bytes
  have hr := BB.returns
  have hts := atoms_spec (ws := wsX0_sizeOf) BB.pre
  have hown : s.vm.findClass RX0 = some m.cls := findClass_of_methodNamed BB.named
  have hlocks := BB.notSynchronized
  have hcf : CallFix p m c cX0_sizeOf 3 s args wsX0_sizeOf RX0 := ⟨hx, hb, hml, hown, hts⟩
  have hD := hD0
  rw [hargs, lg_entry_eq, ← hargs]
  have hl := lv_entry ([.ref o, .int (nI v), .int (nI ln)]) (n := 3) (Nat.le_of_ble_eq_true rfl)
  generalize (lg_sl ([.ref o, .int (nI v), .int (nI ln)]) ++ List.replicate (3 - (lg_sl ([.ref o, .int (nI v), .int (nI ln)])).length) Slot.unset).toArray = ls at hl ⊢
  have hl : lv_has ls 3 [(0, .ref o), (1, .int (nI v)), (2, .int (nI ln))] := hl
  obtain ⟨Q, hQ⟩ : ∃ Q, Q = MQ below (QcRead (nI (z (v * 20 + ln)))) args s 0 0 (fun _ => False) := ⟨_, rfl⟩
  rw [← hQ]
  have i_X0 : ∀ w ∈ u_ws RX0 TX0 4, w ∈ wsX0_sizeOf := by decide +kernel
  have f_22 := hts (.fieldLink RX0 22 "SameAgain$Code" "versionCount" "I") (by decide +kernel)
  have f_18 := hts (.fieldLink RX0 18 "SameAgain$Code" "lineCount" "I") (by decide +kernel)
  have f_15 := hts (.fieldLink RX0 15 "SameAgain$Code" "sizes" "[I") (by decide +kernel)
  refine lv_iload_n hx hb dX0_sizeOf_0 rfl (lv_at hl 1 rfl) ?_
  refine m_if_lt (tgt := 24) hx hb dX0_sizeOf_1 (by decide) (by omega) ?_
  refine lv_iload_n hx hb dX0_sizeOf_4 rfl (lv_at hl 1 rfl) ?_
  refine lv_aload_n hx hb dX0_sizeOf_5 rfl (lv_at hl 0 rfl) ?_
  refine va_get (D := D) (ci := 0) (v := .int (nI nv)) (C := RX0) (T := TX0) (N := 4) hx hb hts i_X0 hown hK.1 hP 0 rfl rfl 3 (by decide) f_22 (fun _ h9 => h9) rfl dX0_sizeOf_6 ?_
  refine m_cmp_ge (tgt := 24) hx hb dX0_sizeOf_9 (by decide) (by omega) (by omega) (fun c_9 => absurd c_9 (by omega)) (fun c_9 => ?_)
  refine lv_iload_n hx hb dX0_sizeOf_12 rfl (lv_at hl 2 rfl) ?_
  refine m_if_lt (tgt := 24) hx hb dX0_sizeOf_13 (by decide) (by omega) ?_
  refine lv_iload_n hx hb dX0_sizeOf_16 rfl (lv_at hl 2 rfl) ?_
  refine lv_aload_n hx hb dX0_sizeOf_17 rfl (lv_at hl 0 rfl) ?_
  refine va_get (D := D) (ci := 0) (v := .int (nI nl)) (C := RX0) (T := TX0) (N := 4) hx hb hts i_X0 hown hK.1 hP 0 rfl rfl 2 (by decide) f_18 (fun _ h9 => h9) rfl dX0_sizeOf_18 ?_
  refine m_cmp_lt (tgt := 26) hx hb dX0_sizeOf_21 (by decide) (by omega) (by omega) (fun c_21 => ?_) (fun c_21 => absurd c_21 (by omega))
  refine lv_aload_n hx hb dX0_sizeOf_26 rfl (lv_at hl 0 rfl) ?_
  refine va_get (D := D) (ci := 0) (v := .ref a2) (C := RX0) (T := TX0) (N := 4) hx hb hts i_X0 hown hK.1 hP 0 rfl rfl 1 (by decide) f_15 (fun _ h9 => h9) rfl dX0_sizeOf_27 ?_
  refine lv_iload_n hx hb dX0_sizeOf_30 rfl (lv_at hl 1 rfl) ?_
  refine lv_bipush (v := nI 20) hx hb dX0_sizeOf_31 (by decide) ?_
  refine m_mul hx hb dX0_sizeOf_33 ?_
  refine lv_iload_n hx hb dX0_sizeOf_34 rfl (lv_at hl 2 rfl) ?_
  refine m_add hx hb dX0_sizeOf_35 ?_
  refine m_ald hx hb hK hP 2 rfl (by decide) (by omega) dX0_sizeOf_36 ?_
  have hv_36 := hz ((v * 20) + ln)
  rw [hQ]
  exact m_ird hx hb hr hlocks rfl dX0_sizeOf_37

theorem yd_X0_signAt : yX0_signAt.cls = RX0 ∧ yX0_signAt.cls ≠ "java/lang/invoke/MethodHandle" ∧ yX0_signAt.cls ≠ "java/lang/invoke/VarHandle" ∧ (parseMethodDescriptor yX0_signAt.desc).map (fun d => d.parameters.length) = some 3 := by decide +kernel
set_option maxHeartbeats 4000000 in
set_option maxRecDepth 100000 in
theorem k_X0_signAt (l : Launch) (D : va_G) (cI cZ : ClassId) (o a1 a2 nl nv : Nat) (z g : Nat → Nat) (v ln k : Nat) (hnl : nl ≤ 20) (hnv : nv ≤ 4) (hz : ∀ j, z j ≤ 8) (hg : ∀ j, g j ≤ 126) (hv : v < nv) (hln : ln < nl) (hk : k < 2 ^ 31) : Met l yX0_signAt wsX0_signAt ({ frames := 0, cells := 0, slots := 0, locals := 0 }) (mPc [.ref o, .int (nI v), .int (nI ln), .int (nI k)] D cI cZ [(o, .inr (0, [.ref a1, .ref a2, .int (nI nl), .int (nI nv)])), (a1, aN cI 640 g), (a2, aN cI 80 z)]) (QcRead (nI (sgN z g (v * 20 + ln) k))) 0 0 (fun _ => False) := by
  refine Met.ofW (cc := cX0_signAt) (maxL := 5) (ret := (some .int)) (by decide) rfl ?_
  intro p e s m args below meth c s₁ BB hml hv
  obtain ⟨hargs, hP, hD0, hK⟩ := hv
  have hx := BB.exec
  have hb := BB.bytes
  have hr := BB.returns
  have hts := atoms_spec (ws := wsX0_signAt) BB.pre
  have hown : s.vm.findClass RX0 = some m.cls := findClass_of_methodNamed BB.named
  have hlocks := BB.notSynchronized
  have hcf : CallFix p m c cX0_signAt 5 s args wsX0_signAt RX0 := ⟨hx, hb, hml, hown, hts⟩
  have hD := hD0
  rw [hargs, lg_entry_eq, ← hargs]
  have hl := lv_entry ([.ref o, .int (nI v), .int (nI ln), .int (nI k)]) (n := 5) (Nat.le_of_ble_eq_true rfl)
  generalize (lg_sl ([.ref o, .int (nI v), .int (nI ln), .int (nI k)]) ++ List.replicate (5 - (lg_sl ([.ref o, .int (nI v), .int (nI ln), .int (nI k)])).length) Slot.unset).toArray = ls at hl ⊢
  have hl : lv_has ls 5 [(0, .ref o), (1, .int (nI v)), (2, .int (nI ln)), (3, .int (nI k))] := hl
  obtain ⟨Q, hQ⟩ : ∃ Q, Q = MQ below (QcRead (nI (sgN z g (v * 20 + ln) k))) args s 0 0 (fun _ => False) := ⟨_, rfl⟩
  rw [← hQ]
  have i_X0 : ∀ w ∈ u_ws RX0 TX0 4, w ∈ wsX0_signAt := by decide +kernel
  have f_22 := hts (.fieldLink RX0 22 "SameAgain$Code" "versionCount" "I") (by decide +kernel)
  have f_18 := hts (.fieldLink RX0 18 "SameAgain$Code" "lineCount" "I") (by decide +kernel)
  have f_15 := hts (.fieldLink RX0 15 "SameAgain$Code" "sizes" "[I") (by decide +kernel)
  have f_9 := hts (.fieldLink RX0 9 "SameAgain$Code" "signs" "[I") (by decide +kernel)
  refine lv_iload_n hx hb dX0_signAt_0 rfl (lv_at hl 1 rfl) ?_
  refine m_if_lt (tgt := 24) hx hb dX0_signAt_1 (by decide) (by omega) ?_
  refine lv_iload_n hx hb dX0_signAt_4 rfl (lv_at hl 1 rfl) ?_
  refine lv_aload_n hx hb dX0_signAt_5 rfl (lv_at hl 0 rfl) ?_
  refine va_get (D := D) (ci := 0) (v := .int (nI nv)) (C := RX0) (T := TX0) (N := 4) hx hb hts i_X0 hown hK.1 hP 0 rfl rfl 3 (by decide) f_22 (fun _ h9 => h9) rfl dX0_signAt_6 ?_
  refine m_cmp_ge (tgt := 24) hx hb dX0_signAt_9 (by decide) (by omega) (by omega) (fun c_9 => absurd c_9 (by omega)) (fun c_9 => ?_)
  refine lv_iload_n hx hb dX0_signAt_12 rfl (lv_at hl 2 rfl) ?_
  refine m_if_lt (tgt := 24) hx hb dX0_signAt_13 (by decide) (by omega) ?_
  refine lv_iload_n hx hb dX0_signAt_16 rfl (lv_at hl 2 rfl) ?_
  refine lv_aload_n hx hb dX0_signAt_17 rfl (lv_at hl 0 rfl) ?_
  refine va_get (D := D) (ci := 0) (v := .int (nI nl)) (C := RX0) (T := TX0) (N := 4) hx hb hts i_X0 hown hK.1 hP 0 rfl rfl 2 (by decide) f_18 (fun _ h9 => h9) rfl dX0_signAt_18 ?_
  refine m_cmp_lt (tgt := 26) hx hb dX0_signAt_21 (by decide) (by omega) (by omega) (fun c_21 => ?_) (fun c_21 => absurd c_21 (by omega))
  refine lv_iload_n hx hb dX0_signAt_26 rfl (lv_at hl 1 rfl) ?_
  refine lv_bipush (v := nI 20) hx hb dX0_signAt_27 (by decide) ?_
  refine m_mul hx hb dX0_signAt_29 ?_
  refine lv_iload_n hx hb dX0_signAt_30 rfl (lv_at hl 2 rfl) ?_
  refine m_add hx hb dX0_signAt_31 ?_
  refine lv_istore (lv' := [(4, .int (nI ((v * 20) + ln))), (0, .ref o), (1, .int (nI v)), (2, .int (nI ln)), (3, .int (nI k))]) hx hb dX0_signAt_32 hl (by decide) rfl (fun ls hl => ?_)
  refine lv_iload_n hx hb dX0_signAt_34 rfl (lv_at hl 4 rfl) ?_
  refine m_if_lt (tgt := 64) hx hb dX0_signAt_35 (by decide) (by omega) ?_
  refine lv_iload_n hx hb dX0_signAt_38 rfl (lv_at hl 4 rfl) ?_
  refine lv_aload_n hx hb dX0_signAt_39 rfl (lv_at hl 1 rfl) ?_
  refine va_get (D := D) (ci := 0) (v := .ref a2) (C := RX0) (T := TX0) (N := 4) hx hb hts i_X0 hown hK.1 hP 0 rfl rfl 1 (by decide) f_15 (fun _ h9 => h9) rfl dX0_signAt_40 ?_
  refine lv_iload hx hb dX0_signAt_43 (lv_at hl 0 rfl) ?_
  refine m_ald hx hb hK hP 2 rfl (by decide) (by omega) dX0_signAt_45 ?_
  have hv_45 := hz ((v * 20) + ln)
  refine m_cmp_ge (tgt := 64) hx hb dX0_signAt_46 (by decide) (by omega) (by omega) (fun c_46 => ?_) (fun c_46 => ?_)
  · refine lv_iconst (v := nI 0) hx hb dX0_signAt_64 (by decide) ?_
    rw [hQ]
    exact m_ird hx hb hr hlocks (by unfold sgN; rw [if_neg (by omega)]) dX0_signAt_65
  · refine lv_aload_n hx hb dX0_signAt_49 rfl (lv_at hl 1 rfl) ?_
    refine va_get (D := D) (ci := 0) (v := .ref a1) (C := RX0) (T := TX0) (N := 4) hx hb hts i_X0 hown hK.1 hP 0 rfl rfl 0 (by decide) f_9 (fun _ h9 => h9) rfl dX0_signAt_50 ?_
    refine lv_iload hx hb dX0_signAt_53 (lv_at hl 0 rfl) ?_
    refine lv_bipush (v := nI 8) hx hb dX0_signAt_55 (by decide) ?_
    refine m_mul hx hb dX0_signAt_57 ?_
    refine lv_iload_n hx hb dX0_signAt_58 rfl (lv_at hl 4 rfl) ?_
    refine m_add hx hb dX0_signAt_59 ?_
    refine m_ald hx hb hK hP 1 rfl (by decide) (by omega) dX0_signAt_60 ?_
    have hv_60 := hg ((((v * 20) + ln) * 8) + k)
    refine lv_goto (tgt := 65) hx hb dX0_signAt_61 (by decide) ?_
    rw [hQ]
    exact m_ird hx hb hr hlocks (by unfold sgN; rw [if_pos (by omega)]) dX0_signAt_65
