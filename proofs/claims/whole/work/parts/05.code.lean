theorem yd_X0_lines : yX0_lines.cls = RX0 ∧ yX0_lines.cls ≠ "java/lang/invoke/MethodHandle" ∧ yX0_lines.cls ≠ "java/lang/invoke/VarHandle" ∧ (parseMethodDescriptor yX0_lines.desc).map (fun d => d.parameters.length) = some 0 := by decide +kernel
set_option maxHeartbeats 4000000 in
set_option maxRecDepth 100000 in
theorem k_X0_lines (l : Launch) (D : va_G) (cI cZ : ClassId) (o a1 a2 nl nv : Nat) (z g : Nat → Nat)  : Met l yX0_lines wsX0_lines ({ frames := 0, cells := 0, slots := 0, locals := 0 }) (mPc [.ref o] D cI cZ [(o, .inr (0, [.ref a1, .ref a2, .int (nI nl), .int (nI nv)])), (a1, aN cI 640 g), (a2, aN cI 80 z)]) (QcRead (nI nl)) 0 0 (fun _ => False) := by
  refine Met.ofW (cc := cX0_lines) (maxL := 1) (ret := (some .int)) (by decide) rfl ?_
  intro p e s m args below meth c s₁ BB hml hv
  obtain ⟨hargs, hP, hD0, hK⟩ := hv
  have hx := BB.exec
  have hb := BB.bytes
  have hr := BB.returns
  have hts := atoms_spec (ws := wsX0_lines) BB.pre
  have hown : s.vm.findClass RX0 = some m.cls := findClass_of_methodNamed BB.named
  have hlocks := BB.notSynchronized
  have hcf : CallFix p m c cX0_lines 1 s args wsX0_lines RX0 := ⟨hx, hb, hml, hown, hts⟩
  have hD := hD0
  rw [hargs, lg_entry_eq, ← hargs]
  have hl := lv_entry ([.ref o]) (n := 1) (Nat.le_of_ble_eq_true rfl)
  generalize (lg_sl ([.ref o]) ++ List.replicate (1 - (lg_sl ([.ref o])).length) Slot.unset).toArray = ls at hl ⊢
  have hl : lv_has ls 1 [(0, .ref o)] := hl
  obtain ⟨Q, hQ⟩ : ∃ Q, Q = MQ below (QcRead (nI nl)) args s 0 0 (fun _ => False) := ⟨_, rfl⟩
  rw [← hQ]
  have i_X0 : ∀ w ∈ u_ws RX0 TX0 4, w ∈ wsX0_lines := by decide +kernel
  have f_18 := hts (.fieldLink RX0 18 "SameAgain$Code" "lineCount" "I") (by decide +kernel)
  refine lv_aload_n hx hb dX0_lines_0 rfl (lv_at hl 0 rfl) ?_
  refine va_get (D := D) (ci := 0) (v := .int (nI nl)) (C := RX0) (T := TX0) (N := 4) hx hb hts i_X0 hown hK.1 hP 0 rfl rfl 2 (by decide) f_18 (fun _ h9 => h9) rfl dX0_lines_1 ?_
  rw [hQ]
  exact m_ird hx hb hr hlocks rfl dX0_lines_4

theorem yd_X0_versions : yX0_versions.cls = RX0 ∧ yX0_versions.cls ≠ "java/lang/invoke/MethodHandle" ∧ yX0_versions.cls ≠ "java/lang/invoke/VarHandle" ∧ (parseMethodDescriptor yX0_versions.desc).map (fun d => d.parameters.length) = some 0 := by decide +kernel
set_option maxHeartbeats 4000000 in
set_option maxRecDepth 100000 in
theorem k_X0_versions (l : Launch) (D : va_G) (cI cZ : ClassId) (o a1 a2 nl nv : Nat) (z g : Nat → Nat)  : Met l yX0_versions wsX0_versions ({ frames := 0, cells := 0, slots := 0, locals := 0 }) (mPc [.ref o] D cI cZ [(o, .inr (0, [.ref a1, .ref a2, .int (nI nl), .int (nI nv)])), (a1, aN cI 640 g), (a2, aN cI 80 z)]) (QcRead (nI nv)) 0 0 (fun _ => False) := by
  refine Met.ofW (cc := cX0_versions) (maxL := 1) (ret := (some .int)) (by decide) rfl ?_
  intro p e s m args below meth c s₁ BB hml hv
  obtain ⟨hargs, hP, hD0, hK⟩ := hv
  have hx := BB.exec
  have hb := BB.bytes
  have hr := BB.returns
  have hts := atoms_spec (ws := wsX0_versions) BB.pre
  have hown : s.vm.findClass RX0 = some m.cls := findClass_of_methodNamed BB.named
  have hlocks := BB.notSynchronized
  have hcf : CallFix p m c cX0_versions 1 s args wsX0_versions RX0 := ⟨hx, hb, hml, hown, hts⟩
  have hD := hD0
  rw [hargs, lg_entry_eq, ← hargs]
  have hl := lv_entry ([.ref o]) (n := 1) (Nat.le_of_ble_eq_true rfl)
  generalize (lg_sl ([.ref o]) ++ List.replicate (1 - (lg_sl ([.ref o])).length) Slot.unset).toArray = ls at hl ⊢
  have hl : lv_has ls 1 [(0, .ref o)] := hl
  obtain ⟨Q, hQ⟩ : ∃ Q, Q = MQ below (QcRead (nI nv)) args s 0 0 (fun _ => False) := ⟨_, rfl⟩
  rw [← hQ]
  have i_X0 : ∀ w ∈ u_ws RX0 TX0 4, w ∈ wsX0_versions := by decide +kernel
  have f_22 := hts (.fieldLink RX0 22 "SameAgain$Code" "versionCount" "I") (by decide +kernel)
  refine lv_aload_n hx hb dX0_versions_0 rfl (lv_at hl 0 rfl) ?_
  refine va_get (D := D) (ci := 0) (v := .int (nI nv)) (C := RX0) (T := TX0) (N := 4) hx hb hts i_X0 hown hK.1 hP 0 rfl rfl 3 (by decide) f_22 (fun _ h9 => h9) rfl dX0_versions_1 ?_
  rw [hQ]
  exact m_ird hx hb hr hlocks rfl dX0_versions_4

theorem yd_X0_hasVersion : yX0_hasVersion.cls = RX0 ∧ yX0_hasVersion.cls ≠ "java/lang/invoke/MethodHandle" ∧ yX0_hasVersion.cls ≠ "java/lang/invoke/VarHandle" ∧ (parseMethodDescriptor yX0_hasVersion.desc).map (fun d => d.parameters.length) = some 1 := by decide +kernel
set_option maxHeartbeats 4000000 in
set_option maxRecDepth 100000 in
theorem k_X0_hasVersion (l : Launch) (D : va_G) (cI cZ : ClassId) (o a1 a2 nl nv : Nat) (z g : Nat → Nat) (x : Int32) (hnl : nl ≤ 20) (hnv : nv ≤ 4) : Met l yX0_hasVersion wsX0_hasVersion ({ frames := 0, cells := 0, slots := 0, locals := 0 }) (mPc [.ref o, .int x] D cI cZ [(o, .inr (0, [.ref a1, .ref a2, .int (nI nl), .int (nI nv)])), (a1, aN cI 640 g), (a2, aN cI 80 z)]) (QcRead (bI (ixB x nv))) 0 0 (fun _ => False) := by
  refine Met.ofW (cc := cX0_hasVersion) (maxL := 2) (ret := (some .boolean)) (by decide) rfl ?_
  intro p e s m args below meth c s₁ BB hml hv
  obtain ⟨hargs, hP, hD0, hK⟩ := hv
  have hx := BB.exec
  have hb := BB.bytes
  have hr := BB.returns
  have hts := atoms_spec (ws := wsX0_hasVersion) BB.pre
  have hown : s.vm.findClass RX0 = some m.cls := findClass_of_methodNamed BB.named
  have hlocks := BB.notSynchronized
  have hcf : CallFix p m c cX0_hasVersion 2 s args wsX0_hasVersion RX0 := ⟨hx, hb, hml, hown, hts⟩
  have hD := hD0
  rw [hargs, lg_entry_eq, ← hargs]
  have hl := lv_entry ([.ref o, .int x]) (n := 2) (Nat.le_of_ble_eq_true rfl)
  generalize (lg_sl ([.ref o, .int x]) ++ List.replicate (2 - (lg_sl ([.ref o, .int x])).length) Slot.unset).toArray = ls at hl ⊢
  have hl : lv_has ls 2 [(0, .ref o), (1, .int x)] := hl
  obtain ⟨Q, hQ⟩ : ∃ Q, Q = MQ below (QcRead (bI (ixB x nv))) args s 0 0 (fun _ => False) := ⟨_, rfl⟩
  rw [← hQ]
  have i_X0 : ∀ w ∈ u_ws RX0 TX0 4, w ∈ wsX0_hasVersion := by decide +kernel
  have f_22 := hts (.fieldLink RX0 22 "SameAgain$Code" "versionCount" "I") (by decide +kernel)
  refine lv_iload_n hx hb dX0_hasVersion_0 rfl (lv_at hl 1 rfl) ?_
  refine lv_if_lt (tgt := 16) hx hb dX0_hasVersion_1 (by decide) (fun c_1 => ?_) (fun c_1 => ?_)
  · refine lv_iconst (v := nI 0) hx hb dX0_hasVersion_16 (by decide) ?_
    rw [hQ]
    have h9 := nI_toInt (show nv < 2 ^ 31 by omega)
    exact m_zrd hx hb hr hlocks (b_zero (by simp only [fa_lt, fa_le, tI0] at *; omega)) dX0_hasVersion_17
  · refine lv_iload_n hx hb dX0_hasVersion_4 rfl (lv_at hl 1 rfl) ?_
    refine lv_aload_n hx hb dX0_hasVersion_5 rfl (lv_at hl 0 rfl) ?_
    refine va_get (D := D) (ci := 0) (v := .int (nI nv)) (C := RX0) (T := TX0) (N := 4) hx hb hts i_X0 hown hK.1 hP 0 rfl rfl 3 (by decide) f_22 (fun _ h9 => h9) rfl dX0_hasVersion_6 ?_
    refine lv_icmp_ge (tgt := 16) hx hb dX0_hasVersion_9 (by decide) (fun c_9 => ?_) (fun c_9 => ?_)
    · refine lv_iconst (v := nI 0) hx hb dX0_hasVersion_16 (by decide) ?_
      rw [hQ]
      have h9 := nI_toInt (show nv < 2 ^ 31 by omega)
      exact m_zrd hx hb hr hlocks (b_zero (by simp only [fa_lt, fa_le, tI0] at *; omega)) dX0_hasVersion_17
    · refine lv_iconst (v := nI 1) hx hb dX0_hasVersion_12 (by decide) ?_
      refine lv_goto (tgt := 17) hx hb dX0_hasVersion_13 (by decide) ?_
      rw [hQ]
      have h9 := nI_toInt (show nv < 2 ^ 31 by omega)
      exact m_zrd hx hb hr hlocks (b_one (by simp only [fa_lt, fa_le, tI0] at *; omega)) dX0_hasVersion_17

theorem yd_X0_hasLine : yX0_hasLine.cls = RX0 ∧ yX0_hasLine.cls ≠ "java/lang/invoke/MethodHandle" ∧ yX0_hasLine.cls ≠ "java/lang/invoke/VarHandle" ∧ (parseMethodDescriptor yX0_hasLine.desc).map (fun d => d.parameters.length) = some 1 := by decide +kernel
set_option maxHeartbeats 4000000 in
set_option maxRecDepth 100000 in
theorem k_X0_hasLine (l : Launch) (D : va_G) (cI cZ : ClassId) (o a1 a2 nl nv : Nat) (z g : Nat → Nat) (x : Int32) (hnl : nl ≤ 20) (hnv : nv ≤ 4) : Met l yX0_hasLine wsX0_hasLine ({ frames := 0, cells := 0, slots := 0, locals := 0 }) (mPc [.ref o, .int x] D cI cZ [(o, .inr (0, [.ref a1, .ref a2, .int (nI nl), .int (nI nv)])), (a1, aN cI 640 g), (a2, aN cI 80 z)]) (QcRead (bI (ixB x nl))) 0 0 (fun _ => False) := by
  refine Met.ofW (cc := cX0_hasLine) (maxL := 2) (ret := (some .boolean)) (by decide) rfl ?_
  intro p e s m args below meth c s₁ BB hml hv
  obtain ⟨hargs, hP, hD0, hK⟩ := hv
  have hx := BB.exec
  have hb := BB.bytes
  have hr := BB.returns
  have hts := atoms_spec (ws := wsX0_hasLine) BB.pre
  have hown : s.vm.findClass RX0 = some m.cls := findClass_of_methodNamed BB.named
  have hlocks := BB.notSynchronized
  have hcf : CallFix p m c cX0_hasLine 2 s args wsX0_hasLine RX0 := ⟨hx, hb, hml, hown, hts⟩
  have hD := hD0
  rw [hargs, lg_entry_eq, ← hargs]
  have hl := lv_entry ([.ref o, .int x]) (n := 2) (Nat.le_of_ble_eq_true rfl)
  generalize (lg_sl ([.ref o, .int x]) ++ List.replicate (2 - (lg_sl ([.ref o, .int x])).length) Slot.unset).toArray = ls at hl ⊢
  have hl : lv_has ls 2 [(0, .ref o), (1, .int x)] := hl
  obtain ⟨Q, hQ⟩ : ∃ Q, Q = MQ below (QcRead (bI (ixB x nl))) args s 0 0 (fun _ => False) := ⟨_, rfl⟩
  rw [← hQ]
  have i_X0 : ∀ w ∈ u_ws RX0 TX0 4, w ∈ wsX0_hasLine := by decide +kernel
  have f_18 := hts (.fieldLink RX0 18 "SameAgain$Code" "lineCount" "I") (by decide +kernel)
  refine lv_iload_n hx hb dX0_hasLine_0 rfl (lv_at hl 1 rfl) ?_
  refine lv_if_lt (tgt := 16) hx hb dX0_hasLine_1 (by decide) (fun c_1 => ?_) (fun c_1 => ?_)
  · refine lv_iconst (v := nI 0) hx hb dX0_hasLine_16 (by decide) ?_
    rw [hQ]
    have h9 := nI_toInt (show nl < 2 ^ 31 by omega)
    exact m_zrd hx hb hr hlocks (b_zero (by simp only [fa_lt, fa_le, tI0] at *; omega)) dX0_hasLine_17
  · refine lv_iload_n hx hb dX0_hasLine_4 rfl (lv_at hl 1 rfl) ?_
    refine lv_aload_n hx hb dX0_hasLine_5 rfl (lv_at hl 0 rfl) ?_
    refine va_get (D := D) (ci := 0) (v := .int (nI nl)) (C := RX0) (T := TX0) (N := 4) hx hb hts i_X0 hown hK.1 hP 0 rfl rfl 2 (by decide) f_18 (fun _ h9 => h9) rfl dX0_hasLine_6 ?_
    refine lv_icmp_ge (tgt := 16) hx hb dX0_hasLine_9 (by decide) (fun c_9 => ?_) (fun c_9 => ?_)
    · refine lv_iconst (v := nI 0) hx hb dX0_hasLine_16 (by decide) ?_
      rw [hQ]
      have h9 := nI_toInt (show nl < 2 ^ 31 by omega)
      exact m_zrd hx hb hr hlocks (b_zero (by simp only [fa_lt, fa_le, tI0] at *; omega)) dX0_hasLine_17
    · refine lv_iconst (v := nI 1) hx hb dX0_hasLine_12 (by decide) ?_
      refine lv_goto (tgt := 17) hx hb dX0_hasLine_13 (by decide) ?_
      rw [hQ]
      have h9 := nI_toInt (show nl < 2 ^ 31 by omega)
      exact m_zrd hx hb hr hlocks (b_one (by simp only [fa_lt, fa_le, tI0] at *; omega)) dX0_hasLine_17

theorem yd_X0_sizeOf : yX0_sizeOf.cls = RX0 ∧ yX0_sizeOf.cls ≠ "java/lang/invoke/MethodHandle" ∧ yX0_sizeOf.cls ≠ "java/lang/invoke/VarHandle" ∧ (parseMethodDescriptor yX0_sizeOf.desc).map (fun d => d.parameters.length) = some 2 := by decide +kernel
set_option maxHeartbeats 4000000 in
set_option maxRecDepth 100000 in
theorem k_X0_sizeOf (l : Launch) (D : va_G) (cI cZ : ClassId) (o a1 a2 nl nv : Nat) (z g : Nat → Nat) (v ln : Nat) (hnl : nl ≤ 20) (hnv : nv ≤ 4) (hv : v < nv) (hln : ln < nl) : Met l yX0_sizeOf wsX0_sizeOf ({ frames := 0, cells := 0, slots := 0, locals := 0 }) (mPc [.ref o, .int (nI v), .int (nI ln)] D cI cZ [(o, .inr (0, [.ref a1, .ref a2, .int (nI nl), .int (nI nv)])), (a1, aN cI 640 g), (a2, aN cI 80 z)]) (QcRead (nI (z (v * 20 + ln)))) 0 0 (fun _ => False) := by
  refine Met.ofW (cc := cX0_sizeOf) (maxL := 3) (ret := (some .int)) (by decide) rfl ?_
  intro p e s m args below meth c s₁ BB hml hv
  obtain ⟨hargs, hP, hD0, hK⟩ := hv
  have hx := BB.exec
  have hb := BB.bytes
  have hr := BB.returns
  have hts := atoms_spec (ws := wsX0_sizeOf) BB.pre
  have hown : s.vm.findClass RX0 = some m.cls := findClass_of_methodNamed BB.named
  have hlocks := BB.notSynchronized
  have hcf : CallFix p m c cX0_sizeOf 3 s args wsX0_sizeOf RX0 := ⟨hx, hb, hml, hown, hts⟩
  have hD := hD0
  rw [hargs, lg_entry_eq, ← hargs]
  have hl := lv_entry ([.ref o, .int (nI v), .int (nI ln)]) (n := 3) (Nat.le_of_ble_eq_true rfl)
  generalize (lg_sl ([.ref o, .int (nI v), .int (nI ln)]) ++ List.replicate (3 - (lg_sl ([.ref o, .int (nI v), .int (nI ln)])).length) Slot.unset).toArray = ls at hl ⊢
  have hl : lv_has ls 3 [(0, .ref o), (1, .int (nI v)), (2, .int (nI ln))] := hl
  obtain ⟨Q, hQ⟩ : ∃ Q, Q = MQ below (QcRead (nI (z (v * 20 + ln)))) args s 0 0 (fun _ => False) := ⟨_, rfl⟩
  rw [← hQ]
  have i_X0 : ∀ w ∈ u_ws RX0 TX0 4, w ∈ wsX0_sizeOf := by decide +kernel
  have f_22 := hts (.fieldLink RX0 22 "SameAgain$Code" "versionCount" "I") (by decide +kernel)
  have f_18 := hts (.fieldLink RX0 18 "SameAgain$Code" "lineCount" "I") (by decide +kernel)
  have f_15 := hts (.fieldLink RX0 15 "SameAgain$Code" "sizes" "[I") (by decide +kernel)
  refine lv_iload_n hx hb dX0_sizeOf_0 rfl (lv_at hl 1 rfl) ?_
  refine m_if_lt (tgt := 24) hx hb dX0_sizeOf_1 (by decide) (by omega) ?_
  refine lv_iload_n hx hb dX0_sizeOf_4 rfl (lv_at hl 1 rfl) ?_
  refine lv_aload_n hx hb dX0_sizeOf_5 rfl (lv_at hl 0 rfl) ?_
  refine va_get (D := D) (ci := 0) (v := .int (nI nv)) (C := RX0) (T := TX0) (N := 4) hx hb hts i_X0 hown hK.1 hP 0 rfl rfl 3 (by decide) f_22 (fun _ h9 => h9) rfl dX0_sizeOf_6 ?_
  refine m_cmp_ge (tgt := 24) hx hb dX0_sizeOf_9 (by decide) (by omega) (by omega) (fun c_9 => absurd c_9 (by omega)) (fun c_9 => ?_)
  refine lv_iload_n hx hb dX0_sizeOf_12 rfl (lv_at hl 2 rfl) ?_
  refine m_if_lt (tgt := 24) hx hb dX0_sizeOf_13 (by decide) (by omega) ?_
  refine lv_iload_n hx hb dX0_sizeOf_16 rfl (lv_at hl 2 rfl) ?_
  refine lv_aload_n hx hb dX0_sizeOf_17 rfl (lv_at hl 0 rfl) ?_
  refine va_get (D := D) (ci := 0) (v := .int (nI nl)) (C := RX0) (T := TX0) (N := 4) hx hb hts i_X0 hown hK.1 hP 0 rfl rfl 2 (by decide) f_18 (fun _ h9 => h9) rfl dX0_sizeOf_18 ?_
  refine m_cmp_lt (tgt := 26) hx hb dX0_sizeOf_21 (by decide) (by omega) (by omega) (fun c_21 => ?_) (fun c_21 => absurd c_21 (by omega))
  refine lv_aload_n hx hb dX0_sizeOf_26 rfl (lv_at hl 0 rfl) ?_
  refine va_get (D := D) (ci := 0) (v := .ref a2) (C := RX0) (T := TX0) (N := 4) hx hb hts i_X0 hown hK.1 hP 0 rfl rfl 1 (by decide) f_15 (fun _ h9 => h9) rfl dX0_sizeOf_27 ?_
  refine lv_iload_n hx hb dX0_sizeOf_30 rfl (lv_at hl 1 rfl) ?_
  refine lv_bipush (v := nI 20) hx hb dX0_sizeOf_31 (by decide) ?_
  refine m_mul hx hb dX0_sizeOf_33 ?_
  refine lv_iload_n hx hb dX0_sizeOf_34 rfl (lv_at hl 2 rfl) ?_
  refine m_add hx hb dX0_sizeOf_35 ?_
  refine m_ald hx hb hK hP 2 rfl (by decide) (by omega) dX0_sizeOf_36 ?_
  rw [hQ]
  exact m_ird hx hb hr hlocks rfl dX0_sizeOf_37

theorem yd_X0_signAt : yX0_signAt.cls = RX0 ∧ yX0_signAt.cls ≠ "java/lang/invoke/MethodHandle" ∧ yX0_signAt.cls ≠ "java/lang/invoke/VarHandle" ∧ (parseMethodDescriptor yX0_signAt.desc).map (fun d => d.parameters.length) = some 3 := by decide +kernel
set_option maxHeartbeats 4000000 in
set_option maxRecDepth 100000 in
theorem k_X0_signAt (l : Launch) (D : va_G) (cI cZ : ClassId) (o a1 a2 nl nv : Nat) (z g : Nat → Nat) (v ln k : Nat) (hnl : nl ≤ 20) (hnv : nv ≤ 4) (hz : ∀ j, z j ≤ 8) (hg : ∀ j, g j ≤ 126) (hv : v < nv) (hln : ln < nl) (hk : k < 2 ^ 31) : Met l yX0_signAt wsX0_signAt ({ frames := 0, cells := 0, slots := 0, locals := 0 }) (mPc [.ref o, .int (nI v), .int (nI ln), .int (nI k)] D cI cZ [(o, .inr (0, [.ref a1, .ref a2, .int (nI nl), .int (nI nv)])), (a1, aN cI 640 g), (a2, aN cI 80 z)]) (QcRead (nI (sgN z g (v * 20 + ln) k))) 0 0 (fun _ => False) := by
  refine Met.ofW (cc := cX0_signAt) (maxL := 5) (ret := (some .int)) (by decide) rfl ?_
  intro p e s m args below meth c s₁ BB hml hv
  obtain ⟨hargs, hP, hD0, hK⟩ := hv
  have hx := BB.exec
  have hb := BB.bytes
  have hr := BB.returns
  have hts := atoms_spec (ws := wsX0_signAt) BB.pre
  have hown : s.vm.findClass RX0 = some m.cls := findClass_of_methodNamed BB.named
  have hlocks := BB.notSynchronized
  have hcf : CallFix p m c cX0_signAt 5 s args wsX0_signAt RX0 := ⟨hx, hb, hml, hown, hts⟩
  have hD := hD0
  rw [hargs, lg_entry_eq, ← hargs]
  have hl := lv_entry ([.ref o, .int (nI v), .int (nI ln), .int (nI k)]) (n := 5) (Nat.le_of_ble_eq_true rfl)
  generalize (lg_sl ([.ref o, .int (nI v), .int (nI ln), .int (nI k)]) ++ List.replicate (5 - (lg_sl ([.ref o, .int (nI v), .int (nI ln), .int (nI k)])).length) Slot.unset).toArray = ls at hl ⊢
  have hl : lv_has ls 5 [(0, .ref o), (1, .int (nI v)), (2, .int (nI ln)), (3, .int (nI k))] := hl
  obtain ⟨Q, hQ⟩ : ∃ Q, Q = MQ below (QcRead (nI (sgN z g (v * 20 + ln) k))) args s 0 0 (fun _ => False) := ⟨_, rfl⟩
  rw [← hQ]
  have i_X0 : ∀ w ∈ u_ws RX0 TX0 4, w ∈ wsX0_signAt := by decide +kernel
  have f_22 := hts (.fieldLink RX0 22 "SameAgain$Code" "versionCount" "I") (by decide +kernel)
  have f_18 := hts (.fieldLink RX0 18 "SameAgain$Code" "lineCount" "I") (by decide +kernel)
  have f_15 := hts (.fieldLink RX0 15 "SameAgain$Code" "sizes" "[I") (by decide +kernel)
  have f_9 := hts (.fieldLink RX0 9 "SameAgain$Code" "signs" "[I") (by decide +kernel)
  refine lv_iload_n hx hb dX0_signAt_0 rfl (lv_at hl 1 rfl) ?_
  refine m_if_lt (tgt := 24) hx hb dX0_signAt_1 (by decide) (by omega) ?_
  refine lv_iload_n hx hb dX0_signAt_4 rfl (lv_at hl 1 rfl) ?_
  refine lv_aload_n hx hb dX0_signAt_5 rfl (lv_at hl 0 rfl) ?_
  refine va_get (D := D) (ci := 0) (v := .int (nI nv)) (C := RX0) (T := TX0) (N := 4) hx hb hts i_X0 hown hK.1 hP 0 rfl rfl 3 (by decide) f_22 (fun _ h9 => h9) rfl dX0_signAt_6 ?_
  refine m_cmp_ge (tgt := 24) hx hb dX0_signAt_9 (by decide) (by omega) (by omega) (fun c_9 => absurd c_9 (by omega)) (fun c_9 => ?_)
  refine lv_iload_n hx hb dX0_signAt_12 rfl (lv_at hl 2 rfl) ?_
  refine m_if_lt (tgt := 24) hx hb dX0_signAt_13 (by decide) (by omega) ?_
  refine lv_iload_n hx hb dX0_signAt_16 rfl (lv_at hl 2 rfl) ?_
  refine lv_aload_n hx hb dX0_signAt_17 rfl (lv_at hl 0 rfl) ?_
  refine va_get (D := D) (ci := 0) (v := .int (nI nl)) (C := RX0) (T := TX0) (N := 4) hx hb hts i_X0 hown hK.1 hP 0 rfl rfl 2 (by decide) f_18 (fun _ h9 => h9) rfl dX0_signAt_18 ?_
  refine m_cmp_lt (tgt := 26) hx hb dX0_signAt_21 (by decide) (by omega) (by omega) (fun c_21 => ?_) (fun c_21 => absurd c_21 (by omega))
  refine lv_iload_n hx hb dX0_signAt_26 rfl (lv_at hl 1 rfl) ?_
  refine lv_bipush (v := nI 20) hx hb dX0_signAt_27 (by decide) ?_
  refine m_mul hx hb dX0_signAt_29 ?_
  refine lv_iload_n hx hb dX0_signAt_30 rfl (lv_at hl 2 rfl) ?_
  refine m_add hx hb dX0_signAt_31 ?_
  refine lv_istore (lv' := [(4, .int (nI ((v * 20) + ln))), (0, .ref o), (1, .int (nI v)), (2, .int (nI ln)), (3, .int (nI k))]) hx hb dX0_signAt_32 hl (by decide) rfl (fun ls hl => ?_)
  refine lv_iload_n hx hb dX0_signAt_34 rfl (lv_at hl 4 rfl) ?_
  refine m_if_lt (tgt := 64) hx hb dX0_signAt_35 (by decide) (by omega) ?_
  refine lv_iload_n hx hb dX0_signAt_38 rfl (lv_at hl 4 rfl) ?_
  refine lv_aload_n hx hb dX0_signAt_39 rfl (lv_at hl 1 rfl) ?_
  refine va_get (D := D) (ci := 0) (v := .ref a2) (C := RX0) (T := TX0) (N := 4) hx hb hts i_X0 hown hK.1 hP 0 rfl rfl 1 (by decide) f_15 (fun _ h9 => h9) rfl dX0_signAt_40 ?_
  refine lv_iload hx hb dX0_signAt_43 (lv_at hl 0 rfl) ?_
  refine m_ald hx hb hK hP 2 rfl (by decide) (by omega) dX0_signAt_45 ?_
  have hv_45 := hz ((v * 20) + ln)
  refine m_cmp_ge (tgt := 64) hx hb dX0_signAt_46 (by decide) (by omega) (by omega) (fun c_46 => ?_) (fun c_46 => ?_)
  · refine lv_iconst (v := nI 0) hx hb dX0_signAt_64 (by decide) ?_
    rw [hQ]
    exact m_ird hx hb hr hlocks (by unfold sgN; rw [if_neg (by omega)]) dX0_signAt_65
  · refine lv_aload_n hx hb dX0_signAt_49 rfl (lv_at hl 1 rfl) ?_
    refine va_get (D := D) (ci := 0) (v := .ref a1) (C := RX0) (T := TX0) (N := 4) hx hb hts i_X0 hown hK.1 hP 0 rfl rfl 0 (by decide) f_9 (fun _ h9 => h9) rfl dX0_signAt_50 ?_
    refine lv_iload hx hb dX0_signAt_53 (lv_at hl 0 rfl) ?_
    refine lv_bipush (v := nI 8) hx hb dX0_signAt_55 (by decide) ?_
    refine m_mul hx hb dX0_signAt_57 ?_
    refine lv_iload_n hx hb dX0_signAt_58 rfl (lv_at hl 4 rfl) ?_
    refine m_add hx hb dX0_signAt_59 ?_
    refine m_ald hx hb hK hP 1 rfl (by decide) (by omega) dX0_signAt_60 ?_
    have hv_60 := hg ((((v * 20) + ln) * 8) + k)
    refine lv_goto (tgt := 65) hx hb dX0_signAt_61 (by decide) ?_
    rw [hQ]
    exact m_ird hx hb hr hlocks (by unfold sgN; rw [if_pos (by omega)]) dX0_signAt_65

theorem yd_X0_write : yX0_write.cls = RX0 ∧ yX0_write.cls ≠ "java/lang/invoke/MethodHandle" ∧ yX0_write.cls ≠ "java/lang/invoke/VarHandle" ∧ (parseMethodDescriptor yX0_write.desc).map (fun d => d.parameters.length) = some 4 := by decide +kernel
set_option maxHeartbeats 4000000 in
set_option maxRecDepth 100000 in
theorem k_X0_write (l : Launch) (D : va_G) (cI cZ : ClassId) (o a1 a2 nl nv pa : Nat) (z g pd : Nat → Nat) (v ln n : Nat) (hnl : nl ≤ 20) (hnv : nv ≤ 4) (hv : v < nv) (hln : ln < nl) (hn8 : n ≤ 8) : Met l yX0_write wsX0_write ({ frames := 1, cells := 0, slots := 0, locals := 48 }) (mPc [.ref o, .int (nI v), .int (nI ln), .ref pa, .int (nI n)] D cI cZ [(o, .inr (0, [.ref a1, .ref a2, .int (nI nl), .int (nI nv)])), (a1, aN cI 640 g), (a2, aN cI 80 z), (pa, aN cI 8 pd)]) (mQv D (mA [(o, .inr (0, [.ref a1, .ref a2, .int (nI nl), .int (nI nv)])), (a1, aN cI 640 g), (a2, aN cI 80 z), (pa, aN cI 8 pd)]) (fun (u : Unit) => True) (fun (u : Unit) => [(o, .inr (0, [.ref a1, .ref a2, .int (nI nl), .int (nI nv)])), (a1, aN cI 640 (cpN pd g 0 ((v * 20 + ln) * 8) n)), (a2, aN cI 80 (upN z (v * 20 + ln) n)), (pa, aN cI 8 pd)])) 0 0 (mA [(o, .inr (0, [.ref a1, .ref a2, .int (nI nl), .int (nI nv)])), (a1, aN cI 640 g), (a2, aN cI 80 z), (pa, aN cI 8 pd)]) := by
  refine Met.ofW (cc := cX0_write) (maxL := 6) (ret := none) (by decide) rfl ?_
  intro p e s m args below meth c s₁ BB hml hv
  obtain ⟨hargs, hP, hD0, hK⟩ := hv
  have hx := BB.exec
  have hb := BB.bytes
  have hr := BB.returns
  have hts := atoms_spec (ws := wsX0_write) BB.pre
  have hown : s.vm.findClass RX0 = some m.cls := findClass_of_methodNamed BB.named
  have hlocks := BB.notSynchronized
  have hcf : CallFix p m c cX0_write 6 s args wsX0_write RX0 := ⟨hx, hb, hml, hown, hts⟩
  obtain ⟨A, hAe⟩ : ∃ A, A = mA [(o, .inr (0, [.ref a1, .ref a2, .int (nI nl), .int (nI nv)])), (a1, aN cI 640 g), (a2, aN cI 80 z), (pa, aN cI 8 pd)] := ⟨_, rfl⟩
  have hD : va_D A [(o, .inr (0, [.ref a1, .ref a2, .int (nI nl), .int (nI nv)])), (a1, aN cI 640 g), (a2, aN cI 80 z), (pa, aN cI 8 pd)] := ⟨hD0.1, fun k q h => by rw [hAe]; exact ⟨k, q.2, h⟩⟩
  have hS : va_S A s.heap s.heap [] := va_S.rf
  rw [← hAe]
  rw [hargs, lg_entry_eq, ← hargs]
  have hl := lv_entry ([.ref o, .int (nI v), .int (nI ln), .ref pa, .int (nI n)]) (n := 6) (Nat.le_of_ble_eq_true rfl)
  generalize (lg_sl ([.ref o, .int (nI v), .int (nI ln), .ref pa, .int (nI n)]) ++ List.replicate (6 - (lg_sl ([.ref o, .int (nI v), .int (nI ln), .ref pa, .int (nI n)])).length) Slot.unset).toArray = ls at hl ⊢
  have hl : lv_has ls 6 [(0, .ref o), (1, .int (nI v)), (2, .int (nI ln)), (3, .ref pa), (4, .int (nI n))] := hl
  obtain ⟨Q, hQ⟩ : ∃ Q, Q = MQ below (mQv D A (fun (u : Unit) => True) (fun (u : Unit) => [(o, .inr (0, [.ref a1, .ref a2, .int (nI nl), .int (nI nv)])), (a1, aN cI 640 (cpN pd g 0 ((v * 20 + ln) * 8) n)), (a2, aN cI 80 (upN z (v * 20 + ln) n)), (pa, aN cI 8 pd)])) args s 0 0 A := ⟨_, rfl⟩
  rw [← hQ]
  have i_X0 : ∀ w ∈ u_ws RX0 TX0 4, w ∈ wsX0_write := by decide +kernel
  have f_9 := hts (.fieldLink RX0 9 "SameAgain$Code" "signs" "[I") (by decide +kernel)
  have l_32 := hts (.methodLink RX0 32 arraycopyName) (by decide +kernel)
  have l_nat := hts (.native arraycopyName) (by decide +kernel)
  have l_stat := hts (.static arraycopyName) (by decide +kernel)
  have l_sys := hts (.initialized "java/lang/System") (by decide +kernel)
  have f_15 := hts (.fieldLink RX0 15 "SameAgain$Code" "sizes" "[I") (by decide +kernel)
  refine lv_aload_n hx hb dX0_write_0 rfl (lv_at hl 0 rfl) ?_
  refine lv_iload_n hx hb dX0_write_1 rfl (lv_at hl 1 rfl) ?_
  refine m_rdV (As := [.int (nI v)]) (rest := []) (wc := [(o, .inr (0, [.ref a1, .ref a2, .int (nI nl), .int (nI nv)])), (a1, aN cI 640 g), (a2, aN cI 80 z)]) hcf (k_X0_hasVersion (l := l) (D := D) (cI := cI) (cZ := cZ) (x := nI v) (o := o) (a1 := a1) (a2 := a2) (nl := nl) (nv := nv) (g := g) (z := z) (hnl := hnl) (hnv := hnv)) (cwV 1 hts gX0_write_X0_hasVersion rfl rfl rfl yd_X0_hasVersion ⟨Nat.le_of_ble_eq_true rfl, Nat.le_of_ble_eq_true rfl⟩) (m_preV hK hP hD [0, 1, 2] (by decide) rfl rfl rfl) rfl hl.1 rfl (Nat.le_of_ble_eq_true rfl) dX0_write_2 ⟨Nat.zero_le _, Nat.zero_le _⟩ ?_
  refine m_ifB_eq (tgt := 35) hx hb dX0_write_5 (by decide) (fun c_5 => absurd c_5 (fun q => by rw [ixB_nI hv (by omega)] at q; cases q)) (fun c_5 => ?_)
  refine lv_aload_n hx hb dX0_write_8 rfl (lv_at hl 0 rfl) ?_
  refine lv_iload_n hx hb dX0_write_9 rfl (lv_at hl 2 rfl) ?_
  refine m_rdV (As := [.int (nI ln)]) (rest := []) (wc := [(o, .inr (0, [.ref a1, .ref a2, .int (nI nl), .int (nI nv)])), (a1, aN cI 640 g), (a2, aN cI 80 z)]) hcf (k_X0_hasLine (l := l) (D := D) (cI := cI) (cZ := cZ) (x := nI ln) (o := o) (a1 := a1) (a2 := a2) (nl := nl) (nv := nv) (g := g) (z := z) (hnl := hnl) (hnv := hnv)) (cwV 1 hts gX0_write_X0_hasLine rfl rfl rfl yd_X0_hasLine ⟨Nat.le_of_ble_eq_true rfl, Nat.le_of_ble_eq_true rfl⟩) (m_preV hK hP hD [0, 1, 2] (by decide) rfl rfl rfl) rfl hl.1 rfl (Nat.le_of_ble_eq_true rfl) dX0_write_10 ⟨Nat.zero_le _, Nat.zero_le _⟩ ?_
  refine m_ifB_eq (tgt := 35) hx hb dX0_write_13 (by decide) (fun c_13 => absurd c_13 (fun q => by rw [ixB_nI hln (by omega)] at q; cases q)) (fun c_13 => ?_)
  refine lv_iload hx hb dX0_write_16 (lv_at hl 4 rfl) ?_
  refine m_if_lt (tgt := 35) hx hb dX0_write_18 (by decide) (by omega) ?_
  refine lv_iload hx hb dX0_write_21 (lv_at hl 4 rfl) ?_
  refine lv_bipush (v := nI 8) hx hb dX0_write_23 (by decide) ?_
  refine m_cmp_gt (tgt := 35) hx hb dX0_write_25 (by decide) (by omega) (by omega) (fun c_25 => absurd c_25 (by omega)) (fun c_25 => ?_)
  refine lv_iload hx hb dX0_write_28 (lv_at hl 4 rfl) ?_
  refine lv_aload_n hx hb dX0_write_30 rfl (lv_at hl 3 rfl) ?_
  refine m_alen hx hb hK hP 3 rfl dX0_write_31 ?_
  refine m_cmp_le (tgt := 36) hx hb dX0_write_32 (by decide) (by omega) (by omega) (fun c_32 => ?_) (fun c_32 => absurd c_32 (by omega))
  refine lv_iload_n hx hb dX0_write_36 rfl (lv_at hl 1 rfl) ?_
  refine lv_bipush (v := nI 20) hx hb dX0_write_37 (by decide) ?_
  refine m_mul hx hb dX0_write_39 ?_
  refine lv_iload_n hx hb dX0_write_40 rfl (lv_at hl 2 rfl) ?_
  refine m_add hx hb dX0_write_41 ?_
  refine lv_istore (lv' := [(5, .int (nI ((v * 20) + ln))), (0, .ref o), (1, .int (nI v)), (2, .int (nI ln)), (3, .ref pa), (4, .int (nI n))]) hx hb dX0_write_42 hl (by decide) rfl (fun ls hl => ?_)
  refine lv_aload_n hx hb dX0_write_44 rfl (lv_at hl 4 rfl) ?_
  refine lv_iconst (v := nI 0) hx hb dX0_write_45 (by decide) ?_
  refine lv_aload_n hx hb dX0_write_46 rfl (lv_at hl 1 rfl) ?_
  refine va_get (D := D) (ci := 0) (v := .ref a1) (C := RX0) (T := TX0) (N := 4) hx hb hts i_X0 hown hK.1 hP 0 rfl rfl 0 (by decide) f_9 (fun _ h9 => h9) rfl dX0_write_47 ?_
  refine lv_iload hx hb dX0_write_50 (lv_at hl 0 rfl) ?_
  refine lv_bipush (v := nI 8) hx hb dX0_write_52 (by decide) ?_
  refine m_mul hx hb dX0_write_54 ?_
  refine lv_iload hx hb dX0_write_55 (lv_at hl 5 rfl) ?_
  refine m_copy hx hb (hml.trans hl.1.symm) hown l_32 l_nat l_stat l_sys hK hP hD hS 3 1 rfl rfl (by decide) (by decide) (by omega) (by omega) (Nat.le_of_ble_eq_true rfl) (Nat.le_of_ble_eq_true rfl) dX0_write_57 (ws' := [(o, .inr (0, [.ref a1, .ref a2, .int (nI nl), .int (nI nv)])), (a1, aN cI 640 (cpN pd g 0 (((v * 20) + ln) * 8) n)), (a2, aN cI 80 z), (pa, aN cI 8 pd)]) rfl (fun H locs hP hD hS => ?_)
  refine lv_aload_n hx hb dX0_write_60 rfl (lv_at hl 1 rfl) ?_
  refine va_get (D := D) (ci := 0) (v := .ref a2) (C := RX0) (T := TX0) (N := 4) hx hb hts i_X0 hown hK.1 hP 0 rfl rfl 1 (by decide) f_15 (fun _ h9 => h9) rfl dX0_write_61 ?_
  refine lv_iload hx hb dX0_write_64 (lv_at hl 0 rfl) ?_
  refine lv_iload hx hb dX0_write_66 (lv_at hl 5 rfl) ?_
  refine m_ast hx hb hK hP hD hS 2 rfl (by decide) (by omega) dX0_write_68 (ws' := [(o, .inr (0, [.ref a1, .ref a2, .int (nI nl), .int (nI nv)])), (a1, aN cI 640 (cpN pd g 0 (((v * 20) + ln) * 8) n)), (a2, aN cI 80 (upN z ((v * 20) + ln) n)), (pa, aN cI 8 pd)]) rfl (fun H locs hP hD hS => ?_)
  rw [hQ]
  exact m_vwr hx hb hr hlocks () (trivial) hP hS dX0_write_69

theorem yd_X0_addLine : yX0_addLine.cls = RX0 ∧ yX0_addLine.cls ≠ "java/lang/invoke/MethodHandle" ∧ yX0_addLine.cls ≠ "java/lang/invoke/VarHandle" ∧ (parseMethodDescriptor yX0_addLine.desc).map (fun d => d.parameters.length) = some 2 := by decide +kernel
set_option maxHeartbeats 4000000 in
set_option maxRecDepth 100000 in
theorem k_X0_addLine (l : Launch) (D : va_G) (cI cZ : ClassId) (o a1 a2 nl nv pa : Nat) (z g pd : Nat → Nat) (n : Nat) (hnl : nl < 20) (hnv : nv ≤ 4) (hn8 : n ≤ 8) : Met l yX0_addLine wsX0_addLine ({ frames := 2, cells := 0, slots := 0, locals := 73 }) (mPc [.ref o, .ref pa, .int (nI n)] D cI cZ [(o, .inr (0, [.ref a1, .ref a2, .int (nI nl), .int (nI nv)])), (a1, aN cI 640 g), (a2, aN cI 80 z), (pa, aN cI 8 pd)]) (mQv D (mA [(o, .inr (0, [.ref a1, .ref a2, .int (nI nl), .int (nI nv)])), (a1, aN cI 640 g), (a2, aN cI 80 z), (pa, aN cI 8 pd)]) (fun (u : Unit) => True) (fun (u : Unit) => [(o, .inr (0, [.ref a1, .ref a2, .int (nI (nl + 1)), .int (nI nv)])), (a1, aN cI 640 (wrG pd g nl n nv)), (a2, aN cI 80 (wrZ z nl n nv)), (pa, aN cI 8 pd)])) 0 0 (mA [(o, .inr (0, [.ref a1, .ref a2, .int (nI nl), .int (nI nv)])), (a1, aN cI 640 g), (a2, aN cI 80 z), (pa, aN cI 8 pd)]) := by
  refine Met.ofW (cc := cX0_addLine) (maxL := 4) (ret := none) (by decide) rfl ?_
  intro p e s m args below meth c s₁ BB hml hv
  obtain ⟨hargs, hP, hD0, hK⟩ := hv
  have hx := BB.exec
  have hb := BB.bytes
  have hr := BB.returns
  have hts := atoms_spec (ws := wsX0_addLine) BB.pre
  have hown : s.vm.findClass RX0 = some m.cls := findClass_of_methodNamed BB.named
  have hlocks := BB.notSynchronized
  have hcf : CallFix p m c cX0_addLine 4 s args wsX0_addLine RX0 := ⟨hx, hb, hml, hown, hts⟩
  obtain ⟨A, hAe⟩ : ∃ A, A = mA [(o, .inr (0, [.ref a1, .ref a2, .int (nI nl), .int (nI nv)])), (a1, aN cI 640 g), (a2, aN cI 80 z), (pa, aN cI 8 pd)] := ⟨_, rfl⟩
  have hD : va_D A [(o, .inr (0, [.ref a1, .ref a2, .int (nI nl), .int (nI nv)])), (a1, aN cI 640 g), (a2, aN cI 80 z), (pa, aN cI 8 pd)] := ⟨hD0.1, fun k q h => by rw [hAe]; exact ⟨k, q.2, h⟩⟩
  have hS : va_S A s.heap s.heap [] := va_S.rf
  rw [← hAe]
  rw [hargs, lg_entry_eq, ← hargs]
  have hl := lv_entry ([.ref o, .ref pa, .int (nI n)]) (n := 4) (Nat.le_of_ble_eq_true rfl)
  generalize (lg_sl ([.ref o, .ref pa, .int (nI n)]) ++ List.replicate (4 - (lg_sl ([.ref o, .ref pa, .int (nI n)])).length) Slot.unset).toArray = ls at hl ⊢
  have hl : lv_has ls 4 [(0, .ref o), (1, .ref pa), (2, .int (nI n))] := hl
  obtain ⟨Q, hQ⟩ : ∃ Q, Q = MQ below (mQv D A (fun (u : Unit) => True) (fun (u : Unit) => [(o, .inr (0, [.ref a1, .ref a2, .int (nI (nl + 1)), .int (nI nv)])), (a1, aN cI 640 (wrG pd g nl n nv)), (a2, aN cI 80 (wrZ z nl n nv)), (pa, aN cI 8 pd)])) args s 0 0 A := ⟨_, rfl⟩
  rw [← hQ]
  have i_X0 : ∀ w ∈ u_ws RX0 TX0 4, w ∈ wsX0_addLine := by decide +kernel
  have f_18 := hts (.fieldLink RX0 18 "SameAgain$Code" "lineCount" "I") (by decide +kernel)
  have f_22 := hts (.fieldLink RX0 22 "SameAgain$Code" "versionCount" "I") (by decide +kernel)
  refine lv_aload_n hx hb dX0_addLine_0 rfl (lv_at hl 0 rfl) ?_
  refine va_get (D := D) (ci := 0) (v := .int (nI nl)) (C := RX0) (T := TX0) (N := 4) hx hb hts i_X0 hown hK.1 hP 0 rfl rfl 2 (by decide) f_18 (fun _ h9 => h9) rfl dX0_addLine_1 ?_
  refine lv_bipush (v := nI 20) hx hb dX0_addLine_4 (by decide) ?_
  refine m_cmp_lt (tgt := 10) hx hb dX0_addLine_6 (by decide) (by omega) (by omega) (fun c_6 => ?_) (fun c_6 => absurd c_6 (by omega))
  refine lv_aload_n hx hb dX0_addLine_10 rfl (lv_at hl 0 rfl) ?_
  refine lv_dup hx hb dX0_addLine_11 rfl ?_
  refine va_get (D := D) (ci := 0) (v := .int (nI nl)) (C := RX0) (T := TX0) (N := 4) hx hb hts i_X0 hown hK.1 hP 0 rfl rfl 2 (by decide) f_18 (fun _ h9 => h9) rfl dX0_addLine_12 ?_
  refine lv_iconst (v := nI 1) hx hb dX0_addLine_15 (by decide) ?_
  refine m_add hx hb dX0_addLine_16 ?_
  refine va_put (D := D) (ci := 0) (v := .int (nI (nl + 1))) (ty := .int) (C := RX0) (T := TX0) (N := 4) hx hb hts i_X0 tyX0 tyX0_ok nmX0 hown hK.1 hP hD hS 0 rfl rfl 2 (by decide) f_18 (fun _ h9 => h9) rfl (by decide +kernel) rfl rfl (Nat.le_of_ble_eq_true rfl) dX0_addLine_17 (fun H locs hP hD hS => ?_)
  have hP : va_P D vwCl [(o, .inr (0, [.ref a1, .ref a2, .int (nI (nl + 1)), .int (nI nv)])), (a1, aN cI 640 g), (a2, aN cI 80 z), (pa, aN cI 8 pd)] H := hP
  have hD : va_D A [(o, .inr (0, [.ref a1, .ref a2, .int (nI (nl + 1)), .int (nI nv)])), (a1, aN cI 640 g), (a2, aN cI 80 z), (pa, aN cI 8 pd)] := hD
  refine lv_iconst (v := nI 0) hx hb dX0_addLine_20 (by decide) ?_
  refine lv_istore_n (lv' := [(3, .int (nI 0)), (0, .ref o), (1, .ref pa), (2, .int (nI n))]) hx hb dX0_addLine_21 rfl hl (by decide) rfl (fun ls hl => ?_)
  have loop_22 : ∀ (fu : Nat) (i : Nat) (hfu : nv - i < fu)  (hi : i ≤ nv) (H : Heap) (locs : List Loc) (hP : va_P D vwCl [(o, .inr (0, [.ref a1, .ref a2, .int (nI (nl + 1)), .int (nI nv)])), (a1, aN cI 640 (wrG pd g nl n i)), (a2, aN cI 80 (wrZ z nl n i)), (pa, aN cI 8 pd)] H) (hD : va_D A [(o, .inr (0, [.ref a1, .ref a2, .int (nI (nl + 1)), .int (nI nv)])), (a1, aN cI 640 (wrG pd g nl n i)), (a2, aN cI 80 (wrZ z nl n i)), (pa, aN cI 8 pd)]) (hS : va_S A s.heap H locs) (ls : Array Slot) (hl : lv_has ls 4 [(0, .ref o), (1, .ref pa), (2, .int (nI n)), (3, .int (nI i))]), W p l e (headSpec wsX0_addLine { frames := 2, cells := 0, slots := 0, locals := 73 }).room s m args below meth c H locs 0 0 Q (F0 m 22 ls []) := by
    intro fu
    induction fu with
    | zero => intro i hfu; exact absurd hfu (Nat.not_lt_zero _)
    | succ fu ih_22 =>
      intro i hfu hi H locs hP hD hS ls hl
      refine lv_iload_n hx hb dX0_addLine_22 rfl (lv_at hl 3 rfl) ?_
      refine lv_aload_n hx hb dX0_addLine_23 rfl (lv_at hl 0 rfl) ?_
      refine va_get (D := D) (ci := 0) (v := .int (nI nv)) (C := RX0) (T := TX0) (N := 4) hx hb hts i_X0 hown hK.1 hP 0 rfl rfl 3 (by decide) f_22 (fun _ h9 => h9) rfl dX0_addLine_24 ?_
      refine m_cmp_ge (tgt := 49) hx hb dX0_addLine_27 (by decide) (by omega) (by omega) (fun c_27 => ?_) (fun c_27 => ?_)
      · rw [hQ]
        have e9 : i = nv := by omega
        subst e9
        exact m_vwr hx hb hr hlocks () (trivial) hP hS dX0_addLine_49
      · refine lv_aload_n hx hb dX0_addLine_30 rfl (lv_at hl 0 rfl) ?_
        refine lv_iload_n hx hb dX0_addLine_31 rfl (lv_at hl 3 rfl) ?_
        refine lv_aload_n hx hb dX0_addLine_32 rfl (lv_at hl 0 rfl) ?_
        refine va_get (D := D) (ci := 0) (v := .int (nI (nl + 1))) (C := RX0) (T := TX0) (N := 4) hx hb hts i_X0 hown hK.1 hP 0 rfl rfl 2 (by decide) f_18 (fun _ h9 => h9) rfl dX0_addLine_33 ?_
        refine lv_iconst (v := nI 1) hx hb dX0_addLine_36 (by decide) ?_
        refine m_sub hx hb (by omega) dX0_addLine_37 ?_
        refine m_top (y := nI nl) rfl ?_
        refine lv_aload_n hx hb dX0_addLine_38 rfl (lv_at hl 1 rfl) ?_
        refine lv_iload_n hx hb dX0_addLine_39 rfl (lv_at hl 2 rfl) ?_
        refine m_wvV (As := [.int (nI i), .int (nI nl), .ref pa, .int (nI n)]) (rest := []) (wc := [(o, .inr (0, [.ref a1, .ref a2, .int (nI (nl + 1)), .int (nI nv)])), (a1, aN cI 640 (wrG pd g nl n i)), (a2, aN cI 80 (wrZ z nl n i)), (pa, aN cI 8 pd)]) hcf (k_X0_write (l := l) (D := D) (cI := cI) (cZ := cZ) (v := i) (ln := nl) (pa := pa) (n := n) (o := o) (a1 := a1) (a2 := a2) (nl := nl + 1) (nv := nv) (g := wrG pd g nl n i) (z := wrZ z nl n i) (pd := pd) (hnl := by omega) (hnv := hnv) (hv := by omega) (hln := by omega) (hn8 := hn8)) (cwV 4 hts gX0_addLine_X0_write rfl rfl rfl yd_X0_write ⟨Nat.le_of_ble_eq_true rfl, Nat.le_of_ble_eq_true rfl⟩) hK hP hD hS [0, 1, 2, 3] (by decide) rfl rfl rfl rfl hl.1 rfl (Nat.le_of_ble_eq_true rfl) dX0_addLine_40 ⟨Nat.zero_le _, Nat.zero_le _⟩ (fun _ => rfl) (fun (u : Unit) => [(o, .inr (0, [.ref a1, .ref a2, .int (nI (nl + 1)), .int (nI nv)])), (a1, aN cI 640 (cpN pd (wrG pd g nl n i) 0 ((i * 20 + nl) * 8) n)), (a2, aN cI 80 (upN (wrZ z nl n i) (i * 20 + nl) n)), (pa, aN cI 8 pd)]) (fun _ => rfl) (fun u H locs hp_40 hP hD hS => ?_)
        have hP : va_P D vwCl [(o, .inr (0, [.ref a1, .ref a2, .int (nI (nl + 1)), .int (nI nv)])), (a1, aN cI 640 (cpN pd (wrG pd g nl n i) 0 ((i * 20 + nl) * 8) n)), (a2, aN cI 80 (upN (wrZ z nl n i) (i * 20 + nl) n)), (pa, aN cI 8 pd)] H := hP
        have hD : va_D A [(o, .inr (0, [.ref a1, .ref a2, .int (nI (nl + 1)), .int (nI nv)])), (a1, aN cI 640 (cpN pd (wrG pd g nl n i) 0 ((i * 20 + nl) * 8) n)), (a2, aN cI 80 (upN (wrZ z nl n i) (i * 20 + nl) n)), (pa, aN cI 8 pd)] := hD
        refine lv_iinc (v := nI (i + 1)) (lv' := [(3, .int (nI (i + 1))), (0, .ref o), (1, .ref pa), (2, .int (nI n))]) hx hb dX0_addLine_43 hl (k := 3) rfl ((nI_succ _).symm) (by decide) rfl (fun ls hl => ?_)
        refine lv_goto (tgt := 22) hx hb dX0_addLine_46 (by decide) ?_
        exact ih_22 (i + 1) (by omega) (by omega) _ _ hP hD hS ls (lv_sub hl [1, 2, 3, 0] rfl)
  exact loop_22 (nv + 1) 0 (by omega) (by omega) _ _ hP hD hS ls (lv_sub hl [1, 2, 3, 0] rfl)

theorem yd_X0_addVersion : yX0_addVersion.cls = RX0 ∧ yX0_addVersion.cls ≠ "java/lang/invoke/MethodHandle" ∧ yX0_addVersion.cls ≠ "java/lang/invoke/VarHandle" ∧ (parseMethodDescriptor yX0_addVersion.desc).map (fun d => d.parameters.length) = some 0 := by decide +kernel
set_option maxHeartbeats 4000000 in
set_option maxRecDepth 100000 in
theorem k_X0_addVersion (l : Launch) (D : va_G) (cI cZ : ClassId) (o a1 a2 nl nv : Nat) (z g : Nat → Nat) (hnv1 : 1 ≤ nv) (hnv : nv < 4) : Met l yX0_addVersion wsX0_addVersion ({ frames := 1, cells := 0, slots := 0, locals := 48 }) (mPc [.ref o] D cI cZ [(o, .inr (0, [.ref a1, .ref a2, .int (nI nl), .int (nI nv)])), (a1, aN cI 640 g), (a2, aN cI 80 z)]) (mQv D (mA [(o, .inr (0, [.ref a1, .ref a2, .int (nI nl), .int (nI nv)])), (a1, aN cI 640 g), (a2, aN cI 80 z)]) (fun (u : Unit) => True) (fun (u : Unit) => [(o, .inr (0, [.ref a1, .ref a2, .int (nI nl), .int (nI (nv + 1))])), (a1, aN cI 640 (cpN g g ((nv - 1) * 20 * 8) (nv * 20 * 8) 160)), (a2, aN cI 80 (cpN z z ((nv - 1) * 20) (nv * 20) 20))])) 0 0 (mA [(o, .inr (0, [.ref a1, .ref a2, .int (nI nl), .int (nI nv)])), (a1, aN cI 640 g), (a2, aN cI 80 z)]) := by
  refine Met.ofW (cc := cX0_addVersion) (maxL := 3) (ret := none) (by decide) rfl ?_
  intro p e s m args below meth c s₁ BB hml hv
  obtain ⟨hargs, hP, hD0, hK⟩ := hv
  have hx := BB.exec
  have hb := BB.bytes
  have hr := BB.returns
  have hts := atoms_spec (ws := wsX0_addVersion) BB.pre
  have hown : s.vm.findClass RX0 = some m.cls := findClass_of_methodNamed BB.named
  have hlocks := BB.notSynchronized
  have hcf : CallFix p m c cX0_addVersion 3 s args wsX0_addVersion RX0 := ⟨hx, hb, hml, hown, hts⟩
  obtain ⟨A, hAe⟩ : ∃ A, A = mA [(o, .inr (0, [.ref a1, .ref a2, .int (nI nl), .int (nI nv)])), (a1, aN cI 640 g), (a2, aN cI 80 z)] := ⟨_, rfl⟩
  have hD : va_D A [(o, .inr (0, [.ref a1, .ref a2, .int (nI nl), .int (nI nv)])), (a1, aN cI 640 g), (a2, aN cI 80 z)] := ⟨hD0.1, fun k q h => by rw [hAe]; exact ⟨k, q.2, h⟩⟩
  have hS : va_S A s.heap s.heap [] := va_S.rf
  rw [← hAe]
  rw [hargs, lg_entry_eq, ← hargs]
  have hl := lv_entry ([.ref o]) (n := 3) (Nat.le_of_ble_eq_true rfl)
  generalize (lg_sl ([.ref o]) ++ List.replicate (3 - (lg_sl ([.ref o])).length) Slot.unset).toArray = ls at hl ⊢
  have hl : lv_has ls 3 [(0, .ref o)] := hl
  obtain ⟨Q, hQ⟩ : ∃ Q, Q = MQ below (mQv D A (fun (u : Unit) => True) (fun (u : Unit) => [(o, .inr (0, [.ref a1, .ref a2, .int (nI nl), .int (nI (nv + 1))])), (a1, aN cI 640 (cpN g g ((nv - 1) * 20 * 8) (nv * 20 * 8) 160)), (a2, aN cI 80 (cpN z z ((nv - 1) * 20) (nv * 20) 20))])) args s 0 0 A := ⟨_, rfl⟩
  rw [← hQ]
  have i_X0 : ∀ w ∈ u_ws RX0 TX0 4, w ∈ wsX0_addVersion := by decide +kernel
  have f_22 := hts (.fieldLink RX0 22 "SameAgain$Code" "versionCount" "I") (by decide +kernel)
  have f_15 := hts (.fieldLink RX0 15 "SameAgain$Code" "sizes" "[I") (by decide +kernel)
  have l_32 := hts (.methodLink RX0 32 arraycopyName) (by decide +kernel)
  have l_nat := hts (.native arraycopyName) (by decide +kernel)
  have l_stat := hts (.static arraycopyName) (by decide +kernel)
  have l_sys := hts (.initialized "java/lang/System") (by decide +kernel)
  have f_9 := hts (.fieldLink RX0 9 "SameAgain$Code" "signs" "[I") (by decide +kernel)
  refine lv_aload_n hx hb dX0_addVersion_0 rfl (lv_at hl 0 rfl) ?_
  refine va_get (D := D) (ci := 0) (v := .int (nI nv)) (C := RX0) (T := TX0) (N := 4) hx hb hts i_X0 hown hK.1 hP 0 rfl rfl 3 (by decide) f_22 (fun _ h9 => h9) rfl dX0_addVersion_1 ?_
  refine lv_iconst (v := nI 1) hx hb dX0_addVersion_4 (by decide) ?_
  refine m_cmp_lt (tgt := 16) hx hb dX0_addVersion_5 (by decide) (by omega) (by omega) (fun c_5 => absurd c_5 (by omega)) (fun c_5 => ?_)
  refine lv_aload_n hx hb dX0_addVersion_8 rfl (lv_at hl 0 rfl) ?_
  refine va_get (D := D) (ci := 0) (v := .int (nI nv)) (C := RX0) (T := TX0) (N := 4) hx hb hts i_X0 hown hK.1 hP 0 rfl rfl 3 (by decide) f_22 (fun _ h9 => h9) rfl dX0_addVersion_9 ?_
  refine lv_iconst (v := nI 4) hx hb dX0_addVersion_12 (by decide) ?_
  refine m_cmp_lt (tgt := 17) hx hb dX0_addVersion_13 (by decide) (by omega) (by omega) (fun c_13 => ?_) (fun c_13 => absurd c_13 (by omega))
  refine lv_aload_n hx hb dX0_addVersion_17 rfl (lv_at hl 0 rfl) ?_
  refine va_get (D := D) (ci := 0) (v := .int (nI nv)) (C := RX0) (T := TX0) (N := 4) hx hb hts i_X0 hown hK.1 hP 0 rfl rfl 3 (by decide) f_22 (fun _ h9 => h9) rfl dX0_addVersion_18 ?_
  refine lv_iconst (v := nI 1) hx hb dX0_addVersion_21 (by decide) ?_
  refine m_sub hx hb (by omega) dX0_addVersion_22 ?_
  refine lv_bipush (v := nI 20) hx hb dX0_addVersion_23 (by decide) ?_
  refine m_mul hx hb dX0_addVersion_25 ?_
  refine lv_istore_n (lv' := [(1, .int (nI ((nv - 1) * 20))), (0, .ref o)]) hx hb dX0_addVersion_26 rfl hl (by decide) rfl (fun ls hl => ?_)
  refine lv_aload_n hx hb dX0_addVersion_27 rfl (lv_at hl 1 rfl) ?_
  refine va_get (D := D) (ci := 0) (v := .int (nI nv)) (C := RX0) (T := TX0) (N := 4) hx hb hts i_X0 hown hK.1 hP 0 rfl rfl 3 (by decide) f_22 (fun _ h9 => h9) rfl dX0_addVersion_28 ?_
  refine lv_bipush (v := nI 20) hx hb dX0_addVersion_31 (by decide) ?_
  refine m_mul hx hb dX0_addVersion_33 ?_
  refine lv_istore_n (lv' := [(2, .int (nI (nv * 20))), (1, .int (nI ((nv - 1) * 20))), (0, .ref o)]) hx hb dX0_addVersion_34 rfl hl (by decide) rfl (fun ls hl => ?_)
  refine lv_aload_n hx hb dX0_addVersion_35 rfl (lv_at hl 2 rfl) ?_
  refine va_get (D := D) (ci := 0) (v := .ref a2) (C := RX0) (T := TX0) (N := 4) hx hb hts i_X0 hown hK.1 hP 0 rfl rfl 1 (by decide) f_15 (fun _ h9 => h9) rfl dX0_addVersion_36 ?_
  refine lv_iload_n hx hb dX0_addVersion_39 rfl (lv_at hl 1 rfl) ?_
  refine lv_aload_n hx hb dX0_addVersion_40 rfl (lv_at hl 2 rfl) ?_
  refine va_get (D := D) (ci := 0) (v := .ref a2) (C := RX0) (T := TX0) (N := 4) hx hb hts i_X0 hown hK.1 hP 0 rfl rfl 1 (by decide) f_15 (fun _ h9 => h9) rfl dX0_addVersion_41 ?_
  refine lv_iload_n hx hb dX0_addVersion_44 rfl (lv_at hl 0 rfl) ?_
  refine lv_bipush (v := nI 20) hx hb dX0_addVersion_45 (by decide) ?_
  refine m_copy hx hb (hml.trans hl.1.symm) hown l_32 l_nat l_stat l_sys hK hP hD hS 2 2 rfl rfl (by decide) (by decide) (by omega) (by omega) (Nat.le_of_ble_eq_true rfl) (Nat.le_of_ble_eq_true rfl) dX0_addVersion_47 (ws' := [(o, .inr (0, [.ref a1, .ref a2, .int (nI nl), .int (nI nv)])), (a1, aN cI 640 g), (a2, aN cI 80 (cpN z z ((nv - 1) * 20) (nv * 20) 20))]) rfl (fun H locs hP hD hS => ?_)
  refine lv_aload_n hx hb dX0_addVersion_50 rfl (lv_at hl 2 rfl) ?_
  refine va_get (D := D) (ci := 0) (v := .ref a1) (C := RX0) (T := TX0) (N := 4) hx hb hts i_X0 hown hK.1 hP 0 rfl rfl 0 (by decide) f_9 (fun _ h9 => h9) rfl dX0_addVersion_51 ?_
  refine lv_iload_n hx hb dX0_addVersion_54 rfl (lv_at hl 1 rfl) ?_
  refine lv_bipush (v := nI 8) hx hb dX0_addVersion_55 (by decide) ?_
  refine m_mul hx hb dX0_addVersion_57 ?_
  refine lv_aload_n hx hb dX0_addVersion_58 rfl (lv_at hl 2 rfl) ?_
  refine va_get (D := D) (ci := 0) (v := .ref a1) (C := RX0) (T := TX0) (N := 4) hx hb hts i_X0 hown hK.1 hP 0 rfl rfl 0 (by decide) f_9 (fun _ h9 => h9) rfl dX0_addVersion_59 ?_
  refine lv_iload_n hx hb dX0_addVersion_62 rfl (lv_at hl 0 rfl) ?_
  refine lv_bipush (v := nI 8) hx hb dX0_addVersion_63 (by decide) ?_
  refine m_mul hx hb dX0_addVersion_65 ?_
  refine lv_sipush (v := nI 160) hx hb dX0_addVersion_66 (by decide) ?_
  refine m_copy hx hb (hml.trans hl.1.symm) hown l_32 l_nat l_stat l_sys hK hP hD hS 1 1 rfl rfl (by decide) (by decide) (by omega) (by omega) (Nat.le_of_ble_eq_true rfl) (Nat.le_of_ble_eq_true rfl) dX0_addVersion_69 (ws' := [(o, .inr (0, [.ref a1, .ref a2, .int (nI nl), .int (nI nv)])), (a1, aN cI 640 (cpN g g (((nv - 1) * 20) * 8) ((nv * 20) * 8) 160)), (a2, aN cI 80 (cpN z z ((nv - 1) * 20) (nv * 20) 20))]) rfl (fun H locs hP hD hS => ?_)
  refine lv_aload_n hx hb dX0_addVersion_72 rfl (lv_at hl 2 rfl) ?_
  refine lv_dup hx hb dX0_addVersion_73 rfl ?_
  refine va_get (D := D) (ci := 0) (v := .int (nI nv)) (C := RX0) (T := TX0) (N := 4) hx hb hts i_X0 hown hK.1 hP 0 rfl rfl 3 (by decide) f_22 (fun _ h9 => h9) rfl dX0_addVersion_74 ?_
  refine lv_iconst (v := nI 1) hx hb dX0_addVersion_77 (by decide) ?_
  refine m_add hx hb dX0_addVersion_78 ?_
  refine va_put (D := D) (ci := 0) (v := .int (nI (nv + 1))) (ty := .int) (C := RX0) (T := TX0) (N := 4) hx hb hts i_X0 tyX0 tyX0_ok nmX0 hown hK.1 hP hD hS 0 rfl rfl 3 (by decide) f_22 (fun _ h9 => h9) rfl (by decide +kernel) rfl rfl (Nat.le_of_ble_eq_true rfl) dX0_addVersion_79 (fun H locs hP hD hS => ?_)
  have hP : va_P D vwCl [(o, .inr (0, [.ref a1, .ref a2, .int (nI nl), .int (nI (nv + 1))])), (a1, aN cI 640 (cpN g g (((nv - 1) * 20) * 8) ((nv * 20) * 8) 160)), (a2, aN cI 80 (cpN z z ((nv - 1) * 20) (nv * 20) 20))] H := hP
  have hD : va_D A [(o, .inr (0, [.ref a1, .ref a2, .int (nI nl), .int (nI (nv + 1))])), (a1, aN cI 640 (cpN g g (((nv - 1) * 20) * 8) ((nv * 20) * 8) 160)), (a2, aN cI 80 (cpN z z ((nv - 1) * 20) (nv * 20) 20))] := hD
  rw [hQ]
  exact m_vwr hx hb hr hlocks () (trivial) hP hS dX0_addVersion_82

theorem yd_X0_becomeAs : yX0_becomeAs.cls = RX0 ∧ yX0_becomeAs.cls ≠ "java/lang/invoke/MethodHandle" ∧ yX0_becomeAs.cls ≠ "java/lang/invoke/VarHandle" ∧ (parseMethodDescriptor yX0_becomeAs.desc).map (fun d => d.parameters.length) = some 1 := by decide +kernel
set_option maxHeartbeats 4000000 in
set_option maxRecDepth 100000 in
theorem k_X0_becomeAs (l : Launch) (D : va_G) (cI cZ : ClassId) (o a1 a2 nl nv o2 b1 b2 nl2 nv2 : Nat) (z g z2 g2 : Nat → Nat)  : Met l yX0_becomeAs wsX0_becomeAs ({ frames := 1, cells := 0, slots := 0, locals := 48 }) (mPc [.ref o, .ref o2] D cI cZ [(o, .inr (0, [.ref a1, .ref a2, .int (nI nl), .int (nI nv)])), (a1, aN cI 640 g), (a2, aN cI 80 z), (o2, .inr (0, [.ref b1, .ref b2, .int (nI nl2), .int (nI nv2)])), (b1, aN cI 640 g2), (b2, aN cI 80 z2)]) (mQv D (mA [(o, .inr (0, [.ref a1, .ref a2, .int (nI nl), .int (nI nv)])), (a1, aN cI 640 g), (a2, aN cI 80 z), (o2, .inr (0, [.ref b1, .ref b2, .int (nI nl2), .int (nI nv2)])), (b1, aN cI 640 g2), (b2, aN cI 80 z2)]) (fun (u : Unit) => True) (fun (u : Unit) => [(o, .inr (0, [.ref a1, .ref a2, .int (nI nl2), .int (nI nv2)])), (a1, aN cI 640 (cpN g2 g 0 0 640)), (a2, aN cI 80 (cpN z2 z 0 0 80)), (o2, .inr (0, [.ref b1, .ref b2, .int (nI nl2), .int (nI nv2)])), (b1, aN cI 640 g2), (b2, aN cI 80 z2)])) 0 0 (mA [(o, .inr (0, [.ref a1, .ref a2, .int (nI nl), .int (nI nv)])), (a1, aN cI 640 g), (a2, aN cI 80 z), (o2, .inr (0, [.ref b1, .ref b2, .int (nI nl2), .int (nI nv2)])), (b1, aN cI 640 g2), (b2, aN cI 80 z2)]) := by
  refine Met.ofW (cc := cX0_becomeAs) (maxL := 2) (ret := none) (by decide) rfl ?_
  intro p e s m args below meth c s₁ BB hml hv
  obtain ⟨hargs, hP, hD0, hK⟩ := hv
  have hx := BB.exec
  have hb := BB.bytes
  have hr := BB.returns
  have hts := atoms_spec (ws := wsX0_becomeAs) BB.pre
  have hown : s.vm.findClass RX0 = some m.cls := findClass_of_methodNamed BB.named
  have hlocks := BB.notSynchronized
  have hcf : CallFix p m c cX0_becomeAs 2 s args wsX0_becomeAs RX0 := ⟨hx, hb, hml, hown, hts⟩
  obtain ⟨A, hAe⟩ : ∃ A, A = mA [(o, .inr (0, [.ref a1, .ref a2, .int (nI nl), .int (nI nv)])), (a1, aN cI 640 g), (a2, aN cI 80 z), (o2, .inr (0, [.ref b1, .ref b2, .int (nI nl2), .int (nI nv2)])), (b1, aN cI 640 g2), (b2, aN cI 80 z2)] := ⟨_, rfl⟩
  have hD : va_D A [(o, .inr (0, [.ref a1, .ref a2, .int (nI nl), .int (nI nv)])), (a1, aN cI 640 g), (a2, aN cI 80 z), (o2, .inr (0, [.ref b1, .ref b2, .int (nI nl2), .int (nI nv2)])), (b1, aN cI 640 g2), (b2, aN cI 80 z2)] := ⟨hD0.1, fun k q h => by rw [hAe]; exact ⟨k, q.2, h⟩⟩
  have hS : va_S A s.heap s.heap [] := va_S.rf
  rw [← hAe]
  rw [hargs, lg_entry_eq, ← hargs]
  have hl := lv_entry ([.ref o, .ref o2]) (n := 2) (Nat.le_of_ble_eq_true rfl)
  generalize (lg_sl ([.ref o, .ref o2]) ++ List.replicate (2 - (lg_sl ([.ref o, .ref o2])).length) Slot.unset).toArray = ls at hl ⊢
  have hl : lv_has ls 2 [(0, .ref o), (1, .ref o2)] := hl
  obtain ⟨Q, hQ⟩ : ∃ Q, Q = MQ below (mQv D A (fun (u : Unit) => True) (fun (u : Unit) => [(o, .inr (0, [.ref a1, .ref a2, .int (nI nl2), .int (nI nv2)])), (a1, aN cI 640 (cpN g2 g 0 0 640)), (a2, aN cI 80 (cpN z2 z 0 0 80)), (o2, .inr (0, [.ref b1, .ref b2, .int (nI nl2), .int (nI nv2)])), (b1, aN cI 640 g2), (b2, aN cI 80 z2)])) args s 0 0 A := ⟨_, rfl⟩
  rw [← hQ]
  have i_X0 : ∀ w ∈ u_ws RX0 TX0 4, w ∈ wsX0_becomeAs := by decide +kernel
  have f_9 := hts (.fieldLink RX0 9 "SameAgain$Code" "signs" "[I") (by decide +kernel)
  have l_32 := hts (.methodLink RX0 32 arraycopyName) (by decide +kernel)
  have l_nat := hts (.native arraycopyName) (by decide +kernel)
  have l_stat := hts (.static arraycopyName) (by decide +kernel)
  have l_sys := hts (.initialized "java/lang/System") (by decide +kernel)
  have f_15 := hts (.fieldLink RX0 15 "SameAgain$Code" "sizes" "[I") (by decide +kernel)
  have f_18 := hts (.fieldLink RX0 18 "SameAgain$Code" "lineCount" "I") (by decide +kernel)
  have f_22 := hts (.fieldLink RX0 22 "SameAgain$Code" "versionCount" "I") (by decide +kernel)
  refine lv_aload_n hx hb dX0_becomeAs_0 rfl (lv_at hl 1 rfl) ?_
  refine va_get (D := D) (ci := 0) (v := .ref b1) (C := RX0) (T := TX0) (N := 4) hx hb hts i_X0 hown hK.1 hP 3 rfl rfl 0 (by decide) f_9 (fun _ h9 => h9) rfl dX0_becomeAs_1 ?_
  refine lv_iconst (v := nI 0) hx hb dX0_becomeAs_4 (by decide) ?_
  refine lv_aload_n hx hb dX0_becomeAs_5 rfl (lv_at hl 0 rfl) ?_
  refine va_get (D := D) (ci := 0) (v := .ref a1) (C := RX0) (T := TX0) (N := 4) hx hb hts i_X0 hown hK.1 hP 0 rfl rfl 0 (by decide) f_9 (fun _ h9 => h9) rfl dX0_becomeAs_6 ?_
  refine lv_iconst (v := nI 0) hx hb dX0_becomeAs_9 (by decide) ?_
  refine lv_aload_n hx hb dX0_becomeAs_10 rfl (lv_at hl 0 rfl) ?_
  refine va_get (D := D) (ci := 0) (v := .ref a1) (C := RX0) (T := TX0) (N := 4) hx hb hts i_X0 hown hK.1 hP 0 rfl rfl 0 (by decide) f_9 (fun _ h9 => h9) rfl dX0_becomeAs_11 ?_
  refine m_alen hx hb hK hP 1 rfl dX0_becomeAs_14 ?_
  refine m_copy hx hb (hml.trans hl.1.symm) hown l_32 l_nat l_stat l_sys hK hP hD hS 4 1 rfl rfl (by decide) (by decide) (by omega) (by omega) (Nat.le_of_ble_eq_true rfl) (Nat.le_of_ble_eq_true rfl) dX0_becomeAs_15 (ws' := [(o, .inr (0, [.ref a1, .ref a2, .int (nI nl), .int (nI nv)])), (a1, aN cI 640 (cpN g2 g 0 0 640)), (a2, aN cI 80 z), (o2, .inr (0, [.ref b1, .ref b2, .int (nI nl2), .int (nI nv2)])), (b1, aN cI 640 g2), (b2, aN cI 80 z2)]) rfl (fun H locs hP hD hS => ?_)
  refine lv_aload_n hx hb dX0_becomeAs_18 rfl (lv_at hl 1 rfl) ?_
  refine va_get (D := D) (ci := 0) (v := .ref b2) (C := RX0) (T := TX0) (N := 4) hx hb hts i_X0 hown hK.1 hP 3 rfl rfl 1 (by decide) f_15 (fun _ h9 => h9) rfl dX0_becomeAs_19 ?_
  refine lv_iconst (v := nI 0) hx hb dX0_becomeAs_22 (by decide) ?_
  refine lv_aload_n hx hb dX0_becomeAs_23 rfl (lv_at hl 0 rfl) ?_
  refine va_get (D := D) (ci := 0) (v := .ref a2) (C := RX0) (T := TX0) (N := 4) hx hb hts i_X0 hown hK.1 hP 0 rfl rfl 1 (by decide) f_15 (fun _ h9 => h9) rfl dX0_becomeAs_24 ?_
  refine lv_iconst (v := nI 0) hx hb dX0_becomeAs_27 (by decide) ?_
  refine lv_aload_n hx hb dX0_becomeAs_28 rfl (lv_at hl 0 rfl) ?_
  refine va_get (D := D) (ci := 0) (v := .ref a2) (C := RX0) (T := TX0) (N := 4) hx hb hts i_X0 hown hK.1 hP 0 rfl rfl 1 (by decide) f_15 (fun _ h9 => h9) rfl dX0_becomeAs_29 ?_
  refine m_alen hx hb hK hP 2 rfl dX0_becomeAs_32 ?_
  refine m_copy hx hb (hml.trans hl.1.symm) hown l_32 l_nat l_stat l_sys hK hP hD hS 5 2 rfl rfl (by decide) (by decide) (by omega) (by omega) (Nat.le_of_ble_eq_true rfl) (Nat.le_of_ble_eq_true rfl) dX0_becomeAs_33 (ws' := [(o, .inr (0, [.ref a1, .ref a2, .int (nI nl), .int (nI nv)])), (a1, aN cI 640 (cpN g2 g 0 0 640)), (a2, aN cI 80 (cpN z2 z 0 0 80)), (o2, .inr (0, [.ref b1, .ref b2, .int (nI nl2), .int (nI nv2)])), (b1, aN cI 640 g2), (b2, aN cI 80 z2)]) rfl (fun H locs hP hD hS => ?_)
  refine lv_aload_n hx hb dX0_becomeAs_36 rfl (lv_at hl 0 rfl) ?_
  refine lv_aload_n hx hb dX0_becomeAs_37 rfl (lv_at hl 1 rfl) ?_
  refine va_get (D := D) (ci := 0) (v := .int (nI nl2)) (C := RX0) (T := TX0) (N := 4) hx hb hts i_X0 hown hK.1 hP 3 rfl rfl 2 (by decide) f_18 (fun _ h9 => h9) rfl dX0_becomeAs_38 ?_
  refine va_put (D := D) (ci := 0) (v := .int (nI nl2)) (ty := .int) (C := RX0) (T := TX0) (N := 4) hx hb hts i_X0 tyX0 tyX0_ok nmX0 hown hK.1 hP hD hS 0 rfl rfl 2 (by decide) f_18 (fun _ h9 => h9) rfl (by decide +kernel) rfl rfl (Nat.le_of_ble_eq_true rfl) dX0_becomeAs_41 (fun H locs hP hD hS => ?_)
  have hP : va_P D vwCl [(o, .inr (0, [.ref a1, .ref a2, .int (nI nl2), .int (nI nv)])), (a1, aN cI 640 (cpN g2 g 0 0 640)), (a2, aN cI 80 (cpN z2 z 0 0 80)), (o2, .inr (0, [.ref b1, .ref b2, .int (nI nl2), .int (nI nv2)])), (b1, aN cI 640 g2), (b2, aN cI 80 z2)] H := hP
  have hD : va_D A [(o, .inr (0, [.ref a1, .ref a2, .int (nI nl2), .int (nI nv)])), (a1, aN cI 640 (cpN g2 g 0 0 640)), (a2, aN cI 80 (cpN z2 z 0 0 80)), (o2, .inr (0, [.ref b1, .ref b2, .int (nI nl2), .int (nI nv2)])), (b1, aN cI 640 g2), (b2, aN cI 80 z2)] := hD
  refine lv_aload_n hx hb dX0_becomeAs_44 rfl (lv_at hl 0 rfl) ?_
  refine lv_aload_n hx hb dX0_becomeAs_45 rfl (lv_at hl 1 rfl) ?_
  refine va_get (D := D) (ci := 0) (v := .int (nI nv2)) (C := RX0) (T := TX0) (N := 4) hx hb hts i_X0 hown hK.1 hP 3 rfl rfl 3 (by decide) f_22 (fun _ h9 => h9) rfl dX0_becomeAs_46 ?_
  refine va_put (D := D) (ci := 0) (v := .int (nI nv2)) (ty := .int) (C := RX0) (T := TX0) (N := 4) hx hb hts i_X0 tyX0 tyX0_ok nmX0 hown hK.1 hP hD hS 0 rfl rfl 3 (by decide) f_22 (fun _ h9 => h9) rfl (by decide +kernel) rfl rfl (Nat.le_of_ble_eq_true rfl) dX0_becomeAs_49 (fun H locs hP hD hS => ?_)
  have hP : va_P D vwCl [(o, .inr (0, [.ref a1, .ref a2, .int (nI nl2), .int (nI nv2)])), (a1, aN cI 640 (cpN g2 g 0 0 640)), (a2, aN cI 80 (cpN z2 z 0 0 80)), (o2, .inr (0, [.ref b1, .ref b2, .int (nI nl2), .int (nI nv2)])), (b1, aN cI 640 g2), (b2, aN cI 80 z2)] H := hP
  have hD : va_D A [(o, .inr (0, [.ref a1, .ref a2, .int (nI nl2), .int (nI nv2)])), (a1, aN cI 640 (cpN g2 g 0 0 640)), (a2, aN cI 80 (cpN z2 z 0 0 80)), (o2, .inr (0, [.ref b1, .ref b2, .int (nI nl2), .int (nI nv2)])), (b1, aN cI 640 g2), (b2, aN cI 80 z2)] := hD
  rw [hQ]
  exact m_vwr hx hb hr hlocks () (trivial) hP hS dX0_becomeAs_52

theorem yd_X0_staysAsItIs : yX0_staysAsItIs.cls = RX0 ∧ yX0_staysAsItIs.cls ≠ "java/lang/invoke/MethodHandle" ∧ yX0_staysAsItIs.cls ≠ "java/lang/invoke/VarHandle" ∧ (parseMethodDescriptor yX0_staysAsItIs.desc).map (fun d => d.parameters.length) = some 2 := by decide +kernel
set_option maxHeartbeats 4000000 in
set_option maxRecDepth 100000 in
theorem k_X0_staysAsItIs (l : Launch) (D : va_G) (cI cZ : ClassId) (o a1 a2 nl nv : Nat) (z g : Nat → Nat) (v ln : Nat) (hnl : nl ≤ 20) (hnv : nv ≤ 4) (hz : ∀ j, z j ≤ 8) (hg : ∀ j, g j ≤ 126) (hv : v + 1 < nv) (hln : ln < nl) : Met l yX0_staysAsItIs wsX0_staysAsItIs ({ frames := 1, cells := 0, slots := 0, locals := 24 }) (mPc [.ref o, .int (nI v), .int (nI ln)] D cI cZ [(o, .inr (0, [.ref a1, .ref a2, .int (nI nl), .int (nI nv)])), (a1, aN cI 640 g), (a2, aN cI 80 z)]) (QcRead (bI (stB z g v ln))) 0 0 (fun _ => False) := by
  refine Met.ofW (cc := cX0_staysAsItIs) (maxL := 5) (ret := (some .boolean)) (by decide) rfl ?_
  intro p e s m args below meth c s₁ BB hml hv
  obtain ⟨hargs, hP, hD0, hK⟩ := hv
  have hx := BB.exec
  have hb := BB.bytes
  have hr := BB.returns
  have hts := atoms_spec (ws := wsX0_staysAsItIs) BB.pre
  have hown : s.vm.findClass RX0 = some m.cls := findClass_of_methodNamed BB.named
  have hlocks := BB.notSynchronized
  have hcf : CallFix p m c cX0_staysAsItIs 5 s args wsX0_staysAsItIs RX0 := ⟨hx, hb, hml, hown, hts⟩
  have hD := hD0
  rw [hargs, lg_entry_eq, ← hargs]
  have hl := lv_entry ([.ref o, .int (nI v), .int (nI ln)]) (n := 5) (Nat.le_of_ble_eq_true rfl)
  generalize (lg_sl ([.ref o, .int (nI v), .int (nI ln)]) ++ List.replicate (5 - (lg_sl ([.ref o, .int (nI v), .int (nI ln)])).length) Slot.unset).toArray = ls at hl ⊢
  have hl : lv_has ls 5 [(0, .ref o), (1, .int (nI v)), (2, .int (nI ln))] := hl
  obtain ⟨Q, hQ⟩ : ∃ Q, Q = MQ below (QcRead (bI (stB z g v ln))) args s 0 0 (fun _ => False) := ⟨_, rfl⟩
  rw [← hQ]
  have hz1 := hz (v * 20 + ln)
  have hz2 := hz ((v + 1) * 20 + ln)
  refine lv_aload_n hx hb dX0_staysAsItIs_0 rfl (lv_at hl 0 rfl) ?_
  refine lv_iload_n hx hb dX0_staysAsItIs_1 rfl (lv_at hl 1 rfl) ?_
  refine lv_iload_n hx hb dX0_staysAsItIs_2 rfl (lv_at hl 2 rfl) ?_
  refine m_rdV (As := [.int (nI v), .int (nI ln)]) (rest := []) (wc := [(o, .inr (0, [.ref a1, .ref a2, .int (nI nl), .int (nI nv)])), (a1, aN cI 640 g), (a2, aN cI 80 z)]) hcf (k_X0_sizeOf (l := l) (D := D) (cI := cI) (cZ := cZ) (v := v) (ln := ln) (o := o) (a1 := a1) (a2 := a2) (nl := nl) (nv := nv) (g := g) (z := z) (hnl := hnl) (hnv := hnv) (hv := by omega) (hln := hln)) (cwV 2 hts gX0_staysAsItIs_X0_sizeOf rfl rfl rfl yd_X0_sizeOf ⟨Nat.le_of_ble_eq_true rfl, Nat.le_of_ble_eq_true rfl⟩) (m_preV hK hP hD [0, 1, 2] (by decide) rfl rfl rfl) rfl hl.1 rfl (Nat.le_of_ble_eq_true rfl) dX0_staysAsItIs_3 ⟨Nat.zero_le _, Nat.zero_le _⟩ ?_
  refine lv_istore_n (lv' := [(3, .int (nI (z (v * 20 + ln)))), (0, .ref o), (1, .int (nI v)), (2, .int (nI ln))]) hx hb dX0_staysAsItIs_6 rfl hl (by decide) rfl (fun ls hl => ?_)
  refine lv_aload_n hx hb dX0_staysAsItIs_7 rfl (lv_at hl 1 rfl) ?_
  refine lv_iload_n hx hb dX0_staysAsItIs_8 rfl (lv_at hl 2 rfl) ?_
  refine lv_iconst (v := nI 1) hx hb dX0_staysAsItIs_9 (by decide) ?_
  refine m_add hx hb dX0_staysAsItIs_10 ?_
  refine lv_iload_n hx hb dX0_staysAsItIs_11 rfl (lv_at hl 3 rfl) ?_
  refine m_rdV (As := [.int (nI (v + 1)), .int (nI ln)]) (rest := []) (wc := [(o, .inr (0, [.ref a1, .ref a2, .int (nI nl), .int (nI nv)])), (a1, aN cI 640 g), (a2, aN cI 80 z)]) hcf (k_X0_sizeOf (l := l) (D := D) (cI := cI) (cZ := cZ) (v := v + 1) (ln := ln) (o := o) (a1 := a1) (a2 := a2) (nl := nl) (nv := nv) (g := g) (z := z) (hnl := hnl) (hnv := hnv) (hv := by omega) (hln := hln)) (cwV 2 hts gX0_staysAsItIs_X0_sizeOf rfl rfl rfl yd_X0_sizeOf ⟨Nat.le_of_ble_eq_true rfl, Nat.le_of_ble_eq_true rfl⟩) (m_preV hK hP hD [0, 1, 2] (by decide) rfl rfl rfl) rfl hl.1 rfl (Nat.le_of_ble_eq_true rfl) dX0_staysAsItIs_12 ⟨Nat.zero_le _, Nat.zero_le _⟩ ?_
  refine lv_iload_n hx hb dX0_staysAsItIs_15 rfl (lv_at hl 0 rfl) ?_
  refine m_cmp_eq (tgt := 21) hx hb dX0_staysAsItIs_16 (by decide) (by omega) (by omega) (fun c_16 => ?_) (fun c_16 => ?_)
  · refine lv_iconst (v := nI 0) hx hb dX0_staysAsItIs_21 (by decide) ?_
    refine lv_istore (lv' := [(4, .int (nI 0)), (3, .int (nI (z (v * 20 + ln)))), (0, .ref o), (1, .int (nI v)), (2, .int (nI ln))]) hx hb dX0_staysAsItIs_22 hl (by decide) rfl (fun ls hl => ?_)
    have loop_24 : ∀ (fu : Nat) (k : Nat) (hfu : z (v * 20 + ln) - k < fu)  (hk : k ≤ z (v * 20 + ln)) (hall : ∀ j, j < k → g ((v * 20 + ln) * 8 + j) = g (((v + 1) * 20 + ln) * 8 + j)) (ls : Array Slot) (hl : lv_has ls 5 [(0, .ref o), (1, .int (nI v)), (2, .int (nI ln)), (3, .int (nI (z (v * 20 + ln)))), (4, .int (nI k))]), W p l e (headSpec wsX0_staysAsItIs { frames := 1, cells := 0, slots := 0, locals := 24 }).room s m args below meth c s.heap [] 0 0 Q (F0 m 24 ls []) := by
      intro fu
      induction fu with
      | zero => intro k hfu; exact absurd hfu (Nat.not_lt_zero _)
      | succ fu ih_24 =>
        intro k hfu hk hall ls hl
        refine lv_iload hx hb dX0_staysAsItIs_24 (lv_at hl 4 rfl) ?_
        refine lv_iload_n hx hb dX0_staysAsItIs_26 rfl (lv_at hl 3 rfl) ?_
        refine m_cmp_ge (tgt := 59) hx hb dX0_staysAsItIs_27 (by decide) (by omega) (by omega) (fun c_27 => ?_) (fun c_27 => ?_)
        · refine lv_iconst (v := nI 1) hx hb dX0_staysAsItIs_59 (by decide) ?_
          rw [hQ]
          have e9 : k = z (v * 20 + ln) := by omega
          exact m_zrd hx hb hr hlocks (bb_one (by unfold stB; rw [decide_eq_true c_16, allB_t (fun j hj => decide_eq_true (hall j (by omega)))]; rfl)) dX0_staysAsItIs_60
        · refine lv_aload_n hx hb dX0_staysAsItIs_30 rfl (lv_at hl 0 rfl) ?_
          refine lv_iload_n hx hb dX0_staysAsItIs_31 rfl (lv_at hl 1 rfl) ?_
          refine lv_iload_n hx hb dX0_staysAsItIs_32 rfl (lv_at hl 2 rfl) ?_
          refine lv_iload hx hb dX0_staysAsItIs_33 (lv_at hl 4 rfl) ?_
          refine m_rdV (As := [.int (nI v), .int (nI ln), .int (nI k)]) (rest := []) (wc := [(o, .inr (0, [.ref a1, .ref a2, .int (nI nl), .int (nI nv)])), (a1, aN cI 640 g), (a2, aN cI 80 z)]) hcf (k_X0_signAt (l := l) (D := D) (cI := cI) (cZ := cZ) (v := v) (ln := ln) (k := k) (o := o) (a1 := a1) (a2 := a2) (nl := nl) (nv := nv) (g := g) (z := z) (hnl := hnl) (hnv := hnv) (hz := hz) (hg := hg) (hv := by omega) (hln := hln) (hk := by omega)) (cwV 3 hts gX0_staysAsItIs_X0_signAt rfl rfl rfl yd_X0_signAt ⟨Nat.le_of_ble_eq_true rfl, Nat.le_of_ble_eq_true rfl⟩) (m_preV hK hP hD [0, 1, 2] (by decide) rfl rfl rfl) rfl hl.1 rfl (Nat.le_of_ble_eq_true rfl) dX0_staysAsItIs_35 ⟨Nat.zero_le _, Nat.zero_le _⟩ ?_
          refine lv_aload_n hx hb dX0_staysAsItIs_38 rfl (lv_at hl 0 rfl) ?_
          refine lv_iload_n hx hb dX0_staysAsItIs_39 rfl (lv_at hl 1 rfl) ?_
          refine lv_iconst (v := nI 1) hx hb dX0_staysAsItIs_40 (by decide) ?_
          refine m_add hx hb dX0_staysAsItIs_41 ?_
          refine lv_iload_n hx hb dX0_staysAsItIs_42 rfl (lv_at hl 2 rfl) ?_
          refine lv_iload hx hb dX0_staysAsItIs_43 (lv_at hl 4 rfl) ?_
          refine m_rdV (As := [.int (nI (v + 1)), .int (nI ln), .int (nI k)]) (rest := [.int (nI (sgN z g (v * 20 + ln) k))]) (wc := [(o, .inr (0, [.ref a1, .ref a2, .int (nI nl), .int (nI nv)])), (a1, aN cI 640 g), (a2, aN cI 80 z)]) hcf (k_X0_signAt (l := l) (D := D) (cI := cI) (cZ := cZ) (v := v + 1) (ln := ln) (k := k) (o := o) (a1 := a1) (a2 := a2) (nl := nl) (nv := nv) (g := g) (z := z) (hnl := hnl) (hnv := hnv) (hz := hz) (hg := hg) (hv := by omega) (hln := hln) (hk := by omega)) (cwV 3 hts gX0_staysAsItIs_X0_signAt rfl rfl rfl yd_X0_signAt ⟨Nat.le_of_ble_eq_true rfl, Nat.le_of_ble_eq_true rfl⟩) (m_preV hK hP hD [0, 1, 2] (by decide) rfl rfl rfl) rfl hl.1 rfl (Nat.le_of_ble_eq_true rfl) dX0_staysAsItIs_45 ⟨Nat.zero_le _, Nat.zero_le _⟩ ?_
          refine m_cmp_eq (tgt := 53) hx hb dX0_staysAsItIs_48 (by decide) (Nat.lt_of_le_of_lt (sgN_le hg _ _) (by decide)) (Nat.lt_of_le_of_lt (sgN_le hg _ _) (by decide)) (fun c_48 => ?_) (fun c_48 => ?_)
          · refine lv_iinc (v := nI (k + 1)) (lv' := [(4, .int (nI (k + 1))), (0, .ref o), (1, .int (nI v)), (2, .int (nI ln)), (3, .int (nI (z (v * 20 + ln))))]) hx hb dX0_staysAsItIs_53 hl (k := 4) rfl ((nI_succ _).symm) (by decide) rfl (fun ls hl => ?_)
            refine lv_goto (tgt := 24) hx hb dX0_staysAsItIs_56 (by decide) ?_
            have e9 : g ((v * 20 + ln) * 8 + k) = g (((v + 1) * 20 + ln) * 8 + k) := by
              have h9 := c_48
              unfold sgN at h9
              rwa [if_pos (by omega), if_pos (by omega)] at h9
            exact ih_24 (k + 1) (by omega) (by omega) (lt_s hall e9)  ls (lv_sub hl [1, 2, 3, 4, 0] rfl)
          · refine lv_iconst (v := nI 0) hx hb dX0_staysAsItIs_51 (by decide) ?_
            rw [hQ]
            have e9 : ¬ g ((v * 20 + ln) * 8 + k) = g (((v + 1) * 20 + ln) * 8 + k) := by
              have h9 := c_48
              unfold sgN at h9
              rwa [if_pos (by omega), if_pos (by omega)] at h9
            exact m_zrd hx hb hr hlocks (bb_zero (by unfold stB; rw [allB_f k (by omega) (decide_eq_false e9), Bool.and_false])) dX0_staysAsItIs_52
    exact loop_24 (z (v * 20 + ln) + 1) 0 (by omega) (by omega) (fun j hj => absurd hj (Nat.not_lt_zero j))  ls (lv_sub hl [2, 3, 4, 1, 0] rfl)
  · refine lv_iconst (v := nI 0) hx hb dX0_staysAsItIs_19 (by decide) ?_
    rw [hQ]
    exact m_zrd hx hb hr hlocks (bb_zero (by unfold stB; rw [decide_eq_false c_16]; rfl)) dX0_staysAsItIs_20
