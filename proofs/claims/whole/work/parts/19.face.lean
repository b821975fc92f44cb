theorem yd_X7_isUpTo : yX7_isUpTo.cls = RX7 ∧ yX7_isUpTo.cls ≠ "java/lang/invoke/MethodHandle" ∧ yX7_isUpTo.cls ≠ "java/lang/invoke/VarHandle" ∧ (parseMethodDescriptor yX7_isUpTo.desc).map (fun d => d.parameters.length) = some 2 := by decide +kernel
set_option maxHeartbeats 4000000 in
set_option maxRecDepth 100000 in
theorem k_X7_isUpTo (l : Launch) (D : va_G) (cI cZ : ClassId) (a : Int32) (b : Nat) (hb9 : b < 1000) : Met l yX7_isUpTo wsX7_isUpTo ({ frames := 0, cells := 0, slots := 0, locals := 0 }) (mPc [.int a, .int (nI b)] D cI cZ []) (QcRead (bI (ixB a (b + 1)))) 0 0 (fun _ => False) := by
  refine Met.ofW (cc := cX7_isUpTo) (maxL := 2) (ret := (some .boolean)) (by decide) rfl ?_
  intro p e s m args below meth c s₁ BB hml hv
  obtain ⟨hargs, hP, hD0, hK⟩ := hv
  have hx := BB.exec
  have hb := BB.bytes
  have hr := BB.returns
  have hts := atoms_spec (ws := wsX7_isUpTo) BB.pre
  have hown : s.vm.findClass RX7 = some m.cls := findClass_of_methodNamed BB.named
  have hlocks := BB.notSynchronized
  have hcf : CallFix p m c cX7_isUpTo 2 s args wsX7_isUpTo RX7 := ⟨hx, hb, hml, hown, hts⟩
  have hD := hD0
  rw [hargs, lg_entry_eq, ← hargs]
  have hl := lv_entry ([.int a, .int (nI b)]) (n := 2) (Nat.le_of_ble_eq_true rfl)
  generalize (lg_sl ([.int a, .int (nI b)]) ++ List.replicate (2 - (lg_sl ([.int a, .int (nI b)])).length) Slot.unset).toArray = ls at hl ⊢
  have hl : lv_has ls 2 [(0, .int a), (1, .int (nI b))] := hl
  obtain ⟨Q, hQ⟩ : ∃ Q, Q = MQ below (QcRead (bI (ixB a (b + 1)))) args s 0 0 (fun _ => False) := ⟨_, rfl⟩
  rw [← hQ]
  have e9 := nI_toInt (show b < 2 ^ 31 by omega)
  refine lv_iload_n hx hb dX7_isUpTo_0 rfl (lv_at hl 0 rfl) ?_
  refine lv_if_lt (tgt := 13) hx hb dX7_isUpTo_1 (by decide) (fun c_1 => ?_) (fun c_1 => ?_)
  · refine lv_iconst (v := nI 0) hx hb dX7_isUpTo_13 (by decide) ?_
    rw [hQ]
    exact m_zrd hx hb hr hlocks (b_zero (by simp only [fa_lt, fa_le, tI0] at *; omega)) dX7_isUpTo_14
  · refine lv_iload_n hx hb dX7_isUpTo_4 rfl (lv_at hl 0 rfl) ?_
    refine lv_iload_n hx hb dX7_isUpTo_5 rfl (lv_at hl 1 rfl) ?_
    refine lv_icmp_gt (tgt := 13) hx hb dX7_isUpTo_6 (by decide) (fun c_6 => ?_) (fun c_6 => ?_)
    · refine lv_iconst (v := nI 0) hx hb dX7_isUpTo_13 (by decide) ?_
      rw [hQ]
      exact m_zrd hx hb hr hlocks (b_zero (by simp only [fa_lt, fa_le, tI0] at *; omega)) dX7_isUpTo_14
    · refine lv_iconst (v := nI 1) hx hb dX7_isUpTo_9 (by decide) ?_
      refine lv_goto (tgt := 14) hx hb dX7_isUpTo_10 (by decide) ?_
      rw [hQ]
      exact m_zrd hx hb hr hlocks (b_one (by simp only [fa_lt, fa_le, tI0] at *; omega)) dX7_isUpTo_14

theorem yd_X7_isWay : yX7_isWay.cls = RX7 ∧ yX7_isWay.cls ≠ "java/lang/invoke/MethodHandle" ∧ yX7_isWay.cls ≠ "java/lang/invoke/VarHandle" ∧ (parseMethodDescriptor yX7_isWay.desc).map (fun d => d.parameters.length) = some 1 := by decide +kernel
set_option maxHeartbeats 4000000 in
set_option maxRecDepth 100000 in
theorem k_X7_isWay (l : Launch) (D : va_G) (cI cZ : ClassId) (a : Int32)  : Met l yX7_isWay wsX7_isWay ({ frames := 1, cells := 0, slots := 0, locals := 21 }) (mPc [.int a] D cI cZ []) (QcRead (bI (ixB a 3))) 0 0 (fun _ => False) := by
  refine Met.ofW (cc := cX7_isWay) (maxL := 1) (ret := (some .boolean)) (by decide) rfl ?_
  intro p e s m args below meth c s₁ BB hml hv
  obtain ⟨hargs, hP, hD0, hK⟩ := hv
  have hx := BB.exec
  have hb := BB.bytes
  have hr := BB.returns
  have hts := atoms_spec (ws := wsX7_isWay) BB.pre
  have hown : s.vm.findClass RX7 = some m.cls := findClass_of_methodNamed BB.named
  have hlocks := BB.notSynchronized
  have hcf : CallFix p m c cX7_isWay 1 s args wsX7_isWay RX7 := ⟨hx, hb, hml, hown, hts⟩
  have hD := hD0
  rw [hargs, lg_entry_eq, ← hargs]
  have hl := lv_entry ([.int a]) (n := 1) (Nat.le_of_ble_eq_true rfl)
  generalize (lg_sl ([.int a]) ++ List.replicate (1 - (lg_sl ([.int a])).length) Slot.unset).toArray = ls at hl ⊢
  have hl : lv_has ls 1 [(0, .int a)] := hl
  obtain ⟨Q, hQ⟩ : ∃ Q, Q = MQ below (QcRead (bI (ixB a 3))) args s 0 0 (fun _ => False) := ⟨_, rfl⟩
  rw [← hQ]
  refine lv_iload_n hx hb dX7_isWay_0 rfl (lv_at hl 0 rfl) ?_
  refine lv_iconst (v := nI 2) hx hb dX7_isWay_1 (by decide) ?_
  refine m_rdS (As := [.int a, .int (nI 2)]) (rest := []) (wc := []) hcf (k_X7_isUpTo (l := l) (D := D) (cI := cI) (cZ := cZ) (a := a) (b := 2) (hb9 := by omega)) (va_cwS 2 hts gX7_isWay_X7_isUpTo rfl rfl rfl yd_X7_isUpTo.2 ⟨Nat.le_of_ble_eq_true rfl, Nat.le_of_ble_eq_true rfl⟩) (m_preS hK hP hD [] (by decide) rfl) rfl hl.1 rfl (Nat.le_of_ble_eq_true rfl) dX7_isWay_2 ⟨Nat.zero_le _, Nat.zero_le _⟩ ?_
  rw [hQ]
  exact m_zrd hx hb hr hlocks rfl dX7_isWay_5

theorem yd_X7_isStart : yX7_isStart.cls = RX7 ∧ yX7_isStart.cls ≠ "java/lang/invoke/MethodHandle" ∧ yX7_isStart.cls ≠ "java/lang/invoke/VarHandle" ∧ (parseMethodDescriptor yX7_isStart.desc).map (fun d => d.parameters.length) = some 1 := by decide +kernel
set_option maxHeartbeats 4000000 in
set_option maxRecDepth 100000 in
theorem k_X7_isStart (l : Launch) (D : va_G) (cI cZ : ClassId) (a : Int32)  : Met l yX7_isStart wsX7_isStart ({ frames := 1, cells := 0, slots := 0, locals := 21 }) (mPc [.int a] D cI cZ []) (QcRead (bI (ixB a 20))) 0 0 (fun _ => False) := by
  refine Met.ofW (cc := cX7_isStart) (maxL := 1) (ret := (some .boolean)) (by decide) rfl ?_
  intro p e s m args below meth c s₁ BB hml hv
  obtain ⟨hargs, hP, hD0, hK⟩ := hv
  have hx := BB.exec
  have hb := BB.bytes
  have hr := BB.returns
  have hts := atoms_spec (ws := wsX7_isStart) BB.pre
  have hown : s.vm.findClass RX7 = some m.cls := findClass_of_methodNamed BB.named
  have hlocks := BB.notSynchronized
  have hcf : CallFix p m c cX7_isStart 1 s args wsX7_isStart RX7 := ⟨hx, hb, hml, hown, hts⟩
  have hD := hD0
  rw [hargs, lg_entry_eq, ← hargs]
  have hl := lv_entry ([.int a]) (n := 1) (Nat.le_of_ble_eq_true rfl)
  generalize (lg_sl ([.int a]) ++ List.replicate (1 - (lg_sl ([.int a])).length) Slot.unset).toArray = ls at hl ⊢
  have hl : lv_has ls 1 [(0, .int a)] := hl
  obtain ⟨Q, hQ⟩ : ∃ Q, Q = MQ below (QcRead (bI (ixB a 20))) args s 0 0 (fun _ => False) := ⟨_, rfl⟩
  rw [← hQ]
  refine lv_iload_n hx hb dX7_isStart_0 rfl (lv_at hl 0 rfl) ?_
  refine lv_bipush (v := nI 19) hx hb dX7_isStart_1 (by decide) ?_
  refine m_rdS (As := [.int a, .int (nI 19)]) (rest := []) (wc := []) hcf (k_X7_isUpTo (l := l) (D := D) (cI := cI) (cZ := cZ) (a := a) (b := 19) (hb9 := by omega)) (va_cwS 2 hts gX7_isStart_X7_isUpTo rfl rfl rfl yd_X7_isUpTo.2 ⟨Nat.le_of_ble_eq_true rfl, Nat.le_of_ble_eq_true rfl⟩) (m_preS hK hP hD [] (by decide) rfl) rfl hl.1 rfl (Nat.le_of_ble_eq_true rfl) dX7_isStart_3 ⟨Nat.zero_le _, Nat.zero_le _⟩ ?_
  rw [hQ]
  exact m_zrd hx hb hr hlocks rfl dX7_isStart_6

theorem yd_X7_isLength : yX7_isLength.cls = RX7 ∧ yX7_isLength.cls ≠ "java/lang/invoke/MethodHandle" ∧ yX7_isLength.cls ≠ "java/lang/invoke/VarHandle" ∧ (parseMethodDescriptor yX7_isLength.desc).map (fun d => d.parameters.length) = some 1 := by decide +kernel
set_option maxHeartbeats 4000000 in
set_option maxRecDepth 100000 in
theorem k_X7_isLength (l : Launch) (D : va_G) (cI cZ : ClassId) (a : Int32)  : Met l yX7_isLength wsX7_isLength ({ frames := 0, cells := 0, slots := 0, locals := 0 }) (mPc [.int a] D cI cZ []) (QcRead (bI (lnB a))) 0 0 (fun _ => False) := by
  refine Met.ofW (cc := cX7_isLength) (maxL := 1) (ret := (some .boolean)) (by decide) rfl ?_
  intro p e s m args below meth c s₁ BB hml hv
  obtain ⟨hargs, hP, hD0, hK⟩ := hv
  have hx := BB.exec
  have hb := BB.bytes
  have hr := BB.returns
  have hts := atoms_spec (ws := wsX7_isLength) BB.pre
  have hown : s.vm.findClass RX7 = some m.cls := findClass_of_methodNamed BB.named
  have hlocks := BB.notSynchronized
  have hcf : CallFix p m c cX7_isLength 1 s args wsX7_isLength RX7 := ⟨hx, hb, hml, hown, hts⟩
  have hD := hD0
  rw [hargs, lg_entry_eq, ← hargs]
  have hl := lv_entry ([.int a]) (n := 1) (Nat.le_of_ble_eq_true rfl)
  generalize (lg_sl ([.int a]) ++ List.replicate (1 - (lg_sl ([.int a])).length) Slot.unset).toArray = ls at hl ⊢
  have hl : lv_has ls 1 [(0, .int a)] := hl
  obtain ⟨Q, hQ⟩ : ∃ Q, Q = MQ below (QcRead (bI (lnB a))) args s 0 0 (fun _ => False) := ⟨_, rfl⟩
  rw [← hQ]
  have e1 := nI_toInt (show 1 < 2 ^ 31 by decide)
  have e2 := nI_toInt (show 20 < 2 ^ 31 by decide)
  refine lv_iload_n hx hb dX7_isLength_0 rfl (lv_at hl 0 rfl) ?_
  refine lv_iconst (v := nI 1) hx hb dX7_isLength_1 (by decide) ?_
  refine lv_icmp_lt (tgt := 15) hx hb dX7_isLength_2 (by decide) (fun c_2 => ?_) (fun c_2 => ?_)
  · refine lv_iconst (v := nI 0) hx hb dX7_isLength_15 (by decide) ?_
    rw [hQ]
    exact m_zrd hx hb hr hlocks (b_zero (by simp only [fa_lt, fa_le, tI0] at *; omega)) dX7_isLength_16
  · refine lv_iload_n hx hb dX7_isLength_5 rfl (lv_at hl 0 rfl) ?_
    refine lv_bipush (v := nI 20) hx hb dX7_isLength_6 (by decide) ?_
    refine lv_icmp_gt (tgt := 15) hx hb dX7_isLength_8 (by decide) (fun c_8 => ?_) (fun c_8 => ?_)
    · refine lv_iconst (v := nI 0) hx hb dX7_isLength_15 (by decide) ?_
      rw [hQ]
      exact m_zrd hx hb hr hlocks (b_zero (by simp only [fa_lt, fa_le, tI0] at *; omega)) dX7_isLength_16
    · refine lv_iconst (v := nI 1) hx hb dX7_isLength_11 (by decide) ?_
      refine lv_goto (tgt := 16) hx hb dX7_isLength_12 (by decide) ?_
      rw [hQ]
      exact m_zrd hx hb hr hlocks (b_one (by simp only [fa_lt, fa_le, tI0] at *; omega)) dX7_isLength_16

theorem yd_X7_areRows : yX7_areRows.cls = RX7 ∧ yX7_areRows.cls ≠ "java/lang/invoke/MethodHandle" ∧ yX7_areRows.cls ≠ "java/lang/invoke/VarHandle" ∧ (parseMethodDescriptor yX7_areRows.desc).map (fun d => d.parameters.length) = some 3 := by decide +kernel
set_option maxHeartbeats 4000000 in
set_option maxRecDepth 100000 in
theorem k_X7_areRows (l : Launch) (D : va_G) (cI cZ : ClassId) (a b n : Int32)  : Met l yX7_areRows wsX7_areRows ({ frames := 2, cells := 0, slots := 0, locals := 41 }) (mPc [.int a, .int b, .int n] D cI cZ []) (QcRead (bI (arB a b n))) 0 0 (fun _ => False) := by
  refine Met.ofW (cc := cX7_areRows) (maxL := 3) (ret := (some .boolean)) (by decide) rfl ?_
  intro p e s m args below meth c s₁ BB hml hv
  obtain ⟨hargs, hP, hD0, hK⟩ := hv
  have hx := BB.exec
  have hb := BB.bytes
  have hr := BB.returns
  have hts := atoms_spec (ws := wsX7_areRows) BB.pre
  have hown : s.vm.findClass RX7 = some m.cls := findClass_of_methodNamed BB.named
  have hlocks := BB.notSynchronized
  have hcf : CallFix p m c cX7_areRows 3 s args wsX7_areRows RX7 := ⟨hx, hb, hml, hown, hts⟩
  have hD := hD0
  rw [hargs, lg_entry_eq, ← hargs]
  have hl := lv_entry ([.int a, .int b, .int n]) (n := 3) (Nat.le_of_ble_eq_true rfl)
  generalize (lg_sl ([.int a, .int b, .int n]) ++ List.replicate (3 - (lg_sl ([.int a, .int b, .int n])).length) Slot.unset).toArray = ls at hl ⊢
  have hl : lv_has ls 3 [(0, .int a), (1, .int b), (2, .int n)] := hl
  obtain ⟨Q, hQ⟩ : ∃ Q, Q = MQ below (QcRead (bI (arB a b n))) args s 0 0 (fun _ => False) := ⟨_, rfl⟩
  rw [← hQ]
  refine lv_iload_n hx hb dX7_areRows_0 rfl (lv_at hl 0 rfl) ?_
  refine m_rdS (As := [.int a]) (rest := []) (wc := []) hcf (k_X7_isStart (l := l) (D := D) (cI := cI) (cZ := cZ) (a := a) ) (va_cwS 1 hts gX7_areRows_X7_isStart rfl rfl rfl yd_X7_isStart.2 ⟨Nat.le_of_ble_eq_true rfl, Nat.le_of_ble_eq_true rfl⟩) (m_preS hK hP hD [] (by decide) rfl) rfl hl.1 rfl (Nat.le_of_ble_eq_true rfl) dX7_areRows_1 ⟨Nat.zero_le _, Nat.zero_le _⟩ ?_
  refine m_ifB_eq (tgt := 25) hx hb dX7_areRows_4 (by decide) (fun c_4 => ?_) (fun c_4 => ?_)
  · refine lv_iconst (v := nI 0) hx hb dX7_areRows_25 (by decide) ?_
    rw [hQ]
    exact m_zrd hx hb hr hlocks (bb_zero (by unfold arB; first | (rw [c_4]; rfl) | (rw [c_11, Bool.and_false]; rfl) | (rw [c_18, Bool.and_false]))) dX7_areRows_26
  · refine lv_iload_n hx hb dX7_areRows_7 rfl (lv_at hl 1 rfl) ?_
    refine m_rdS (As := [.int b]) (rest := []) (wc := []) hcf (k_X7_isStart (l := l) (D := D) (cI := cI) (cZ := cZ) (a := b) ) (va_cwS 1 hts gX7_areRows_X7_isStart rfl rfl rfl yd_X7_isStart.2 ⟨Nat.le_of_ble_eq_true rfl, Nat.le_of_ble_eq_true rfl⟩) (m_preS hK hP hD [] (by decide) rfl) rfl hl.1 rfl (Nat.le_of_ble_eq_true rfl) dX7_areRows_8 ⟨Nat.zero_le _, Nat.zero_le _⟩ ?_
    refine m_ifB_eq (tgt := 25) hx hb dX7_areRows_11 (by decide) (fun c_11 => ?_) (fun c_11 => ?_)
    · refine lv_iconst (v := nI 0) hx hb dX7_areRows_25 (by decide) ?_
      rw [hQ]
      exact m_zrd hx hb hr hlocks (bb_zero (by unfold arB; first | (rw [c_4]; rfl) | (rw [c_11, Bool.and_false]; rfl) | (rw [c_18, Bool.and_false]))) dX7_areRows_26
    · refine lv_iload_n hx hb dX7_areRows_14 rfl (lv_at hl 2 rfl) ?_
      refine m_rdS (As := [.int n]) (rest := []) (wc := []) hcf (k_X7_isLength (l := l) (D := D) (cI := cI) (cZ := cZ) (a := n) ) (va_cwS 1 hts gX7_areRows_X7_isLength rfl rfl rfl yd_X7_isLength.2 ⟨Nat.le_of_ble_eq_true rfl, Nat.le_of_ble_eq_true rfl⟩) (m_preS hK hP hD [] (by decide) rfl) rfl hl.1 rfl (Nat.le_of_ble_eq_true rfl) dX7_areRows_15 ⟨Nat.zero_le _, Nat.zero_le _⟩ ?_
      refine m_ifB_eq (tgt := 25) hx hb dX7_areRows_18 (by decide) (fun c_18 => ?_) (fun c_18 => ?_)
      · refine lv_iconst (v := nI 0) hx hb dX7_areRows_25 (by decide) ?_
        rw [hQ]
        exact m_zrd hx hb hr hlocks (bb_zero (by unfold arB; first | (rw [c_4]; rfl) | (rw [c_11, Bool.and_false]; rfl) | (rw [c_18, Bool.and_false]))) dX7_areRows_26
      · refine lv_iconst (v := nI 1) hx hb dX7_areRows_21 (by decide) ?_
        refine lv_goto (tgt := 26) hx hb dX7_areRows_22 (by decide) ?_
        rw [hQ]
        exact m_zrd hx hb hr hlocks (bb_one (arB_iff.mpr ⟨c_4, c_11, c_18⟩)) dX7_areRows_26

theorem yd_X7_say : yX7_say.cls = RX7 ∧ yX7_say.cls ≠ "java/lang/invoke/MethodHandle" ∧ yX7_say.cls ≠ "java/lang/invoke/VarHandle" ∧ (parseMethodDescriptor yX7_say.desc).map (fun d => d.parameters.length) = some 1 := by decide +kernel
set_option maxHeartbeats 4000000 in
set_option maxRecDepth 100000 in
theorem k_X7_say (l : Launch) (D : va_G) (cI cZ : ClassId) (x oc oz oy k0 k1 pa ps o o5 o4 o6 o1 : Nat) (pd : Nat → Nat) (sgn : Int32) (hps : ps ≤ 8) : Met l yX7_say wsX7_say ({ frames := 0, cells := 0, slots := 0, locals := 0 }) (mPc [.ref x, .int sgn] D cI cZ [(x, .inr (7, [.ref oc, .ref oz, .ref oy, .int (nI k0), .int (nI k1), .ref pa, .int (nI ps), .ref o, .ref o5, .ref o4, .ref o6, .ref o1])), (pa, aN cI 8 pd)]) (mQi D (mA [(x, .inr (7, [.ref oc, .ref oz, .ref oy, .int (nI k0), .int (nI k1), .ref pa, .int (nI ps), .ref o, .ref o5, .ref o4, .ref o6, .ref o1])), (pa, aN cI 8 pd)]) (fun (r : Int32) (u : Nat × (Nat → Nat)) => r = sayR ps sgn ∧ (u.1, u.2) = sayS ps pd sgn) (fun (u : Nat × (Nat → Nat)) => [(x, .inr (7, [.ref oc, .ref oz, .ref oy, .int (nI k0), .int (nI k1), .ref pa, .int (nI u.1), .ref o, .ref o5, .ref o4, .ref o6, .ref o1])), (pa, aN cI 8 u.2)])) 0 0 (mA [(x, .inr (7, [.ref oc, .ref oz, .ref oy, .int (nI k0), .int (nI k1), .ref pa, .int (nI ps), .ref o, .ref o5, .ref o4, .ref o6, .ref o1])), (pa, aN cI 8 pd)]) := by
  refine Met.ofW (cc := cX7_say) (maxL := 2) (ret := (some .int)) (by decide) rfl ?_
  intro p e s m args below meth c s₁ BB hml hv
  obtain ⟨hargs, hP, hD0, hK⟩ := hv
  have hx := BB.exec
  have hb := BB.bytes
  have hr := BB.returns
  have hts := atoms_spec (ws := wsX7_say) BB.pre
  have hown : s.vm.findClass RX7 = some m.cls := findClass_of_methodNamed BB.named
  have hlocks := BB.notSynchronized
  have hcf : CallFix p m c cX7_say 2 s args wsX7_say RX7 := ⟨hx, hb, hml, hown, hts⟩
  obtain ⟨A, hAe⟩ : ∃ A, A = mA [(x, .inr (7, [.ref oc, .ref oz, .ref oy, .int (nI k0), .int (nI k1), .ref pa, .int (nI ps), .ref o, .ref o5, .ref o4, .ref o6, .ref o1])), (pa, aN cI 8 pd)] := ⟨_, rfl⟩
  have hD : va_D A [(x, .inr (7, [.ref oc, .ref oz, .ref oy, .int (nI k0), .int (nI k1), .ref pa, .int (nI ps), .ref o, .ref o5, .ref o4, .ref o6, .ref o1])), (pa, aN cI 8 pd)] := ⟨hD0.1, fun k q h => by rw [hAe]; exact ⟨k, q.2, h⟩⟩
  have hS : va_S A s.heap s.heap [] := va_S.rf
  rw [← hAe]
  rw [hargs, lg_entry_eq, ← hargs]
  have hl := lv_entry ([.ref x, .int sgn]) (n := 2) (Nat.le_of_ble_eq_true rfl)
  generalize (lg_sl ([.ref x, .int sgn]) ++ List.replicate (2 - (lg_sl ([.ref x, .int sgn])).length) Slot.unset).toArray = ls at hl ⊢
  have hl : lv_has ls 2 [(0, .ref x), (1, .int sgn)] := hl
  obtain ⟨Q, hQ⟩ : ∃ Q, Q = MQ below (mQi D A (fun (r : Int32) (u : Nat × (Nat → Nat)) => r = sayR ps sgn ∧ (u.1, u.2) = sayS ps pd sgn) (fun (u : Nat × (Nat → Nat)) => [(x, .inr (7, [.ref oc, .ref oz, .ref oy, .int (nI k0), .int (nI k1), .ref pa, .int (nI u.1), .ref o, .ref o5, .ref o4, .ref o6, .ref o1])), (pa, aN cI 8 u.2)])) args s 0 0 A := ⟨_, rfl⟩
  rw [← hQ]
  have i_X7 : ∀ w ∈ u_ws RX7 TX7 12, w ∈ wsX7_say := by decide +kernel
  have f_67 := hts (.fieldLink RX7 67 "SameAgain" "padSize" "I") (by decide +kernel)
  have f_22 := hts (.fieldLink RX7 22 "SameAgain" "pad" "[I") (by decide +kernel)
  have e1 := nI_toInt (show 33 < 2 ^ 31 by decide)
  have e2 := nI_toInt (show 126 < 2 ^ 31 by decide)
  refine lv_iload_n hx hb dX7_say_0 rfl (lv_at hl 1 rfl) ?_
  refine lv_bipush (v := nI 33) hx hb dX7_say_1 (by decide) ?_
  refine lv_icmp_lt (tgt := 12) hx hb dX7_say_3 (by decide) (fun c_3 => ?_) (fun c_3 => ?_)
  · have K9 : sgB sgn = false := decide_eq_false (by simp only [fa_lt, fa_le] at c_3; omega)
    refine lv_bipush (v := (-2)) hx hb dX7_say_12 (by decide) ?_
    rw [hQ]
    exact m_iwr hx hb hr hlocks (ps, pd) (⟨by unfold sayR; rw [if_neg (by rw [K9]; decide)], by unfold sayS; rw [if_neg (fun h => by rw [K9] at h; cases h.1)]⟩) hP hS dX7_say_14
  · refine lv_iload_n hx hb dX7_say_6 rfl (lv_at hl 1 rfl) ?_
    refine lv_bipush (v := nI 126) hx hb dX7_say_7 (by decide) ?_
    refine lv_icmp_le (tgt := 15) hx hb dX7_say_9 (by decide) (fun c_9 => ?_) (fun c_9 => ?_)
    · have K9 : sgB sgn = true := decide_eq_true (by simp only [fa_lt, fa_le] at *; omega)
      obtain ⟨e_s, i_s, j_s⟩ := sgB_cN K9
      have hl : lv_has ls 2 [(0, .ref x), (1, .int (nI (cN sgn)))] := by rw [← e_s]; exact hl
      refine lv_aload_n hx hb dX7_say_15 rfl (lv_at hl 0 rfl) ?_
      refine va_get (D := D) (ci := 7) (v := .int (nI ps)) (C := RX7) (T := TX7) (N := 12) hx hb hts i_X7 hown hK.1 hP 0 rfl rfl 6 (by decide) f_67 (fun _ h9 => h9) rfl dX7_say_16 ?_
      refine m_if_lt (tgt := 31) hx hb dX7_say_19 (by decide) (by omega) ?_
      refine lv_aload_n hx hb dX7_say_22 rfl (lv_at hl 0 rfl) ?_
      refine va_get (D := D) (ci := 7) (v := .int (nI ps)) (C := RX7) (T := TX7) (N := 12) hx hb hts i_X7 hown hK.1 hP 0 rfl rfl 6 (by decide) f_67 (fun _ h9 => h9) rfl dX7_say_23 ?_
      refine lv_bipush (v := nI 8) hx hb dX7_say_26 (by decide) ?_
      refine m_cmp_lt (tgt := 34) hx hb dX7_say_28 (by decide) (by omega) (by omega) (fun c_28 => ?_) (fun c_28 => ?_)
      · refine lv_aload_n hx hb dX7_say_34 rfl (lv_at hl 0 rfl) ?_
        refine va_get (D := D) (ci := 7) (v := .ref pa) (C := RX7) (T := TX7) (N := 12) hx hb hts i_X7 hown hK.1 hP 0 rfl rfl 5 (by decide) f_22 (fun _ h9 => h9) rfl dX7_say_35 ?_
        refine lv_aload_n hx hb dX7_say_38 rfl (lv_at hl 0 rfl) ?_
        refine va_get (D := D) (ci := 7) (v := .int (nI ps)) (C := RX7) (T := TX7) (N := 12) hx hb hts i_X7 hown hK.1 hP 0 rfl rfl 6 (by decide) f_67 (fun _ h9 => h9) rfl dX7_say_39 ?_
        refine lv_iload_n hx hb dX7_say_42 rfl (lv_at hl 1 rfl) ?_
        refine m_ast hx hb hK hP hD hS 1 rfl (by decide) (by omega) dX7_say_43 (ws' := [(x, .inr (7, [.ref oc, .ref oz, .ref oy, .int (nI k0), .int (nI k1), .ref pa, .int (nI ps), .ref o, .ref o5, .ref o4, .ref o6, .ref o1])), (pa, aN cI 8 (upN pd ps (cN sgn)))]) rfl (fun H locs hP hD hS => ?_)
        refine lv_aload_n hx hb dX7_say_44 rfl (lv_at hl 0 rfl) ?_
        refine lv_dup hx hb dX7_say_45 rfl ?_
        refine va_get (D := D) (ci := 7) (v := .int (nI ps)) (C := RX7) (T := TX7) (N := 12) hx hb hts i_X7 hown hK.1 hP 0 rfl rfl 6 (by decide) f_67 (fun _ h9 => h9) rfl dX7_say_46 ?_
        refine lv_iconst (v := nI 1) hx hb dX7_say_49 (by decide) ?_
        refine m_add hx hb dX7_say_50 ?_
        refine va_put (D := D) (ci := 7) (v := .int (nI (ps + 1))) (ty := .int) (C := RX7) (T := TX7) (N := 12) hx hb hts i_X7 tyX7 tyX7_ok nmX7 hown hK.1 hP hD hS 0 rfl rfl 6 (by decide) f_67 (fun _ h9 => h9) rfl (by decide +kernel) rfl rfl (Nat.le_of_ble_eq_true rfl) dX7_say_51 (fun H locs hP hD hS => ?_)
        have hP : va_P D vwCl [(x, .inr (7, [.ref oc, .ref oz, .ref oy, .int (nI k0), .int (nI k1), .ref pa, .int (nI (ps + 1)), .ref o, .ref o5, .ref o4, .ref o6, .ref o1])), (pa, aN cI 8 (upN pd ps (cN sgn)))] H := hP
        have hD : va_D A [(x, .inr (7, [.ref oc, .ref oz, .ref oy, .int (nI k0), .int (nI k1), .ref pa, .int (nI (ps + 1)), .ref o, .ref o5, .ref o4, .ref o6, .ref o1])), (pa, aN cI 8 (upN pd ps (cN sgn)))] := hD
        refine lv_aload_n hx hb dX7_say_54 rfl (lv_at hl 0 rfl) ?_
        refine va_get (D := D) (ci := 7) (v := .int (nI (ps + 1))) (C := RX7) (T := TX7) (N := 12) hx hb hts i_X7 hown hK.1 hP 0 rfl rfl 6 (by decide) f_67 (fun _ h9 => h9) rfl dX7_say_55 ?_
        rw [hQ]
        exact m_iwr hx hb hr hlocks (ps + 1, upN pd ps (cN sgn)) (⟨by unfold sayR; rw [if_pos K9, if_pos c_28], by unfold sayS; rw [if_pos ⟨K9, c_28⟩]⟩) hP hS dX7_say_58
      · refine lv_bipush (v := (-4)) hx hb dX7_say_31 (by decide) ?_
        rw [hQ]
        exact m_iwr hx hb hr hlocks (ps, pd) (⟨by unfold sayR; rw [if_pos K9, if_neg (by omega)], by unfold sayS; rw [if_neg (by omega)]⟩) hP hS dX7_say_33
    · have K9 : sgB sgn = false := decide_eq_false (by simp only [fa_lt, fa_le] at *; omega)
      refine lv_bipush (v := (-2)) hx hb dX7_say_12 (by decide) ?_
      rw [hQ]
      exact m_iwr hx hb hr hlocks (ps, pd) (⟨by unfold sayR; rw [if_neg (by rw [K9]; decide)], by unfold sayS; rw [if_neg (fun h => by rw [K9] at h; cases h.1)]⟩) hP hS dX7_say_14

theorem yd_X7_wipe : yX7_wipe.cls = RX7 ∧ yX7_wipe.cls ≠ "java/lang/invoke/MethodHandle" ∧ yX7_wipe.cls ≠ "java/lang/invoke/VarHandle" ∧ (parseMethodDescriptor yX7_wipe.desc).map (fun d => d.parameters.length) = some 0 := by decide +kernel
set_option maxHeartbeats 4000000 in
set_option maxRecDepth 100000 in
theorem k_X7_wipe (l : Launch) (D : va_G) (cI cZ : ClassId) (x oc oz oy k0 k1 pa ps o o5 o4 o6 o1 : Nat)  : Met l yX7_wipe wsX7_wipe ({ frames := 0, cells := 0, slots := 0, locals := 0 }) (mPc [.ref x] D cI cZ [(x, .inr (7, [.ref oc, .ref oz, .ref oy, .int (nI k0), .int (nI k1), .ref pa, .int (nI ps), .ref o, .ref o5, .ref o4, .ref o6, .ref o1]))]) (mQi D (mA [(x, .inr (7, [.ref oc, .ref oz, .ref oy, .int (nI k0), .int (nI k1), .ref pa, .int (nI ps), .ref o, .ref o5, .ref o4, .ref o6, .ref o1]))]) (fun (r : Int32) (u : Unit) => r = nI ps) (fun (u : Unit) => [(x, .inr (7, [.ref oc, .ref oz, .ref oy, .int (nI k0), .int (nI k1), .ref pa, .int (nI 0), .ref o, .ref o5, .ref o4, .ref o6, .ref o1]))])) 0 0 (mA [(x, .inr (7, [.ref oc, .ref oz, .ref oy, .int (nI k0), .int (nI k1), .ref pa, .int (nI ps), .ref o, .ref o5, .ref o4, .ref o6, .ref o1]))]) := by
  refine Met.ofW (cc := cX7_wipe) (maxL := 2) (ret := (some .int)) (by decide) rfl ?_
  intro p e s m args below meth c s₁ BB hml hv
  obtain ⟨hargs, hP, hD0, hK⟩ := hv
  have hx := BB.exec
  have hb := BB.bytes
  have hr := BB.returns
  have hts := atoms_spec (ws := wsX7_wipe) BB.pre
  have hown : s.vm.findClass RX7 = some m.cls := findClass_of_methodNamed BB.named
  have hlocks := BB.notSynchronized
  have hcf : CallFix p m c cX7_wipe 2 s args wsX7_wipe RX7 := ⟨hx, hb, hml, hown, hts⟩
  obtain ⟨A, hAe⟩ : ∃ A, A = mA [(x, .inr (7, [.ref oc, .ref oz, .ref oy, .int (nI k0), .int (nI k1), .ref pa, .int (nI ps), .ref o, .ref o5, .ref o4, .ref o6, .ref o1]))] := ⟨_, rfl⟩
  have hD : va_D A [(x, .inr (7, [.ref oc, .ref oz, .ref oy, .int (nI k0), .int (nI k1), .ref pa, .int (nI ps), .ref o, .ref o5, .ref o4, .ref o6, .ref o1]))] := ⟨hD0.1, fun k q h => by rw [hAe]; exact ⟨k, q.2, h⟩⟩
  have hS : va_S A s.heap s.heap [] := va_S.rf
  rw [← hAe]
  rw [hargs, lg_entry_eq, ← hargs]
  have hl := lv_entry ([.ref x]) (n := 2) (Nat.le_of_ble_eq_true rfl)
  generalize (lg_sl ([.ref x]) ++ List.replicate (2 - (lg_sl ([.ref x])).length) Slot.unset).toArray = ls at hl ⊢
  have hl : lv_has ls 2 [(0, .ref x)] := hl
  obtain ⟨Q, hQ⟩ : ∃ Q, Q = MQ below (mQi D A (fun (r : Int32) (u : Unit) => r = nI ps) (fun (u : Unit) => [(x, .inr (7, [.ref oc, .ref oz, .ref oy, .int (nI k0), .int (nI k1), .ref pa, .int (nI 0), .ref o, .ref o5, .ref o4, .ref o6, .ref o1]))])) args s 0 0 A := ⟨_, rfl⟩
  rw [← hQ]
  have i_X7 : ∀ w ∈ u_ws RX7 TX7 12, w ∈ wsX7_wipe := by decide +kernel
  have f_67 := hts (.fieldLink RX7 67 "SameAgain" "padSize" "I") (by decide +kernel)
  refine lv_aload_n hx hb dX7_wipe_0 rfl (lv_at hl 0 rfl) ?_
  refine va_get (D := D) (ci := 7) (v := .int (nI ps)) (C := RX7) (T := TX7) (N := 12) hx hb hts i_X7 hown hK.1 hP 0 rfl rfl 6 (by decide) f_67 (fun _ h9 => h9) rfl dX7_wipe_1 ?_
  refine lv_istore_n (lv' := [(1, .int (nI ps)), (0, .ref x)]) hx hb dX7_wipe_4 rfl hl (by decide) rfl (fun ls hl => ?_)
  refine lv_aload_n hx hb dX7_wipe_5 rfl (lv_at hl 1 rfl) ?_
  refine lv_iconst (v := nI 0) hx hb dX7_wipe_6 (by decide) ?_
  refine va_put (D := D) (ci := 7) (v := .int (nI 0)) (ty := .int) (C := RX7) (T := TX7) (N := 12) hx hb hts i_X7 tyX7 tyX7_ok nmX7 hown hK.1 hP hD hS 0 rfl rfl 6 (by decide) f_67 (fun _ h9 => h9) rfl (by decide +kernel) rfl rfl (Nat.le_of_ble_eq_true rfl) dX7_wipe_7 (fun H locs hP hD hS => ?_)
  have hP : va_P D vwCl [(x, .inr (7, [.ref oc, .ref oz, .ref oy, .int (nI k0), .int (nI k1), .ref pa, .int (nI 0), .ref o, .ref o5, .ref o4, .ref o6, .ref o1]))] H := hP
  have hD : va_D A [(x, .inr (7, [.ref oc, .ref oz, .ref oy, .int (nI k0), .int (nI k1), .ref pa, .int (nI 0), .ref o, .ref o5, .ref o4, .ref o6, .ref o1]))] := hD
  refine lv_iload_n hx hb dX7_wipe_10 rfl (lv_at hl 0 rfl) ?_
  rw [hQ]
  exact m_iwr hx hb hr hlocks () (rfl) hP hS dX7_wipe_11

theorem yd_X7_line : yX7_line.cls = RX7 ∧ yX7_line.cls ≠ "java/lang/invoke/MethodHandle" ∧ yX7_line.cls ≠ "java/lang/invoke/VarHandle" ∧ (parseMethodDescriptor yX7_line.desc).map (fun d => d.parameters.length) = some 0 := by decide +kernel
set_option maxHeartbeats 4000000 in
set_option maxRecDepth 100000 in
theorem k_X7_line (l : Launch) (D : va_G) (cI cZ : ClassId) (x oc oz oy k0 k1 pa ps o o5 o4 o6 o1 : Nat) (pd : Nat → Nat) (a1 a2 nl nv : Nat) (z g : Nat → Nat) (hnl : nl ≤ 20) (hnv : nv ≤ 4) (hps : ps ≤ 8) : Met l yX7_line wsX7_line ({ frames := 3, cells := 0, slots := 0, locals := 96 }) (mPc [.ref x] D cI cZ [(x, .inr (7, [.ref oc, .ref oz, .ref oy, .int (nI k0), .int (nI k1), .ref pa, .int (nI ps), .ref o, .ref o5, .ref o4, .ref o6, .ref o1])), (pa, aN cI 8 pd), (oc, .inr (0, [.ref a1, .ref a2, .int (nI nl), .int (nI nv)])), (a1, aN cI 640 g), (a2, aN cI 80 z)]) (mQi D (mA [(x, .inr (7, [.ref oc, .ref oz, .ref oy, .int (nI k0), .int (nI k1), .ref pa, .int (nI ps), .ref o, .ref o5, .ref o4, .ref o6, .ref o1])), (pa, aN cI 8 pd), (oc, .inr (0, [.ref a1, .ref a2, .int (nI nl), .int (nI nv)])), (a1, aN cI 640 g), (a2, aN cI 80 z)]) (fun (r : Int32) (u : Nat × (Nat → Nat) × (Nat → Nat) × Nat) => r = lineR nl ps ∧ (u.1, u.2.1, u.2.2.1, u.2.2.2) = lineS nl nv z g ps pd) (fun (u : Nat × (Nat → Nat) × (Nat → Nat) × Nat) => [(x, .inr (7, [.ref oc, .ref oz, .ref oy, .int (nI k0), .int (nI k1), .ref pa, .int (nI u.2.2.2), .ref o, .ref o5, .ref o4, .ref o6, .ref o1])), (pa, aN cI 8 pd), (oc, .inr (0, [.ref a1, .ref a2, .int (nI u.1), .int (nI nv)])), (a1, aN cI 640 u.2.2.1), (a2, aN cI 80 u.2.1)])) 0 0 (mA [(x, .inr (7, [.ref oc, .ref oz, .ref oy, .int (nI k0), .int (nI k1), .ref pa, .int (nI ps), .ref o, .ref o5, .ref o4, .ref o6, .ref o1])), (pa, aN cI 8 pd), (oc, .inr (0, [.ref a1, .ref a2, .int (nI nl), .int (nI nv)])), (a1, aN cI 640 g), (a2, aN cI 80 z)]) := by
  refine Met.ofW (cc := cX7_line) (maxL := 2) (ret := (some .int)) (by decide) rfl ?_
  intro p e s m args below meth c s₁ BB hml hv
  obtain ⟨hargs, hP, hD0, hK⟩ := hv
  have hx := BB.exec
  have hb := BB.bytes
  have hr := BB.returns
  have hts := atoms_spec (ws := wsX7_line) BB.pre
  have hown : s.vm.findClass RX7 = some m.cls := findClass_of_methodNamed BB.named
  have hlocks := BB.notSynchronized
  have hcf : CallFix p m c cX7_line 2 s args wsX7_line RX7 := ⟨hx, hb, hml, hown, hts⟩
  obtain ⟨A, hAe⟩ : ∃ A, A = mA [(x, .inr (7, [.ref oc, .ref oz, .ref oy, .int (nI k0), .int (nI k1), .ref pa, .int (nI ps), .ref o, .ref o5, .ref o4, .ref o6, .ref o1])), (pa, aN cI 8 pd), (oc, .inr (0, [.ref a1, .ref a2, .int (nI nl), .int (nI nv)])), (a1, aN cI 640 g), (a2, aN cI 80 z)] := ⟨_, rfl⟩
  have hD : va_D A [(x, .inr (7, [.ref oc, .ref oz, .ref oy, .int (nI k0), .int (nI k1), .ref pa, .int (nI ps), .ref o, .ref o5, .ref o4, .ref o6, .ref o1])), (pa, aN cI 8 pd), (oc, .inr (0, [.ref a1, .ref a2, .int (nI nl), .int (nI nv)])), (a1, aN cI 640 g), (a2, aN cI 80 z)] := ⟨hD0.1, fun k q h => by rw [hAe]; exact ⟨k, q.2, h⟩⟩
  have hS : va_S A s.heap s.heap [] := va_S.rf
  rw [← hAe]
  rw [hargs, lg_entry_eq, ← hargs]
  have hl := lv_entry ([.ref x]) (n := 2) (Nat.le_of_ble_eq_true rfl)
  generalize (lg_sl ([.ref x]) ++ List.replicate (2 - (lg_sl ([.ref x])).length) Slot.unset).toArray = ls at hl ⊢
  have hl : lv_has ls 2 [(0, .ref x)] := hl
  obtain ⟨Q, hQ⟩ : ∃ Q, Q = MQ below (mQi D A (fun (r : Int32) (u : Nat × (Nat → Nat) × (Nat → Nat) × Nat) => r = lineR nl ps ∧ (u.1, u.2.1, u.2.2.1, u.2.2.2) = lineS nl nv z g ps pd) (fun (u : Nat × (Nat → Nat) × (Nat → Nat) × Nat) => [(x, .inr (7, [.ref oc, .ref oz, .ref oy, .int (nI k0), .int (nI k1), .ref pa, .int (nI u.2.2.2), .ref o, .ref o5, .ref o4, .ref o6, .ref o1])), (pa, aN cI 8 pd), (oc, .inr (0, [.ref a1, .ref a2, .int (nI u.1), .int (nI nv)])), (a1, aN cI 640 u.2.2.1), (a2, aN cI 80 u.2.1)])) args s 0 0 A := ⟨_, rfl⟩
  rw [← hQ]
  have i_X7 : ∀ w ∈ u_ws RX7 TX7 12, w ∈ wsX7_line := by decide +kernel
  have f_10 := hts (.fieldLink RX7 10 "SameAgain" "code" "LSameAgain$Code;") (by decide +kernel)
  have f_67 := hts (.fieldLink RX7 67 "SameAgain" "padSize" "I") (by decide +kernel)
  have f_22 := hts (.fieldLink RX7 22 "SameAgain" "pad" "[I") (by decide +kernel)
  refine lv_aload_n hx hb dX7_line_0 rfl (lv_at hl 0 rfl) ?_
  refine va_get (D := D) (ci := 7) (v := .ref oc) (C := RX7) (T := TX7) (N := 12) hx hb hts i_X7 hown hK.1 hP 0 rfl rfl 0 (by decide) f_10 (fun _ h9 => h9) rfl dX7_line_1 ?_
  refine m_rdV (As := []) (rest := []) (wc := [(oc, .inr (0, [.ref a1, .ref a2, .int (nI nl), .int (nI nv)])), (a1, aN cI 640 g), (a2, aN cI 80 z)]) hcf (k_X0_lines (l := l) (D := D) (cI := cI) (cZ := cZ) (o := oc) (a1 := a1) (a2 := a2) (nl := nl) (nv := nv) (g := g) (z := z) ) (cwV 0 hts gX7_line_X0_lines rfl rfl rfl yd_X0_lines ⟨Nat.le_of_ble_eq_true rfl, Nat.le_of_ble_eq_true rfl⟩) (m_preV hK hP hD [2, 3, 4] (by decide) rfl rfl rfl) rfl hl.1 rfl (Nat.le_of_ble_eq_true rfl) dX7_line_4 ⟨Nat.zero_le _, Nat.zero_le _⟩ ?_
  refine lv_bipush (v := nI 20) hx hb dX7_line_7 (by decide) ?_
  refine m_cmp_lt (tgt := 15) hx hb dX7_line_9 (by decide) (by omega) (by omega) (fun c_9 => ?_) (fun c_9 => ?_)
  · refine lv_aload_n hx hb dX7_line_15 rfl (lv_at hl 0 rfl) ?_
    refine va_get (D := D) (ci := 7) (v := .int (nI ps)) (C := RX7) (T := TX7) (N := 12) hx hb hts i_X7 hown hK.1 hP 0 rfl rfl 6 (by decide) f_67 (fun _ h9 => h9) rfl dX7_line_16 ?_
    refine m_if_ne (tgt := 25) hx hb dX7_line_19 (by decide) (by omega) (fun c_19 => ?_) (fun c_19 => ?_)
    · refine lv_aload_n hx hb dX7_line_25 rfl (lv_at hl 0 rfl) ?_
      refine va_get (D := D) (ci := 7) (v := .ref oc) (C := RX7) (T := TX7) (N := 12) hx hb hts i_X7 hown hK.1 hP 0 rfl rfl 0 (by decide) f_10 (fun _ h9 => h9) rfl dX7_line_26 ?_
      refine m_rdV (As := []) (rest := []) (wc := [(oc, .inr (0, [.ref a1, .ref a2, .int (nI nl), .int (nI nv)])), (a1, aN cI 640 g), (a2, aN cI 80 z)]) hcf (k_X0_lines (l := l) (D := D) (cI := cI) (cZ := cZ) (o := oc) (a1 := a1) (a2 := a2) (nl := nl) (nv := nv) (g := g) (z := z) ) (cwV 0 hts gX7_line_X0_lines rfl rfl rfl yd_X0_lines ⟨Nat.le_of_ble_eq_true rfl, Nat.le_of_ble_eq_true rfl⟩) (m_preV hK hP hD [2, 3, 4] (by decide) rfl rfl rfl) rfl hl.1 rfl (Nat.le_of_ble_eq_true rfl) dX7_line_29 ⟨Nat.zero_le _, Nat.zero_le _⟩ ?_
      refine lv_istore_n (lv' := [(1, .int (nI nl)), (0, .ref x)]) hx hb dX7_line_32 rfl hl (by decide) rfl (fun ls hl => ?_)
      refine lv_aload_n hx hb dX7_line_33 rfl (lv_at hl 1 rfl) ?_
      refine va_get (D := D) (ci := 7) (v := .ref oc) (C := RX7) (T := TX7) (N := 12) hx hb hts i_X7 hown hK.1 hP 0 rfl rfl 0 (by decide) f_10 (fun _ h9 => h9) rfl dX7_line_34 ?_
      refine lv_aload_n hx hb dX7_line_37 rfl (lv_at hl 1 rfl) ?_
      refine va_get (D := D) (ci := 7) (v := .ref pa) (C := RX7) (T := TX7) (N := 12) hx hb hts i_X7 hown hK.1 hP 0 rfl rfl 5 (by decide) f_22 (fun _ h9 => h9) rfl dX7_line_38 ?_
      refine lv_aload_n hx hb dX7_line_41 rfl (lv_at hl 1 rfl) ?_
      refine va_get (D := D) (ci := 7) (v := .int (nI ps)) (C := RX7) (T := TX7) (N := 12) hx hb hts i_X7 hown hK.1 hP 0 rfl rfl 6 (by decide) f_67 (fun _ h9 => h9) rfl dX7_line_42 ?_
      refine m_wvV (As := [.ref pa, .int (nI ps)]) (rest := []) (wc := [(oc, .inr (0, [.ref a1, .ref a2, .int (nI nl), .int (nI nv)])), (a1, aN cI 640 g), (a2, aN cI 80 z), (pa, aN cI 8 pd)]) hcf (k_X0_addLine (l := l) (D := D) (cI := cI) (cZ := cZ) (pa := pa) (n := ps) (o := oc) (a1 := a1) (a2 := a2) (nl := nl) (nv := nv) (g := g) (z := z) (pd := pd) (hnl := by omega) (hnv := hnv) (hn8 := hps)) (cwV 2 hts gX7_line_X0_addLine rfl rfl rfl yd_X0_addLine ⟨Nat.le_of_ble_eq_true rfl, Nat.le_of_ble_eq_true rfl⟩) hK hP hD hS [2, 3, 4, 1] (by decide) rfl rfl rfl rfl hl.1 rfl (Nat.le_of_ble_eq_true rfl) dX7_line_45 ⟨Nat.zero_le _, Nat.zero_le _⟩ (fun _ => rfl) (fun (u : Unit) => [(x, .inr (7, [.ref oc, .ref oz, .ref oy, .int (nI k0), .int (nI k1), .ref pa, .int (nI ps), .ref o, .ref o5, .ref o4, .ref o6, .ref o1])), (pa, aN cI 8 pd), (oc, .inr (0, [.ref a1, .ref a2, .int (nI (nl + 1)), .int (nI nv)])), (a1, aN cI 640 (wrG pd g nl ps nv)), (a2, aN cI 80 (wrZ z nl ps nv))]) (fun _ => rfl) (fun u H locs hp_45 hP hD hS => ?_)
      have hP : va_P D vwCl [(x, .inr (7, [.ref oc, .ref oz, .ref oy, .int (nI k0), .int (nI k1), .ref pa, .int (nI ps), .ref o, .ref o5, .ref o4, .ref o6, .ref o1])), (pa, aN cI 8 pd), (oc, .inr (0, [.ref a1, .ref a2, .int (nI (nl + 1)), .int (nI nv)])), (a1, aN cI 640 (wrG pd g nl ps nv)), (a2, aN cI 80 (wrZ z nl ps nv))] H := hP
      have hD : va_D A [(x, .inr (7, [.ref oc, .ref oz, .ref oy, .int (nI k0), .int (nI k1), .ref pa, .int (nI ps), .ref o, .ref o5, .ref o4, .ref o6, .ref o1])), (pa, aN cI 8 pd), (oc, .inr (0, [.ref a1, .ref a2, .int (nI (nl + 1)), .int (nI nv)])), (a1, aN cI 640 (wrG pd g nl ps nv)), (a2, aN cI 80 (wrZ z nl ps nv))] := hD
      refine lv_aload_n hx hb dX7_line_48 rfl (lv_at hl 1 rfl) ?_
      refine lv_iconst (v := nI 0) hx hb dX7_line_49 (by decide) ?_
      refine va_put (D := D) (ci := 7) (v := .int (nI 0)) (ty := .int) (C := RX7) (T := TX7) (N := 12) hx hb hts i_X7 tyX7 tyX7_ok nmX7 hown hK.1 hP hD hS 0 rfl rfl 6 (by decide) f_67 (fun _ h9 => h9) rfl (by decide +kernel) rfl rfl (Nat.le_of_ble_eq_true rfl) dX7_line_50 (fun H locs hP hD hS => ?_)
      have hP : va_P D vwCl [(x, .inr (7, [.ref oc, .ref oz, .ref oy, .int (nI k0), .int (nI k1), .ref pa, .int (nI 0), .ref o, .ref o5, .ref o4, .ref o6, .ref o1])), (pa, aN cI 8 pd), (oc, .inr (0, [.ref a1, .ref a2, .int (nI (nl + 1)), .int (nI nv)])), (a1, aN cI 640 (wrG pd g nl ps nv)), (a2, aN cI 80 (wrZ z nl ps nv))] H := hP
      have hD : va_D A [(x, .inr (7, [.ref oc, .ref oz, .ref oy, .int (nI k0), .int (nI k1), .ref pa, .int (nI 0), .ref o, .ref o5, .ref o4, .ref o6, .ref o1])), (pa, aN cI 8 pd), (oc, .inr (0, [.ref a1, .ref a2, .int (nI (nl + 1)), .int (nI nv)])), (a1, aN cI 640 (wrG pd g nl ps nv)), (a2, aN cI 80 (wrZ z nl ps nv))] := hD
      refine lv_iload_n hx hb dX7_line_53 rfl (lv_at hl 0 rfl) ?_
      rw [hQ]
      exact m_iwr hx hb hr hlocks (nl + 1, wrZ z nl ps nv, wrG pd g nl ps nv, 0) (⟨by unfold lineR; rw [if_pos c_9, if_neg c_19], by unfold lineS; rw [if_pos ⟨c_9, c_19⟩]⟩) hP hS dX7_line_54
    · refine lv_bipush (v := (-5)) hx hb dX7_line_22 (by decide) ?_
      rw [hQ]
      exact m_iwr hx hb hr hlocks (nl, z, g, ps) (⟨by unfold lineR; rw [if_pos c_9, if_pos c_19], by unfold lineS; rw [if_neg (by omega)]⟩) hP hS dX7_line_24
  · refine lv_bipush (v := (-4)) hx hb dX7_line_12 (by decide) ?_
    rw [hQ]
    exact m_iwr hx hb hr hlocks (nl, z, g, ps) (⟨by unfold lineR; rw [if_neg (by omega)], by unfold lineS; rw [if_neg (by omega)]⟩) hP hS dX7_line_14

theorem yd_X7_change : yX7_change.cls = RX7 ∧ yX7_change.cls ≠ "java/lang/invoke/MethodHandle" ∧ yX7_change.cls ≠ "java/lang/invoke/VarHandle" ∧ (parseMethodDescriptor yX7_change.desc).map (fun d => d.parameters.length) = some 1 := by decide +kernel
set_option maxHeartbeats 4000000 in
set_option maxRecDepth 100000 in
theorem k_X7_change (l : Launch) (D : va_G) (cI cZ : ClassId) (x oc oz oy k0 k1 pa ps o o5 o4 o6 o1 : Nat) (pd : Nat → Nat) (a1 a2 nl nv : Nat) (z g : Nat → Nat) (li : Int32) (hnl : nl ≤ 20) (hnv : nv ≤ 4) (hnv1 : 1 ≤ nv) (hps : ps ≤ 8) : Met l yX7_change wsX7_change ({ frames := 2, cells := 0, slots := 0, locals := 73 }) (mPc [.ref x, .int li] D cI cZ [(x, .inr (7, [.ref oc, .ref oz, .ref oy, .int (nI k0), .int (nI k1), .ref pa, .int (nI ps), .ref o, .ref o5, .ref o4, .ref o6, .ref o1])), (pa, aN cI 8 pd), (oc, .inr (0, [.ref a1, .ref a2, .int (nI nl), .int (nI nv)])), (a1, aN cI 640 g), (a2, aN cI 80 z)]) (mQi D (mA [(x, .inr (7, [.ref oc, .ref oz, .ref oy, .int (nI k0), .int (nI k1), .ref pa, .int (nI ps), .ref o, .ref o5, .ref o4, .ref o6, .ref o1])), (pa, aN cI 8 pd), (oc, .inr (0, [.ref a1, .ref a2, .int (nI nl), .int (nI nv)])), (a1, aN cI 640 g), (a2, aN cI 80 z)]) (fun (r : Int32) (u : (Nat → Nat) × (Nat → Nat) × Nat) => r = chgR nl ps li ∧ (u.1, u.2.1, u.2.2) = chgS nl nv z g ps pd li) (fun (u : (Nat → Nat) × (Nat → Nat) × Nat) => [(x, .inr (7, [.ref oc, .ref oz, .ref oy, .int (nI k0), .int (nI k1), .ref pa, .int (nI u.2.2), .ref o, .ref o5, .ref o4, .ref o6, .ref o1])), (pa, aN cI 8 pd), (oc, .inr (0, [.ref a1, .ref a2, .int (nI nl), .int (nI nv)])), (a1, aN cI 640 u.2.1), (a2, aN cI 80 u.1)])) 0 0 (mA [(x, .inr (7, [.ref oc, .ref oz, .ref oy, .int (nI k0), .int (nI k1), .ref pa, .int (nI ps), .ref o, .ref o5, .ref o4, .ref o6, .ref o1])), (pa, aN cI 8 pd), (oc, .inr (0, [.ref a1, .ref a2, .int (nI nl), .int (nI nv)])), (a1, aN cI 640 g), (a2, aN cI 80 z)]) := by
  refine Met.ofW (cc := cX7_change) (maxL := 2) (ret := (some .int)) (by decide) rfl ?_
  intro p e s m args below meth c s₁ BB hml hv
  obtain ⟨hargs, hP, hD0, hK⟩ := hv
  have hx := BB.exec
  have hb := BB.bytes
  have hr := BB.returns
  have hts := atoms_spec (ws := wsX7_change) BB.pre
  have hown : s.vm.findClass RX7 = some m.cls := findClass_of_methodNamed BB.named
  have hlocks := BB.notSynchronized
  have hcf : CallFix p m c cX7_change 2 s args wsX7_change RX7 := ⟨hx, hb, hml, hown, hts⟩
  obtain ⟨A, hAe⟩ : ∃ A, A = mA [(x, .inr (7, [.ref oc, .ref oz, .ref oy, .int (nI k0), .int (nI k1), .ref pa, .int (nI ps), .ref o, .ref o5, .ref o4, .ref o6, .ref o1])), (pa, aN cI 8 pd), (oc, .inr (0, [.ref a1, .ref a2, .int (nI nl), .int (nI nv)])), (a1, aN cI 640 g), (a2, aN cI 80 z)] := ⟨_, rfl⟩
  have hD : va_D A [(x, .inr (7, [.ref oc, .ref oz, .ref oy, .int (nI k0), .int (nI k1), .ref pa, .int (nI ps), .ref o, .ref o5, .ref o4, .ref o6, .ref o1])), (pa, aN cI 8 pd), (oc, .inr (0, [.ref a1, .ref a2, .int (nI nl), .int (nI nv)])), (a1, aN cI 640 g), (a2, aN cI 80 z)] := ⟨hD0.1, fun k q h => by rw [hAe]; exact ⟨k, q.2, h⟩⟩
  have hS : va_S A s.heap s.heap [] := va_S.rf
  rw [← hAe]
  rw [hargs, lg_entry_eq, ← hargs]
  have hl := lv_entry ([.ref x, .int li]) (n := 2) (Nat.le_of_ble_eq_true rfl)
  generalize (lg_sl ([.ref x, .int li]) ++ List.replicate (2 - (lg_sl ([.ref x, .int li])).length) Slot.unset).toArray = ls at hl ⊢
  have hl : lv_has ls 2 [(0, .ref x), (1, .int li)] := hl
  obtain ⟨Q, hQ⟩ : ∃ Q, Q = MQ below (mQi D A (fun (r : Int32) (u : (Nat → Nat) × (Nat → Nat) × Nat) => r = chgR nl ps li ∧ (u.1, u.2.1, u.2.2) = chgS nl nv z g ps pd li) (fun (u : (Nat → Nat) × (Nat → Nat) × Nat) => [(x, .inr (7, [.ref oc, .ref oz, .ref oy, .int (nI k0), .int (nI k1), .ref pa, .int (nI u.2.2), .ref o, .ref o5, .ref o4, .ref o6, .ref o1])), (pa, aN cI 8 pd), (oc, .inr (0, [.ref a1, .ref a2, .int (nI nl), .int (nI nv)])), (a1, aN cI 640 u.2.1), (a2, aN cI 80 u.1)])) args s 0 0 A := ⟨_, rfl⟩
  rw [← hQ]
  have i_X7 : ∀ w ∈ u_ws RX7 TX7 12, w ∈ wsX7_change := by decide +kernel
  have f_10 := hts (.fieldLink RX7 10 "SameAgain" "code" "LSameAgain$Code;") (by decide +kernel)
  have f_67 := hts (.fieldLink RX7 67 "SameAgain" "padSize" "I") (by decide +kernel)
  have f_22 := hts (.fieldLink RX7 22 "SameAgain" "pad" "[I") (by decide +kernel)
  refine lv_aload_n hx hb dX7_change_0 rfl (lv_at hl 0 rfl) ?_
  refine va_get (D := D) (ci := 7) (v := .ref oc) (C := RX7) (T := TX7) (N := 12) hx hb hts i_X7 hown hK.1 hP 0 rfl rfl 0 (by decide) f_10 (fun _ h9 => h9) rfl dX7_change_1 ?_
  refine lv_iload_n hx hb dX7_change_4 rfl (lv_at hl 1 rfl) ?_
  refine m_rdV (As := [.int li]) (rest := []) (wc := [(oc, .inr (0, [.ref a1, .ref a2, .int (nI nl), .int (nI nv)])), (a1, aN cI 640 g), (a2, aN cI 80 z)]) hcf (k_X0_hasLine (l := l) (D := D) (cI := cI) (cZ := cZ) (x := li) (o := oc) (a1 := a1) (a2 := a2) (nl := nl) (nv := nv) (g := g) (z := z) (hnl := hnl) (hnv := hnv)) (cwV 1 hts gX7_change_X0_hasLine rfl rfl rfl yd_X0_hasLine ⟨Nat.le_of_ble_eq_true rfl, Nat.le_of_ble_eq_true rfl⟩) (m_preV hK hP hD [2, 3, 4] (by decide) rfl rfl rfl) rfl hl.1 rfl (Nat.le_of_ble_eq_true rfl) dX7_change_5 ⟨Nat.zero_le _, Nat.zero_le _⟩ ?_
  refine m_ifB_ne (tgt := 13) hx hb dX7_change_8 (by decide) (fun c_8 => ?_) (fun c_8 => ?_)
  · obtain ⟨e_l, i_l⟩ := ixB_cN (by omega) c_8
    have hl : lv_has ls 2 [(0, .ref x), (1, .int (nI (cN li)))] := by rw [← e_l]; exact hl
    refine lv_aload_n hx hb dX7_change_13 rfl (lv_at hl 0 rfl) ?_
    refine va_get (D := D) (ci := 7) (v := .int (nI ps)) (C := RX7) (T := TX7) (N := 12) hx hb hts i_X7 hown hK.1 hP 0 rfl rfl 6 (by decide) f_67 (fun _ h9 => h9) rfl dX7_change_14 ?_
    refine m_if_ne (tgt := 23) hx hb dX7_change_17 (by decide) (by omega) (fun c_17 => ?_) (fun c_17 => ?_)
    · refine lv_aload_n hx hb dX7_change_23 rfl (lv_at hl 0 rfl) ?_
      refine va_get (D := D) (ci := 7) (v := .ref oc) (C := RX7) (T := TX7) (N := 12) hx hb hts i_X7 hown hK.1 hP 0 rfl rfl 0 (by decide) f_10 (fun _ h9 => h9) rfl dX7_change_24 ?_
      refine lv_aload_n hx hb dX7_change_27 rfl (lv_at hl 0 rfl) ?_
      refine va_get (D := D) (ci := 7) (v := .ref oc) (C := RX7) (T := TX7) (N := 12) hx hb hts i_X7 hown hK.1 hP 0 rfl rfl 0 (by decide) f_10 (fun _ h9 => h9) rfl dX7_change_28 ?_
      refine m_rdV (As := []) (rest := [.ref oc]) (wc := [(oc, .inr (0, [.ref a1, .ref a2, .int (nI nl), .int (nI nv)])), (a1, aN cI 640 g), (a2, aN cI 80 z)]) hcf (k_X0_versions (l := l) (D := D) (cI := cI) (cZ := cZ) (o := oc) (a1 := a1) (a2 := a2) (nl := nl) (nv := nv) (g := g) (z := z) ) (cwV 0 hts gX7_change_X0_versions rfl rfl rfl yd_X0_versions ⟨Nat.le_of_ble_eq_true rfl, Nat.le_of_ble_eq_true rfl⟩) (m_preV hK hP hD [2, 3, 4] (by decide) rfl rfl rfl) rfl hl.1 rfl (Nat.le_of_ble_eq_true rfl) dX7_change_31 ⟨Nat.zero_le _, Nat.zero_le _⟩ ?_
      refine lv_iconst (v := nI 1) hx hb dX7_change_34 (by decide) ?_
      refine m_sub hx hb (by omega) dX7_change_35 ?_
      refine lv_iload_n hx hb dX7_change_36 rfl (lv_at hl 1 rfl) ?_
      refine lv_aload_n hx hb dX7_change_37 rfl (lv_at hl 0 rfl) ?_
      refine va_get (D := D) (ci := 7) (v := .ref pa) (C := RX7) (T := TX7) (N := 12) hx hb hts i_X7 hown hK.1 hP 0 rfl rfl 5 (by decide) f_22 (fun _ h9 => h9) rfl dX7_change_38 ?_
      refine lv_aload_n hx hb dX7_change_41 rfl (lv_at hl 0 rfl) ?_
      refine va_get (D := D) (ci := 7) (v := .int (nI ps)) (C := RX7) (T := TX7) (N := 12) hx hb hts i_X7 hown hK.1 hP 0 rfl rfl 6 (by decide) f_67 (fun _ h9 => h9) rfl dX7_change_42 ?_
      refine m_wvV (As := [.int (nI (nv - 1)), .int (nI (cN li)), .ref pa, .int (nI ps)]) (rest := []) (wc := [(oc, .inr (0, [.ref a1, .ref a2, .int (nI nl), .int (nI nv)])), (a1, aN cI 640 g), (a2, aN cI 80 z), (pa, aN cI 8 pd)]) hcf (k_X0_write (l := l) (D := D) (cI := cI) (cZ := cZ) (v := nv - 1) (ln := cN li) (pa := pa) (n := ps) (o := oc) (a1 := a1) (a2 := a2) (nl := nl) (nv := nv) (g := g) (z := z) (pd := pd) (hnl := hnl) (hnv := hnv) (hv := by omega) (hln := by omega) (hn8 := hps)) (cwV 4 hts gX7_change_X0_write rfl rfl rfl yd_X0_write ⟨Nat.le_of_ble_eq_true rfl, Nat.le_of_ble_eq_true rfl⟩) hK hP hD hS [2, 3, 4, 1] (by decide) rfl rfl rfl rfl hl.1 rfl (Nat.le_of_ble_eq_true rfl) dX7_change_45 ⟨Nat.zero_le _, Nat.zero_le _⟩ (fun _ => rfl) (fun (u : Unit) => [(x, .inr (7, [.ref oc, .ref oz, .ref oy, .int (nI k0), .int (nI k1), .ref pa, .int (nI ps), .ref o, .ref o5, .ref o4, .ref o6, .ref o1])), (pa, aN cI 8 pd), (oc, .inr (0, [.ref a1, .ref a2, .int (nI nl), .int (nI nv)])), (a1, aN cI 640 (cpN pd g 0 (((nv - 1) * 20 + (cN li)) * 8) ps)), (a2, aN cI 80 (upN z ((nv - 1) * 20 + (cN li)) ps))]) (fun _ => rfl) (fun u H locs hp_45 hP hD hS => ?_)
      have hP : va_P D vwCl [(x, .inr (7, [.ref oc, .ref oz, .ref oy, .int (nI k0), .int (nI k1), .ref pa, .int (nI ps), .ref o, .ref o5, .ref o4, .ref o6, .ref o1])), (pa, aN cI 8 pd), (oc, .inr (0, [.ref a1, .ref a2, .int (nI nl), .int (nI nv)])), (a1, aN cI 640 (cpN pd g 0 (((nv - 1) * 20 + (cN li)) * 8) ps)), (a2, aN cI 80 (upN z ((nv - 1) * 20 + (cN li)) ps))] H := hP
      have hD : va_D A [(x, .inr (7, [.ref oc, .ref oz, .ref oy, .int (nI k0), .int (nI k1), .ref pa, .int (nI ps), .ref o, .ref o5, .ref o4, .ref o6, .ref o1])), (pa, aN cI 8 pd), (oc, .inr (0, [.ref a1, .ref a2, .int (nI nl), .int (nI nv)])), (a1, aN cI 640 (cpN pd g 0 (((nv - 1) * 20 + (cN li)) * 8) ps)), (a2, aN cI 80 (upN z ((nv - 1) * 20 + (cN li)) ps))] := hD
      refine lv_aload_n hx hb dX7_change_48 rfl (lv_at hl 0 rfl) ?_
      refine lv_iconst (v := nI 0) hx hb dX7_change_49 (by decide) ?_
      refine va_put (D := D) (ci := 7) (v := .int (nI 0)) (ty := .int) (C := RX7) (T := TX7) (N := 12) hx hb hts i_X7 tyX7 tyX7_ok nmX7 hown hK.1 hP hD hS 0 rfl rfl 6 (by decide) f_67 (fun _ h9 => h9) rfl (by decide +kernel) rfl rfl (Nat.le_of_ble_eq_true rfl) dX7_change_50 (fun H locs hP hD hS => ?_)
      have hP : va_P D vwCl [(x, .inr (7, [.ref oc, .ref oz, .ref oy, .int (nI k0), .int (nI k1), .ref pa, .int (nI 0), .ref o, .ref o5, .ref o4, .ref o6, .ref o1])), (pa, aN cI 8 pd), (oc, .inr (0, [.ref a1, .ref a2, .int (nI nl), .int (nI nv)])), (a1, aN cI 640 (cpN pd g 0 (((nv - 1) * 20 + (cN li)) * 8) ps)), (a2, aN cI 80 (upN z ((nv - 1) * 20 + (cN li)) ps))] H := hP
      have hD : va_D A [(x, .inr (7, [.ref oc, .ref oz, .ref oy, .int (nI k0), .int (nI k1), .ref pa, .int (nI 0), .ref o, .ref o5, .ref o4, .ref o6, .ref o1])), (pa, aN cI 8 pd), (oc, .inr (0, [.ref a1, .ref a2, .int (nI nl), .int (nI nv)])), (a1, aN cI 640 (cpN pd g 0 (((nv - 1) * 20 + (cN li)) * 8) ps)), (a2, aN cI 80 (upN z ((nv - 1) * 20 + (cN li)) ps))] := hD
      refine lv_iconst (v := nI 1) hx hb dX7_change_53 (by decide) ?_
      rw [hQ]
      exact m_iwr hx hb hr hlocks (upN z ((nv - 1) * 20 + (cN li)) ps, cpN pd g 0 (((nv - 1) * 20 + (cN li)) * 8) ps, 0) (⟨by unfold chgR; rw [if_pos c_8, if_neg c_17]; rfl, by unfold chgS; rw [if_pos ⟨c_8, c_17⟩]⟩) hP hS dX7_change_54
    · refine lv_bipush (v := (-5)) hx hb dX7_change_20 (by decide) ?_
      rw [hQ]
      exact m_iwr hx hb hr hlocks (z, g, ps) (⟨by unfold chgR; rw [if_pos c_8, if_pos c_17], by unfold chgS; rw [if_neg (fun h => h.2 c_17)]⟩) hP hS dX7_change_22
  · refine lv_iconst (v := (-1)) hx hb dX7_change_11 (by decide) ?_
    rw [hQ]
    exact m_iwr hx hb hr hlocks (z, g, ps) (⟨by unfold chgR; rw [if_neg (by rw [c_8]; decide)], by unfold chgS; rw [if_neg (fun h => by rw [c_8] at h; cases h.1)]⟩) hP hS dX7_change_12

theorem yd_X7_version : yX7_version.cls = RX7 ∧ yX7_version.cls ≠ "java/lang/invoke/MethodHandle" ∧ yX7_version.cls ≠ "java/lang/invoke/VarHandle" ∧ (parseMethodDescriptor yX7_version.desc).map (fun d => d.parameters.length) = some 0 := by decide +kernel
set_option maxHeartbeats 4000000 in
set_option maxRecDepth 100000 in
theorem k_X7_version (l : Launch) (D : va_G) (cI cZ : ClassId) (x oc oz oy k0 k1 pa ps o o5 o4 o6 o1 : Nat) (a1 a2 nl nv : Nat) (z g : Nat → Nat) (hnv1 : 1 ≤ nv) (hnv : nv ≤ 4) : Met l yX7_version wsX7_version ({ frames := 2, cells := 0, slots := 0, locals := 70 }) (mPc [.ref x] D cI cZ [(x, .inr (7, [.ref oc, .ref oz, .ref oy, .int (nI k0), .int (nI k1), .ref pa, .int (nI ps), .ref o, .ref o5, .ref o4, .ref o6, .ref o1])), (oc, .inr (0, [.ref a1, .ref a2, .int (nI nl), .int (nI nv)])), (a1, aN cI 640 g), (a2, aN cI 80 z)]) (mQi D (mA [(x, .inr (7, [.ref oc, .ref oz, .ref oy, .int (nI k0), .int (nI k1), .ref pa, .int (nI ps), .ref o, .ref o5, .ref o4, .ref o6, .ref o1])), (oc, .inr (0, [.ref a1, .ref a2, .int (nI nl), .int (nI nv)])), (a1, aN cI 640 g), (a2, aN cI 80 z)]) (fun (r : Int32) (u : Nat × (Nat → Nat) × (Nat → Nat)) => r = verR nv ∧ (u.1, u.2.1, u.2.2) = verS nv z g) (fun (u : Nat × (Nat → Nat) × (Nat → Nat)) => [(x, .inr (7, [.ref oc, .ref oz, .ref oy, .int (nI k0), .int (nI k1), .ref pa, .int (nI ps), .ref o, .ref o5, .ref o4, .ref o6, .ref o1])), (oc, .inr (0, [.ref a1, .ref a2, .int (nI nl), .int (nI u.1)])), (a1, aN cI 640 u.2.2), (a2, aN cI 80 u.2.1)])) 0 0 (mA [(x, .inr (7, [.ref oc, .ref oz, .ref oy, .int (nI k0), .int (nI k1), .ref pa, .int (nI ps), .ref o, .ref o5, .ref o4, .ref o6, .ref o1])), (oc, .inr (0, [.ref a1, .ref a2, .int (nI nl), .int (nI nv)])), (a1, aN cI 640 g), (a2, aN cI 80 z)]) := by
  refine Met.ofW (cc := cX7_version) (maxL := 1) (ret := (some .int)) (by decide) rfl ?_
  intro p e s m args below meth c s₁ BB hml hv
  obtain ⟨hargs, hP, hD0, hK⟩ := hv
  have hx := BB.exec
  have hb := BB.bytes
  have hr := BB.returns
  have hts := atoms_spec (ws := wsX7_version) BB.pre
  have hown : s.vm.findClass RX7 = some m.cls := findClass_of_methodNamed BB.named
  have hlocks := BB.notSynchronized
  have hcf : CallFix p m c cX7_version 1 s args wsX7_version RX7 := ⟨hx, hb, hml, hown, hts⟩
  obtain ⟨A, hAe⟩ : ∃ A, A = mA [(x, .inr (7, [.ref oc, .ref oz, .ref oy, .int (nI k0), .int (nI k1), .ref pa, .int (nI ps), .ref o, .ref o5, .ref o4, .ref o6, .ref o1])), (oc, .inr (0, [.ref a1, .ref a2, .int (nI nl), .int (nI nv)])), (a1, aN cI 640 g), (a2, aN cI 80 z)] := ⟨_, rfl⟩
  have hD : va_D A [(x, .inr (7, [.ref oc, .ref oz, .ref oy, .int (nI k0), .int (nI k1), .ref pa, .int (nI ps), .ref o, .ref o5, .ref o4, .ref o6, .ref o1])), (oc, .inr (0, [.ref a1, .ref a2, .int (nI nl), .int (nI nv)])), (a1, aN cI 640 g), (a2, aN cI 80 z)] := ⟨hD0.1, fun k q h => by rw [hAe]; exact ⟨k, q.2, h⟩⟩
  have hS : va_S A s.heap s.heap [] := va_S.rf
  rw [← hAe]
  rw [hargs, lg_entry_eq, ← hargs]
  have hl := lv_entry ([.ref x]) (n := 1) (Nat.le_of_ble_eq_true rfl)
  generalize (lg_sl ([.ref x]) ++ List.replicate (1 - (lg_sl ([.ref x])).length) Slot.unset).toArray = ls at hl ⊢
  have hl : lv_has ls 1 [(0, .ref x)] := hl
  obtain ⟨Q, hQ⟩ : ∃ Q, Q = MQ below (mQi D A (fun (r : Int32) (u : Nat × (Nat → Nat) × (Nat → Nat)) => r = verR nv ∧ (u.1, u.2.1, u.2.2) = verS nv z g) (fun (u : Nat × (Nat → Nat) × (Nat → Nat)) => [(x, .inr (7, [.ref oc, .ref oz, .ref oy, .int (nI k0), .int (nI k1), .ref pa, .int (nI ps), .ref o, .ref o5, .ref o4, .ref o6, .ref o1])), (oc, .inr (0, [.ref a1, .ref a2, .int (nI nl), .int (nI u.1)])), (a1, aN cI 640 u.2.2), (a2, aN cI 80 u.2.1)])) args s 0 0 A := ⟨_, rfl⟩
  rw [← hQ]
  have i_X7 : ∀ w ∈ u_ws RX7 TX7 12, w ∈ wsX7_version := by decide +kernel
  have f_10 := hts (.fieldLink RX7 10 "SameAgain" "code" "LSameAgain$Code;") (by decide +kernel)
  refine lv_aload_n hx hb dX7_version_0 rfl (lv_at hl 0 rfl) ?_
  refine va_get (D := D) (ci := 7) (v := .ref oc) (C := RX7) (T := TX7) (N := 12) hx hb hts i_X7 hown hK.1 hP 0 rfl rfl 0 (by decide) f_10 (fun _ h9 => h9) rfl dX7_version_1 ?_
  refine m_rdV (As := []) (rest := []) (wc := [(oc, .inr (0, [.ref a1, .ref a2, .int (nI nl), .int (nI nv)])), (a1, aN cI 640 g), (a2, aN cI 80 z)]) hcf (k_X0_versions (l := l) (D := D) (cI := cI) (cZ := cZ) (o := oc) (a1 := a1) (a2 := a2) (nl := nl) (nv := nv) (g := g) (z := z) ) (cwV 0 hts gX7_version_X0_versions rfl rfl rfl yd_X0_versions ⟨Nat.le_of_ble_eq_true rfl, Nat.le_of_ble_eq_true rfl⟩) (m_preV hK hP hD [1, 2, 3] (by decide) rfl rfl rfl) rfl hl.1 rfl (Nat.le_of_ble_eq_true rfl) dX7_version_4 ⟨Nat.zero_le _, Nat.zero_le _⟩ ?_
  refine lv_iconst (v := nI 4) hx hb dX7_version_7 (by decide) ?_
  refine m_cmp_lt (tgt := 14) hx hb dX7_version_8 (by decide) (by omega) (by omega) (fun c_8 => ?_) (fun c_8 => ?_)
  · refine lv_aload_n hx hb dX7_version_14 rfl (lv_at hl 0 rfl) ?_
    refine va_get (D := D) (ci := 7) (v := .ref oc) (C := RX7) (T := TX7) (N := 12) hx hb hts i_X7 hown hK.1 hP 0 rfl rfl 0 (by decide) f_10 (fun _ h9 => h9) rfl dX7_version_15 ?_
    refine m_wvV (As := []) (rest := []) (wc := [(oc, .inr (0, [.ref a1, .ref a2, .int (nI nl), .int (nI nv)])), (a1, aN cI 640 g), (a2, aN cI 80 z)]) hcf (k_X0_addVersion (l := l) (D := D) (cI := cI) (cZ := cZ) (o := oc) (a1 := a1) (a2 := a2) (nl := nl) (nv := nv) (g := g) (z := z) (hnv1 := hnv1) (hnv := by omega)) (cwV 0 hts gX7_version_X0_addVersion rfl rfl rfl yd_X0_addVersion ⟨Nat.le_of_ble_eq_true rfl, Nat.le_of_ble_eq_true rfl⟩) hK hP hD hS [1, 2, 3] (by decide) rfl rfl rfl rfl hl.1 rfl (Nat.le_of_ble_eq_true rfl) dX7_version_18 ⟨Nat.zero_le _, Nat.zero_le _⟩ (fun _ => rfl) (fun (u : Unit) => [(x, .inr (7, [.ref oc, .ref oz, .ref oy, .int (nI k0), .int (nI k1), .ref pa, .int (nI ps), .ref o, .ref o5, .ref o4, .ref o6, .ref o1])), (oc, .inr (0, [.ref a1, .ref a2, .int (nI nl), .int (nI (nv + 1))])), (a1, aN cI 640 (cpN g g ((nv - 1) * 20 * 8) (nv * 20 * 8) 160)), (a2, aN cI 80 (cpN z z ((nv - 1) * 20) (nv * 20) 20))]) (fun _ => rfl) (fun u H locs hp_18 hP hD hS => ?_)
    have hP : va_P D vwCl [(x, .inr (7, [.ref oc, .ref oz, .ref oy, .int (nI k0), .int (nI k1), .ref pa, .int (nI ps), .ref o, .ref o5, .ref o4, .ref o6, .ref o1])), (oc, .inr (0, [.ref a1, .ref a2, .int (nI nl), .int (nI (nv + 1))])), (a1, aN cI 640 (cpN g g ((nv - 1) * 20 * 8) (nv * 20 * 8) 160)), (a2, aN cI 80 (cpN z z ((nv - 1) * 20) (nv * 20) 20))] H := hP
    have hD : va_D A [(x, .inr (7, [.ref oc, .ref oz, .ref oy, .int (nI k0), .int (nI k1), .ref pa, .int (nI ps), .ref o, .ref o5, .ref o4, .ref o6, .ref o1])), (oc, .inr (0, [.ref a1, .ref a2, .int (nI nl), .int (nI (nv + 1))])), (a1, aN cI 640 (cpN g g ((nv - 1) * 20 * 8) (nv * 20 * 8) 160)), (a2, aN cI 80 (cpN z z ((nv - 1) * 20) (nv * 20) 20))] := hD
    refine lv_aload_n hx hb dX7_version_21 rfl (lv_at hl 0 rfl) ?_
    refine va_get (D := D) (ci := 7) (v := .ref oc) (C := RX7) (T := TX7) (N := 12) hx hb hts i_X7 hown hK.1 hP 0 rfl rfl 0 (by decide) f_10 (fun _ h9 => h9) rfl dX7_version_22 ?_
    refine m_rdV (As := []) (rest := []) (wc := [(oc, .inr (0, [.ref a1, .ref a2, .int (nI nl), .int (nI (nv + 1))])), (a1, aN cI 640 (cpN g g ((nv - 1) * 20 * 8) (nv * 20 * 8) 160)), (a2, aN cI 80 (cpN z z ((nv - 1) * 20) (nv * 20) 20))]) hcf (k_X0_versions (l := l) (D := D) (cI := cI) (cZ := cZ) (o := oc) (a1 := a1) (a2 := a2) (nl := nl) (nv := nv + 1) (g := cpN g g ((nv - 1) * 20 * 8) (nv * 20 * 8) 160) (z := cpN z z ((nv - 1) * 20) (nv * 20) 20) ) (cwV 0 hts gX7_version_X0_versions rfl rfl rfl yd_X0_versions ⟨Nat.le_of_ble_eq_true rfl, Nat.le_of_ble_eq_true rfl⟩) (m_preV hK hP hD [1, 2, 3] (by decide) rfl rfl rfl) rfl hl.1 rfl (Nat.le_of_ble_eq_true rfl) dX7_version_25 ⟨Nat.zero_le _, Nat.zero_le _⟩ ?_
    refine lv_iconst (v := nI 1) hx hb dX7_version_28 (by decide) ?_
    refine m_sub hx hb (by omega) dX7_version_29 ?_
    refine m_top (y := nI nv) rfl ?_
    rw [hQ]
    exact m_iwr hx hb hr hlocks (nv + 1, cpN z z ((nv - 1) * 20) (nv * 20) 20, cpN g g ((nv - 1) * 20 * 8) (nv * 20 * 8) 160) (⟨by unfold verR; rw [if_pos c_8], by unfold verS; rw [if_pos c_8]⟩) hP hS dX7_version_30
  · refine lv_bipush (v := (-4)) hx hb dX7_version_11 (by decide) ?_
    rw [hQ]
    exact m_iwr hx hb hr hlocks (nv, z, g) (⟨by unfold verR; rw [if_neg (by omega)], by unfold verS; rw [if_neg (by omega)]⟩) hP hS dX7_version_13

set_option maxHeartbeats 4000000 in
set_option maxRecDepth 100000 in
theorem k_X0_signAtNeg (l : Launch) (D : va_G) (cI cZ : ClassId) (o a1 a2 nl nv : Nat) (z g : Nat → Nat) (v ln : Nat) (k : Int32) (hnl : nl ≤ 20) (hnv : nv ≤ 4) (hz : ∀ j, z j ≤ 8) (hg : ∀ j, g j ≤ 126) (hv : v < nv) (hln : ln < nl) (hk : k < 0) : Met l yX0_signAt wsX0_signAt ({ frames := 0, cells := 0, slots := 0, locals := 0 }) (mPc [.ref o, .int (nI v), .int (nI ln), .int k] D cI cZ [(o, .inr (0, [.ref a1, .ref a2, .int (nI nl), .int (nI nv)])), (a1, aN cI 640 g), (a2, aN cI 80 z)]) (QcRead (nI 0)) 0 0 (fun _ => False) := by
  refine Met.ofW (cc := cX0_signAt) (maxL := 5) (ret := (some .int)) (by decide) rfl ?_
  intro p e s m args below meth c s₁ BB hml hv
  obtain ⟨hargs, hP, hD0, hK⟩ := hv
  have hx := BB.exec
  have hb := BB.bytes
  have hr := BB.returns
  have hts := atoms_spec (ws := wsX0_signAt) BB.pre
  have hown : s.vm.findClass RX0 = some m.cls := findClass_of_methodNamed BB.named
  have hlocks := BB.notSynchronized
  have hcf : CallFix p m c cX0_signAt 5 s args wsX0_signAt RX0 := ⟨hx, hb, hml, hown, hts⟩
  have hD := hD0
  rw [hargs, lg_entry_eq, ← hargs]
  have hl := lv_entry ([.ref o, .int (nI v), .int (nI ln), .int k]) (n := 5) (Nat.le_of_ble_eq_true rfl)
  generalize (lg_sl ([.ref o, .int (nI v), .int (nI ln), .int k]) ++ List.replicate (5 - (lg_sl ([.ref o, .int (nI v), .int (nI ln), .int k])).length) Slot.unset).toArray = ls at hl ⊢
  have hl : lv_has ls 5 [(0, .ref o), (1, .int (nI v)), (2, .int (nI ln)), (3, .int k)] := hl
  obtain ⟨Q, hQ⟩ : ∃ Q, Q = MQ below (QcRead (nI 0)) args s 0 0 (fun _ => False) := ⟨_, rfl⟩
  rw [← hQ]
  have i_X0 : ∀ w ∈ u_ws RX0 TX0 4, w ∈ wsX0_signAt := by decide +kernel
  have f_22 := hts (.fieldLink RX0 22 "SameAgain$Code" "versionCount" "I") (by decide +kernel)
  have f_18 := hts (.fieldLink RX0 18 "SameAgain$Code" "lineCount" "I") (by decide +kernel)
  refine lv_iload_n hx hb dX0_signAt_0 rfl (lv_at hl 1 rfl) ?_
  refine m_if_lt (tgt := 24) hx hb dX0_signAt_1 (by decide) (by omega) ?_
  refine lv_iload_n hx hb dX0_signAt_4 rfl (lv_at hl 1 rfl) ?_
  refine lv_aload_n hx hb dX0_signAt_5 rfl (lv_at hl 0 rfl) ?_
  refine va_get (D := D) (ci := 0) (v := .int (nI nv)) (C := RX0) (T := TX0) (N := 4) hx hb hts i_X0 hown hK.1 hP 0 rfl rfl 3 (by decide) f_22 (fun _ h9 => h9) rfl dX0_signAt_6 ?_
  refine m_cmp_ge (tgt := 24) hx hb dX0_signAt_9 (by decide) (by omega) (by omega) (fun c_9 => absurd c_9 (by omega)) (fun c_9 => ?_)
  refine lv_iload_n hx hb dX0_signAt_12 rfl (lv_at hl 2 rfl) ?_
  refine m_if_lt (tgt := 24) hx hb dX0_signAt_13 (by decide) (by omega) ?_
  refine lv_iload_n hx hb dX0_signAt_16 rfl (lv_at hl 2 rfl) ?_
  refine lv_aload_n hx hb dX0_signAt_17 rfl (lv_at hl 0 rfl) ?_
  refine va_get (D := D) (ci := 0) (v := .int (nI nl)) (C := RX0) (T := TX0) (N := 4) hx hb hts i_X0 hown hK.1 hP 0 rfl rfl 2 (by decide) f_18 (fun _ h9 => h9) rfl dX0_signAt_18 ?_
  refine m_cmp_lt (tgt := 26) hx hb dX0_signAt_21 (by decide) (by omega) (by omega) (fun c_21 => ?_) (fun c_21 => absurd c_21 (by omega))
  refine lv_iload_n hx hb dX0_signAt_26 rfl (lv_at hl 1 rfl) ?_
  refine lv_bipush (v := nI 20) hx hb dX0_signAt_27 (by decide) ?_
  refine m_mul hx hb dX0_signAt_29 ?_
  refine lv_iload_n hx hb dX0_signAt_30 rfl (lv_at hl 2 rfl) ?_
  refine m_add hx hb dX0_signAt_31 ?_
  refine lv_istore (lv' := [(4, .int (nI ((v * 20) + ln))), (0, .ref o), (1, .int (nI v)), (2, .int (nI ln)), (3, .int k)]) hx hb dX0_signAt_32 hl (by decide) rfl (fun ls hl => ?_)
  refine lv_iload_n hx hb dX0_signAt_34 rfl (lv_at hl 4 rfl) ?_
  refine lv_if_lt (tgt := 64) hx hb dX0_signAt_35 (by decide) (fun c_35 => ?_) (fun c_35 => absurd hk c_35)
  refine lv_iconst (v := nI 0) hx hb dX0_signAt_64 (by decide) ?_
  rw [hQ]
  exact m_ird hx hb hr hlocks rfl dX0_signAt_65

theorem k_X0_signAtA (l : Launch) (D : va_G) (cI cZ : ClassId) (o a1 a2 nl nv : Nat) (z g : Nat → Nat) (v ln : Nat) (k : Int32) (hnl : nl ≤ 20) (hnv : nv ≤ 4) (hz : ∀ j, z j ≤ 8) (hg : ∀ j, g j ≤ 126) (hv : v < nv) (hln : ln < nl) : Met l yX0_signAt wsX0_signAt ({ frames := 0, cells := 0, slots := 0, locals := 0 }) (mPc [.ref o, .int (nI v), .int (nI ln), .int k] D cI cZ [(o, .inr (0, [.ref a1, .ref a2, .int (nI nl), .int (nI nv)])), (a1, aN cI 640 g), (a2, aN cI 80 z)]) (QcRead (nI (sgA z g (v * 20 + ln) k))) 0 0 (fun _ => False) := by
  by_cases h : k < 0
  · rw [sgA_neg h]
    exact k_X0_signAtNeg l D cI cZ o a1 a2 nl nv z g v ln k hnl hnv hz hg hv hln h
  · obtain ⟨j, hj, rfl⟩ := nI_of h
    rw [sgA_nI hj]
    exact k_X0_signAt l D cI cZ o a1 a2 nl nv z g v ln j hnl hnv hz hg hv hln hj

theorem yd_X7_sign : yX7_sign.cls = RX7 ∧ yX7_sign.cls ≠ "java/lang/invoke/MethodHandle" ∧ yX7_sign.cls ≠ "java/lang/invoke/VarHandle" ∧ (parseMethodDescriptor yX7_sign.desc).map (fun d => d.parameters.length) = some 3 := by decide +kernel
set_option maxHeartbeats 4000000 in
set_option maxRecDepth 100000 in
theorem k_X7_sign (l : Launch) (D : va_G) (cI cZ : ClassId) (x oc oz oy k0 k1 pa ps o o5 o4 o6 o1 : Nat) (a1 a2 nl nv : Nat) (z g : Nat → Nat) (ve li pl : Int32) (hnl : nl ≤ 20) (hnv : nv ≤ 4) (hz : ∀ j, z j ≤ 8) (hg : ∀ j, g j ≤ 126) : Met l yX7_sign wsX7_sign ({ frames := 1, cells := 0, slots := 0, locals := 24 }) (mPc [.ref x, .int ve, .int li, .int pl] D cI cZ [(x, .inr (7, [.ref oc, .ref oz, .ref oy, .int (nI k0), .int (nI k1), .ref pa, .int (nI ps), .ref o, .ref o5, .ref o4, .ref o6, .ref o1])), (oc, .inr (0, [.ref a1, .ref a2, .int (nI nl), .int (nI nv)])), (a1, aN cI 640 g), (a2, aN cI 80 z)]) (QcRead (sigR nl nv z g ve li pl)) 0 0 (fun _ => False) := by
  refine Met.ofW (cc := cX7_sign) (maxL := 5) (ret := (some .int)) (by decide) rfl ?_
  intro p e s m args below meth c s₁ BB hml hv
  obtain ⟨hargs, hP, hD0, hK⟩ := hv
  have hx := BB.exec
  have hb := BB.bytes
  have hr := BB.returns
  have hts := atoms_spec (ws := wsX7_sign) BB.pre
  have hown : s.vm.findClass RX7 = some m.cls := findClass_of_methodNamed BB.named
  have hlocks := BB.notSynchronized
  have hcf : CallFix p m c cX7_sign 5 s args wsX7_sign RX7 := ⟨hx, hb, hml, hown, hts⟩
  have hD := hD0
  rw [hargs, lg_entry_eq, ← hargs]
  have hl := lv_entry ([.ref x, .int ve, .int li, .int pl]) (n := 5) (Nat.le_of_ble_eq_true rfl)
  generalize (lg_sl ([.ref x, .int ve, .int li, .int pl]) ++ List.replicate (5 - (lg_sl ([.ref x, .int ve, .int li, .int pl])).length) Slot.unset).toArray = ls at hl ⊢
  have hl : lv_has ls 5 [(0, .ref x), (1, .int ve), (2, .int li), (3, .int pl)] := hl
  obtain ⟨Q, hQ⟩ : ∃ Q, Q = MQ below (QcRead (sigR nl nv z g ve li pl)) args s 0 0 (fun _ => False) := ⟨_, rfl⟩
  rw [← hQ]
  have i_X7 : ∀ w ∈ u_ws RX7 TX7 12, w ∈ wsX7_sign := by decide +kernel
  have f_10 := hts (.fieldLink RX7 10 "SameAgain" "code" "LSameAgain$Code;") (by decide +kernel)
  refine lv_aload_n hx hb dX7_sign_0 rfl (lv_at hl 0 rfl) ?_
  refine va_get (D := D) (ci := 7) (v := .ref oc) (C := RX7) (T := TX7) (N := 12) hx hb hts i_X7 hown hK.1 hP 0 rfl rfl 0 (by decide) f_10 (fun _ h9 => h9) rfl dX7_sign_1 ?_
  refine lv_iload_n hx hb dX7_sign_4 rfl (lv_at hl 1 rfl) ?_
  refine m_rdV (As := [.int ve]) (rest := []) (wc := [(oc, .inr (0, [.ref a1, .ref a2, .int (nI nl), .int (nI nv)])), (a1, aN cI 640 g), (a2, aN cI 80 z)]) hcf (k_X0_hasVersion (l := l) (D := D) (cI := cI) (cZ := cZ) (x := ve) (o := oc) (a1 := a1) (a2 := a2) (nl := nl) (nv := nv) (g := g) (z := z) (hnl := hnl) (hnv := hnv)) (cwV 1 hts gX7_sign_X0_hasVersion rfl rfl rfl yd_X0_hasVersion ⟨Nat.le_of_ble_eq_true rfl, Nat.le_of_ble_eq_true rfl⟩) (m_preV hK hP hD [1, 2, 3] (by decide) rfl rfl rfl) rfl hl.1 rfl (Nat.le_of_ble_eq_true rfl) dX7_sign_5 ⟨Nat.zero_le _, Nat.zero_le _⟩ ?_
  refine m_ifB_eq (tgt := 22) hx hb dX7_sign_8 (by decide) (fun c_8 => ?_) (fun c_8 => ?_)
  · refine lv_iconst (v := (-1)) hx hb dX7_sign_22 (by decide) ?_
    rw [hQ]
    exact m_ird hx hb hr hlocks (by unfold sigR; rw [if_neg (by first | (simp [c_8]; done) | (simp [c_19]; done))]) dX7_sign_23
  · obtain ⟨e_v, i_v⟩ := ixB_cN (by omega) c_8
    refine lv_aload_n hx hb dX7_sign_11 rfl (lv_at hl 0 rfl) ?_
    refine va_get (D := D) (ci := 7) (v := .ref oc) (C := RX7) (T := TX7) (N := 12) hx hb hts i_X7 hown hK.1 hP 0 rfl rfl 0 (by decide) f_10 (fun _ h9 => h9) rfl dX7_sign_12 ?_
    refine lv_iload_n hx hb dX7_sign_15 rfl (lv_at hl 2 rfl) ?_
    refine m_rdV (As := [.int li]) (rest := []) (wc := [(oc, .inr (0, [.ref a1, .ref a2, .int (nI nl), .int (nI nv)])), (a1, aN cI 640 g), (a2, aN cI 80 z)]) hcf (k_X0_hasLine (l := l) (D := D) (cI := cI) (cZ := cZ) (x := li) (o := oc) (a1 := a1) (a2 := a2) (nl := nl) (nv := nv) (g := g) (z := z) (hnl := hnl) (hnv := hnv)) (cwV 1 hts gX7_sign_X0_hasLine rfl rfl rfl yd_X0_hasLine ⟨Nat.le_of_ble_eq_true rfl, Nat.le_of_ble_eq_true rfl⟩) (m_preV hK hP hD [1, 2, 3] (by decide) rfl rfl rfl) rfl hl.1 rfl (Nat.le_of_ble_eq_true rfl) dX7_sign_16 ⟨Nat.zero_le _, Nat.zero_le _⟩ ?_
    refine m_ifB_ne (tgt := 24) hx hb dX7_sign_19 (by decide) (fun c_19 => ?_) (fun c_19 => ?_)
    · obtain ⟨e_l, i_l⟩ := ixB_cN (by omega) c_19
      have K9 : (ixB ve nv && ixB li nl) = true := by rw [c_8, c_19]; rfl
      have hs9 := sgA_le (z := z) hg (cN ve * 20 + cN li) pl
      have hl : lv_has ls 5 [(0, .ref x), (1, .int (nI (cN ve))), (2, .int (nI (cN li))), (3, .int pl)] := by rw [← e_v, ← e_l]; exact hl
      refine lv_iload_n hx hb dX7_sign_24 rfl (lv_at hl 3 rfl) ?_
      refine lv_iconst (v := (-1)) hx hb dX7_sign_25 (by decide) ?_
      refine lv_icmp_ne (tgt := 39) hx hb dX7_sign_26 (by decide) (fun c_26 => ?_) (fun c_26 => ?_)
      · refine lv_aload_n hx hb dX7_sign_39 rfl (lv_at hl 0 rfl) ?_
        refine va_get (D := D) (ci := 7) (v := .ref oc) (C := RX7) (T := TX7) (N := 12) hx hb hts i_X7 hown hK.1 hP 0 rfl rfl 0 (by decide) f_10 (fun _ h9 => h9) rfl dX7_sign_40 ?_
        refine lv_iload_n hx hb dX7_sign_43 rfl (lv_at hl 1 rfl) ?_
        refine lv_iload_n hx hb dX7_sign_44 rfl (lv_at hl 2 rfl) ?_
        refine lv_iload_n hx hb dX7_sign_45 rfl (lv_at hl 3 rfl) ?_
        refine m_rdV (As := [.int (nI (cN ve)), .int (nI (cN li)), .int pl]) (rest := []) (wc := [(oc, .inr (0, [.ref a1, .ref a2, .int (nI nl), .int (nI nv)])), (a1, aN cI 640 g), (a2, aN cI 80 z)]) hcf (k_X0_signAtA (l := l) (D := D) (cI := cI) (cZ := cZ) (v := cN ve) (ln := cN li) (k := pl) (o := oc) (a1 := a1) (a2 := a2) (nl := nl) (nv := nv) (g := g) (z := z) (hnl := hnl) (hnv := hnv) (hz := hz) (hg := hg) (hv := by omega) (hln := by omega)) (cwV 3 hts gX7_sign_X0_signAt rfl rfl rfl yd_X0_signAt ⟨Nat.le_of_ble_eq_true rfl, Nat.le_of_ble_eq_true rfl⟩) (m_preV hK hP hD [1, 2, 3] (by decide) rfl rfl rfl) rfl hl.1 rfl (Nat.le_of_ble_eq_true rfl) dX7_sign_46 ⟨Nat.zero_le _, Nat.zero_le _⟩ ?_
        refine lv_istore (lv' := [(4, .int (nI (sgA z g ((cN ve) * 20 + (cN li)) pl))), (0, .ref x), (1, .int (nI (cN ve))), (2, .int (nI (cN li))), (3, .int pl)]) hx hb dX7_sign_49 hl (by decide) rfl (fun ls hl => ?_)
        refine lv_iload hx hb dX7_sign_51 (lv_at hl 0 rfl) ?_
        refine m_if_ne (tgt := 61) hx hb dX7_sign_53 (by decide) (by omega) (fun c_53 => ?_) (fun c_53 => ?_)
        · refine lv_iload hx hb dX7_sign_61 (lv_at hl 0 rfl) ?_
          rw [hQ]
          exact m_ird hx hb hr hlocks (by unfold sigR; rw [if_pos K9, if_neg c_26, if_neg c_53]) dX7_sign_63
        · refine lv_bipush (v := (-6)) hx hb dX7_sign_56 (by decide) ?_
          refine lv_goto (tgt := 63) hx hb dX7_sign_58 (by decide) ?_
          rw [hQ]
          exact m_ird hx hb hr hlocks (by unfold sigR; rw [if_pos K9, if_neg c_26, if_pos c_53]) dX7_sign_63
      · refine lv_aload_n hx hb dX7_sign_29 rfl (lv_at hl 0 rfl) ?_
        refine va_get (D := D) (ci := 7) (v := .ref oc) (C := RX7) (T := TX7) (N := 12) hx hb hts i_X7 hown hK.1 hP 0 rfl rfl 0 (by decide) f_10 (fun _ h9 => h9) rfl dX7_sign_30 ?_
        refine lv_iload_n hx hb dX7_sign_33 rfl (lv_at hl 1 rfl) ?_
        refine lv_iload_n hx hb dX7_sign_34 rfl (lv_at hl 2 rfl) ?_
        refine m_rdV (As := [.int (nI (cN ve)), .int (nI (cN li))]) (rest := []) (wc := [(oc, .inr (0, [.ref a1, .ref a2, .int (nI nl), .int (nI nv)])), (a1, aN cI 640 g), (a2, aN cI 80 z)]) hcf (k_X0_sizeOf (l := l) (D := D) (cI := cI) (cZ := cZ) (v := cN ve) (ln := cN li) (o := oc) (a1 := a1) (a2 := a2) (nl := nl) (nv := nv) (g := g) (z := z) (hnl := hnl) (hnv := hnv) (hv := by omega) (hln := by omega)) (cwV 2 hts gX7_sign_X0_sizeOf rfl rfl rfl yd_X0_sizeOf ⟨Nat.le_of_ble_eq_true rfl, Nat.le_of_ble_eq_true rfl⟩) (m_preV hK hP hD [1, 2, 3] (by decide) rfl rfl rfl) rfl hl.1 rfl (Nat.le_of_ble_eq_true rfl) dX7_sign_35 ⟨Nat.zero_le _, Nat.zero_le _⟩ ?_
        rw [hQ]
        exact m_ird hx hb hr hlocks (by unfold sigR; rw [if_pos K9, if_pos c_26]) dX7_sign_38
    · refine lv_iconst (v := (-1)) hx hb dX7_sign_22 (by decide) ?_
      rw [hQ]
      exact m_ird hx hb hr hlocks (by unfold sigR; rw [if_neg (by first | (simp [c_8]; done) | (simp [c_19]; done))]) dX7_sign_23

theorem yd_X7_refusalIn : yX7_refusalIn.cls = RX7 ∧ yX7_refusalIn.cls ≠ "java/lang/invoke/MethodHandle" ∧ yX7_refusalIn.cls ≠ "java/lang/invoke/VarHandle" ∧ (parseMethodDescriptor yX7_refusalIn.desc).map (fun d => d.parameters.length) = some 2 := by decide +kernel
set_option maxHeartbeats 4000000 in
set_option maxRecDepth 100000 in
theorem k_X7_refusalIn (l : Launch) (D : va_G) (cI cZ : ClassId) (x oc oz oy k0 k1 pa ps o o5 o4 o6 o1 : Nat) (a1 a2 nl nv : Nat) (z g : Nat → Nat) (ve : Int32) (b : Bool) (hnl : nl ≤ 20) (hnv : nv ≤ 4) : Met l yX7_refusalIn wsX7_refusalIn ({ frames := 1, cells := 0, slots := 0, locals := 21 }) (mPc [.ref x, .int ve, .int (bI b)] D cI cZ [(x, .inr (7, [.ref oc, .ref oz, .ref oy, .int (nI k0), .int (nI k1), .ref pa, .int (nI ps), .ref o, .ref o5, .ref o4, .ref o6, .ref o1])), (oc, .inr (0, [.ref a1, .ref a2, .int (nI nl), .int (nI nv)])), (a1, aN cI 640 g), (a2, aN cI 80 z)]) (QcRead (rfQ nv ve b 0)) 0 0 (fun _ => False) := by
  refine Met.ofW (cc := cX7_refusalIn) (maxL := 3) (ret := (some .int)) (by decide) rfl ?_
  intro p e s m args below meth c s₁ BB hml hv
  obtain ⟨hargs, hP, hD0, hK⟩ := hv
  have hx := BB.exec
  have hb := BB.bytes
  have hr := BB.returns
  have hts := atoms_spec (ws := wsX7_refusalIn) BB.pre
  have hown : s.vm.findClass RX7 = some m.cls := findClass_of_methodNamed BB.named
  have hlocks := BB.notSynchronized
  have hcf : CallFix p m c cX7_refusalIn 3 s args wsX7_refusalIn RX7 := ⟨hx, hb, hml, hown, hts⟩
  have hD := hD0
  rw [hargs, lg_entry_eq, ← hargs]
  have hl := lv_entry ([.ref x, .int ve, .int (bI b)]) (n := 3) (Nat.le_of_ble_eq_true rfl)
  generalize (lg_sl ([.ref x, .int ve, .int (bI b)]) ++ List.replicate (3 - (lg_sl ([.ref x, .int ve, .int (bI b)])).length) Slot.unset).toArray = ls at hl ⊢
  have hl : lv_has ls 3 [(0, .ref x), (1, .int ve), (2, .int (bI b))] := hl
  obtain ⟨Q, hQ⟩ : ∃ Q, Q = MQ below (QcRead (rfQ nv ve b 0)) args s 0 0 (fun _ => False) := ⟨_, rfl⟩
  rw [← hQ]
  have i_X7 : ∀ w ∈ u_ws RX7 TX7 12, w ∈ wsX7_refusalIn := by decide +kernel
  have f_10 := hts (.fieldLink RX7 10 "SameAgain" "code" "LSameAgain$Code;") (by decide +kernel)
  refine lv_aload_n hx hb dX7_refusalIn_0 rfl (lv_at hl 0 rfl) ?_
  refine va_get (D := D) (ci := 7) (v := .ref oc) (C := RX7) (T := TX7) (N := 12) hx hb hts i_X7 hown hK.1 hP 0 rfl rfl 0 (by decide) f_10 (fun _ h9 => h9) rfl dX7_refusalIn_1 ?_
  refine lv_iload_n hx hb dX7_refusalIn_4 rfl (lv_at hl 1 rfl) ?_
  refine m_rdV (As := [.int ve]) (rest := []) (wc := [(oc, .inr (0, [.ref a1, .ref a2, .int (nI nl), .int (nI nv)])), (a1, aN cI 640 g), (a2, aN cI 80 z)]) hcf (k_X0_hasVersion (l := l) (D := D) (cI := cI) (cZ := cZ) (x := ve) (o := oc) (a1 := a1) (a2 := a2) (nl := nl) (nv := nv) (g := g) (z := z) (hnl := hnl) (hnv := hnv)) (cwV 1 hts gX7_refusalIn_X0_hasVersion rfl rfl rfl yd_X0_hasVersion ⟨Nat.le_of_ble_eq_true rfl, Nat.le_of_ble_eq_true rfl⟩) (m_preV hK hP hD [1, 2, 3] (by decide) rfl rfl rfl) rfl hl.1 rfl (Nat.le_of_ble_eq_true rfl) dX7_refusalIn_5 ⟨Nat.zero_le _, Nat.zero_le _⟩ ?_
  refine m_ifB_ne (tgt := 13) hx hb dX7_refusalIn_8 (by decide) (fun c_8 => ?_) (fun c_8 => ?_)
  · refine lv_iload_n hx hb dX7_refusalIn_13 rfl (lv_at hl 2 rfl) ?_
    refine m_ifB_eq (tgt := 21) hx hb dX7_refusalIn_14 (by decide) (fun c_14 => ?_) (fun c_14 => ?_)
    · refine lv_bipush (v := (-2)) hx hb dX7_refusalIn_21 (by decide) ?_
      rw [hQ]
      exact m_ird hx hb hr hlocks (by rw [rfQ_o c_8 c_14]) dX7_refusalIn_23
    · refine lv_iconst (v := nI 0) hx hb dX7_refusalIn_17 (by decide) ?_
      refine lv_goto (tgt := 23) hx hb dX7_refusalIn_18 (by decide) ?_
      rw [hQ]
      exact m_ird hx hb hr hlocks (by rw [rfQ_v c_8 c_14]; rfl) dX7_refusalIn_23
  · refine lv_iconst (v := (-1)) hx hb dX7_refusalIn_11 (by decide) ?_
    rw [hQ]
    exact m_ird hx hb hr hlocks (by rw [rfQ_u c_8]) dX7_refusalIn_12
