theorem yd_X7_isName : yX7_isName.cls = RX7 ∧ yX7_isName.cls ≠ "java/lang/invoke/MethodHandle" ∧ yX7_isName.cls ≠ "java/lang/invoke/VarHandle" ∧ (parseMethodDescriptor yX7_isName.desc).map (fun d => d.parameters.length) = some 1 := by decide +kernel
set_option maxHeartbeats 4000000 in
set_option maxRecDepth 100000 in
theorem k_X7_isName (l : Launch) (D : va_G) (cI cZ : ClassId) (a : Nat) (ha : a < 2 ^ 31) : Met l yX7_isName wsX7_isName ({ frames := 0, cells := 0, slots := 0, locals := 0 }) (mPc [.int (nI a)] D cI cZ []) (QcRead (bI (nmB a))) 0 0 (fun _ => False) := by
  refine Met.ofW (cc := cX7_isName) (maxL := 1) (ret := (some .boolean)) (by decide) rfl ?_
  intro p e s m args below meth c s₁ BB hml hv
  obtain ⟨hargs, hP, hD0, hK⟩ := hv
  have hx := BB.exec
  have hb := BB.bytes
  have hr := BB.returns
  have hts := atoms_spec (ws := wsX7_isName) BB.pre
  have hown : s.vm.findClass RX7 = some m.cls := findClass_of_methodNamed BB.named
  have hlocks := BB.notSynchronized
  have hcf : CallFix p m c cX7_isName 1 s args wsX7_isName RX7 := ⟨hx, hb, hml, hown, hts⟩
  have hD := hD0
  rw [hargs, lg_entry_eq, ← hargs]
  have hl := lv_entry ([.int (nI a)]) (n := 1) (Nat.le_of_ble_eq_true rfl)
  generalize (lg_sl ([.int (nI a)]) ++ List.replicate (1 - (lg_sl ([.int (nI a)])).length) Slot.unset).toArray = ls at hl ⊢
  have hl : lv_has ls 1 [(0, .int (nI a))] := hl
  obtain ⟨Q, hQ⟩ : ∃ Q, Q = MQ below (QcRead (bI (nmB a))) args s 0 0 (fun _ => False) := ⟨_, rfl⟩
  rw [← hQ]
  refine lv_iload_n hx hb dX7_isName_0 rfl (lv_at hl 0 rfl) ?_
  refine lv_bipush (v := nI 97) hx hb dX7_isName_1 (by decide) ?_
  refine m_cmp_lt (tgt := 16) hx hb dX7_isName_3 (by decide) (by omega) (by omega) (fun c_3 => ?_) (fun c_3 => ?_)
  · refine lv_iconst (v := nI 0) hx hb dX7_isName_16 (by decide) ?_
    rw [hQ]
    exact m_zrd hx hb hr hlocks (b_zero (by omega)) dX7_isName_17
  · refine lv_iload_n hx hb dX7_isName_6 rfl (lv_at hl 0 rfl) ?_
    refine lv_bipush (v := nI 122) hx hb dX7_isName_7 (by decide) ?_
    refine m_cmp_gt (tgt := 16) hx hb dX7_isName_9 (by decide) (by omega) (by omega) (fun c_9 => ?_) (fun c_9 => ?_)
    · refine lv_iconst (v := nI 0) hx hb dX7_isName_16 (by decide) ?_
      rw [hQ]
      exact m_zrd hx hb hr hlocks (b_zero (by omega)) dX7_isName_17
    · refine lv_iconst (v := nI 1) hx hb dX7_isName_12 (by decide) ?_
      refine lv_goto (tgt := 17) hx hb dX7_isName_13 (by decide) ?_
      rw [hQ]
      exact m_zrd hx hb hr hlocks (b_one (by omega)) dX7_isName_17

theorem yd_X7_isNumber : yX7_isNumber.cls = RX7 ∧ yX7_isNumber.cls ≠ "java/lang/invoke/MethodHandle" ∧ yX7_isNumber.cls ≠ "java/lang/invoke/VarHandle" ∧ (parseMethodDescriptor yX7_isNumber.desc).map (fun d => d.parameters.length) = some 1 := by decide +kernel
set_option maxHeartbeats 4000000 in
set_option maxRecDepth 100000 in
theorem k_X7_isNumber (l : Launch) (D : va_G) (cI cZ : ClassId) (a : Nat) (ha : a < 2 ^ 31) : Met l yX7_isNumber wsX7_isNumber ({ frames := 0, cells := 0, slots := 0, locals := 0 }) (mPc [.int (nI a)] D cI cZ []) (QcRead (bI (nuB a))) 0 0 (fun _ => False) := by
  refine Met.ofW (cc := cX7_isNumber) (maxL := 1) (ret := (some .boolean)) (by decide) rfl ?_
  intro p e s m args below meth c s₁ BB hml hv
  obtain ⟨hargs, hP, hD0, hK⟩ := hv
  have hx := BB.exec
  have hb := BB.bytes
  have hr := BB.returns
  have hts := atoms_spec (ws := wsX7_isNumber) BB.pre
  have hown : s.vm.findClass RX7 = some m.cls := findClass_of_methodNamed BB.named
  have hlocks := BB.notSynchronized
  have hcf : CallFix p m c cX7_isNumber 1 s args wsX7_isNumber RX7 := ⟨hx, hb, hml, hown, hts⟩
  have hD := hD0
  rw [hargs, lg_entry_eq, ← hargs]
  have hl := lv_entry ([.int (nI a)]) (n := 1) (Nat.le_of_ble_eq_true rfl)
  generalize (lg_sl ([.int (nI a)]) ++ List.replicate (1 - (lg_sl ([.int (nI a)])).length) Slot.unset).toArray = ls at hl ⊢
  have hl : lv_has ls 1 [(0, .int (nI a))] := hl
  obtain ⟨Q, hQ⟩ : ∃ Q, Q = MQ below (QcRead (bI (nuB a))) args s 0 0 (fun _ => False) := ⟨_, rfl⟩
  rw [← hQ]
  refine lv_iload_n hx hb dX7_isNumber_0 rfl (lv_at hl 0 rfl) ?_
  refine lv_bipush (v := nI 48) hx hb dX7_isNumber_1 (by decide) ?_
  refine m_cmp_lt (tgt := 16) hx hb dX7_isNumber_3 (by decide) (by omega) (by omega) (fun c_3 => ?_) (fun c_3 => ?_)
  · refine lv_iconst (v := nI 0) hx hb dX7_isNumber_16 (by decide) ?_
    rw [hQ]
    exact m_zrd hx hb hr hlocks (b_zero (by omega)) dX7_isNumber_17
  · refine lv_iload_n hx hb dX7_isNumber_6 rfl (lv_at hl 0 rfl) ?_
    refine lv_bipush (v := nI 57) hx hb dX7_isNumber_7 (by decide) ?_
    refine m_cmp_gt (tgt := 16) hx hb dX7_isNumber_9 (by decide) (by omega) (by omega) (fun c_9 => ?_) (fun c_9 => ?_)
    · refine lv_iconst (v := nI 0) hx hb dX7_isNumber_16 (by decide) ?_
      rw [hQ]
      exact m_zrd hx hb hr hlocks (b_zero (by omega)) dX7_isNumber_17
    · refine lv_iconst (v := nI 1) hx hb dX7_isNumber_12 (by decide) ?_
      refine lv_goto (tgt := 17) hx hb dX7_isNumber_13 (by decide) ?_
      rw [hQ]
      exact m_zrd hx hb hr hlocks (b_one (by omega)) dX7_isNumber_17

theorem yd_X3_clear : yX3_clear.cls = RX3 ∧ yX3_clear.cls ≠ "java/lang/invoke/MethodHandle" ∧ yX3_clear.cls ≠ "java/lang/invoke/VarHandle" ∧ (parseMethodDescriptor yX3_clear.desc).map (fun d => d.parameters.length) = some 0 := by decide +kernel
set_option maxHeartbeats 4000000 in
set_option maxRecDepth 100000 in
theorem k_X3_clear (l : Launch) (D : va_G) (cI cZ : ClassId) (o q1 n1 n2 : Nat) (pt : Nat → Nat)  : Met l yX3_clear wsX3_clear ({ frames := 0, cells := 0, slots := 0, locals := 0 }) (mPc [.ref o] D cI cZ [(o, .inr (3, [.ref q1, .int (nI n1), .int (nI n2)])), (q1, aN cI 26 pt)]) (mQv D (mA [(o, .inr (3, [.ref q1, .int (nI n1), .int (nI n2)])), (q1, aN cI 26 pt)]) (fun (u : Unit) => True) (fun (u : Unit) => [(o, .inr (3, [.ref q1, .int (nI 0), .int (nI 0)])), (q1, aN cI 26 pt)])) 0 0 (mA [(o, .inr (3, [.ref q1, .int (nI n1), .int (nI n2)])), (q1, aN cI 26 pt)]) := by
  refine Met.ofW (cc := cX3_clear) (maxL := 1) (ret := none) (by decide) rfl ?_
  intro p e s m args below meth c s₁ BB hml hv
  obtain ⟨hargs, hP, hD0, hK⟩ := hv
  have hx := BB.exec
  have hb := BB.bytes
  have hr := BB.returns
  have hts := atoms_spec (ws := wsX3_clear) BB.pre
  have hown : s.vm.findClass RX3 = some m.cls := findClass_of_methodNamed BB.named
  have hlocks := BB.notSynchronized
  have hcf : CallFix p m c cX3_clear 1 s args wsX3_clear RX3 := ⟨hx, hb, hml, hown, hts⟩
  obtain ⟨A, hAe⟩ : ∃ A, A = mA [(o, .inr (3, [.ref q1, .int (nI n1), .int (nI n2)])), (q1, aN cI 26 pt)] := ⟨_, rfl⟩
  have hD : va_D A [(o, .inr (3, [.ref q1, .int (nI n1), .int (nI n2)])), (q1, aN cI 26 pt)] := ⟨hD0.1, fun k q h => by rw [hAe]; exact ⟨k, q.2, h⟩⟩
  have hS : va_S A s.heap s.heap [] := va_S.rf
  rw [← hAe]
  rw [hargs, lg_entry_eq, ← hargs]
  have hl := lv_entry ([.ref o]) (n := 1) (Nat.le_of_ble_eq_true rfl)
  generalize (lg_sl ([.ref o]) ++ List.replicate (1 - (lg_sl ([.ref o])).length) Slot.unset).toArray = ls at hl ⊢
  have hl : lv_has ls 1 [(0, .ref o)] := hl
  obtain ⟨Q, hQ⟩ : ∃ Q, Q = MQ below (mQv D A (fun (u : Unit) => True) (fun (u : Unit) => [(o, .inr (3, [.ref q1, .int (nI 0), .int (nI 0)])), (q1, aN cI 26 pt)])) args s 0 0 A := ⟨_, rfl⟩
  rw [← hQ]
  have i_X3 : ∀ w ∈ u_ws RX3 TX3 3, w ∈ wsX3_clear := by decide +kernel
  have f_15 := hts (.fieldLink RX3 15 "SameAgain$Pairing" "namesOfOne" "I") (by decide +kernel)
  have f_19 := hts (.fieldLink RX3 19 "SameAgain$Pairing" "namesOfOther" "I") (by decide +kernel)
  refine lv_aload_n hx hb dX3_clear_0 rfl (lv_at hl 0 rfl) ?_
  refine lv_iconst (v := nI 0) hx hb dX3_clear_1 (by decide) ?_
  refine va_put (D := D) (ci := 3) (v := .int (nI 0)) (ty := .int) (C := RX3) (T := TX3) (N := 3) hx hb hts i_X3 tyX3 tyX3_ok nmX3 hown hK.1 hP hD hS 0 rfl rfl 1 (by decide) f_15 (fun _ h9 => h9) rfl (by decide +kernel) rfl rfl (Nat.le_of_ble_eq_true rfl) dX3_clear_2 (fun H locs hP hD hS => ?_)
  have hP : va_P D vwCl [(o, .inr (3, [.ref q1, .int (nI 0), .int (nI n2)])), (q1, aN cI 26 pt)] H := hP
  have hD : va_D A [(o, .inr (3, [.ref q1, .int (nI 0), .int (nI n2)])), (q1, aN cI 26 pt)] := hD
  refine lv_aload_n hx hb dX3_clear_5 rfl (lv_at hl 0 rfl) ?_
  refine lv_iconst (v := nI 0) hx hb dX3_clear_6 (by decide) ?_
  refine va_put (D := D) (ci := 3) (v := .int (nI 0)) (ty := .int) (C := RX3) (T := TX3) (N := 3) hx hb hts i_X3 tyX3 tyX3_ok nmX3 hown hK.1 hP hD hS 0 rfl rfl 2 (by decide) f_19 (fun _ h9 => h9) rfl (by decide +kernel) rfl rfl (Nat.le_of_ble_eq_true rfl) dX3_clear_7 (fun H locs hP hD hS => ?_)
  have hP : va_P D vwCl [(o, .inr (3, [.ref q1, .int (nI 0), .int (nI 0)])), (q1, aN cI 26 pt)] H := hP
  have hD : va_D A [(o, .inr (3, [.ref q1, .int (nI 0), .int (nI 0)])), (q1, aN cI 26 pt)] := hD
  rw [hQ]
  exact m_vwr hx hb hr hlocks () (trivial) hP hS dX3_clear_10

theorem yd_X3_join : yX3_join.cls = RX3 ∧ yX3_join.cls ≠ "java/lang/invoke/MethodHandle" ∧ yX3_join.cls ≠ "java/lang/invoke/VarHandle" ∧ (parseMethodDescriptor yX3_join.desc).map (fun d => d.parameters.length) = some 2 := by decide +kernel
set_option maxHeartbeats 4000000 in
set_option maxRecDepth 100000 in
theorem k_X3_join (l : Launch) (D : va_G) (cI cZ : ClassId) (o q1 n1 n2 : Nat) (pt : Nat → Nat) (L : List (Nat × Nat)) (a b : Nat) (hpm : pmC n1 n2 pt L) (ha : a ≤ 126) (hb2 : b ≤ 126) : Met l yX3_join wsX3_join ({ frames := 1, cells := 0, slots := 0, locals := 20 }) (mPc [.ref o, .int (nI a), .int (nI b)] D cI cZ [(o, .inr (3, [.ref q1, .int (nI n1), .int (nI n2)])), (q1, aN cI 26 pt)]) (mQi D (mA [(o, .inr (3, [.ref q1, .int (nI n1), .int (nI n2)])), (q1, aN cI 26 pt)]) (fun (r : Int32) (u : Nat × Nat × (Nat → Nat)) => r = bI (jnB L a b) ∧ pmC u.1 u.2.1 u.2.2 (jnL L a b)) (fun (u : Nat × Nat × (Nat → Nat)) => [(o, .inr (3, [.ref q1, .int (nI u.1), .int (nI u.2.1)])), (q1, aN cI 26 u.2.2)])) 0 0 (mA [(o, .inr (3, [.ref q1, .int (nI n1), .int (nI n2)])), (q1, aN cI 26 pt)]) := by
  refine Met.ofW (cc := cX3_join) (maxL := 5) (ret := (some .boolean)) (by decide) rfl ?_
  intro p e s m args below meth c s₁ BB hml hv
  obtain ⟨hargs, hP, hD0, hK⟩ := hv
  have hx := BB.exec
  have hb := BB.bytes
  have hr := BB.returns
  have hts := atoms_spec (ws := wsX3_join) BB.pre
  have hown : s.vm.findClass RX3 = some m.cls := findClass_of_methodNamed BB.named
  have hlocks := BB.notSynchronized
  have hcf : CallFix p m c cX3_join 5 s args wsX3_join RX3 := ⟨hx, hb, hml, hown, hts⟩
  obtain ⟨A, hAe⟩ : ∃ A, A = mA [(o, .inr (3, [.ref q1, .int (nI n1), .int (nI n2)])), (q1, aN cI 26 pt)] := ⟨_, rfl⟩
  have hD : va_D A [(o, .inr (3, [.ref q1, .int (nI n1), .int (nI n2)])), (q1, aN cI 26 pt)] := ⟨hD0.1, fun k q h => by rw [hAe]; exact ⟨k, q.2, h⟩⟩
  have hS : va_S A s.heap s.heap [] := va_S.rf
  rw [← hAe]
  rw [hargs, lg_entry_eq, ← hargs]
  have hl := lv_entry ([.ref o, .int (nI a), .int (nI b)]) (n := 5) (Nat.le_of_ble_eq_true rfl)
  generalize (lg_sl ([.ref o, .int (nI a), .int (nI b)]) ++ List.replicate (5 - (lg_sl ([.ref o, .int (nI a), .int (nI b)])).length) Slot.unset).toArray = ls at hl ⊢
  have hl : lv_has ls 5 [(0, .ref o), (1, .int (nI a)), (2, .int (nI b))] := hl
  obtain ⟨Q, hQ⟩ : ∃ Q, Q = MQ below (mQi D A (fun (r : Int32) (u : Nat × Nat × (Nat → Nat)) => r = bI (jnB L a b) ∧ pmC u.1 u.2.1 u.2.2 (jnL L a b)) (fun (u : Nat × Nat × (Nat → Nat)) => [(o, .inr (3, [.ref q1, .int (nI u.1), .int (nI u.2.1)])), (q1, aN cI 26 u.2.2)])) args s 0 0 A := ⟨_, rfl⟩
  rw [← hQ]
  have mn_22 := hK.2.2 ("SameAgain$Pairing", 22, ⟨"SameAgain", "isName", "(I)Z"⟩, "SameAgain") (by decide +kernel)
  have in_X7 := hts (.initialized RX7) (by decide +kernel)
  have st_X7_isName := hts (.static yX7_isName) (by decide +kernel)
  have i_X3 : ∀ w ∈ u_ws RX3 TX3 3, w ∈ wsX3_join := by decide +kernel
  have f_15 := hts (.fieldLink RX3 15 "SameAgain$Pairing" "namesOfOne" "I") (by decide +kernel)
  have f_19 := hts (.fieldLink RX3 19 "SameAgain$Pairing" "namesOfOther" "I") (by decide +kernel)
  have f_9 := hts (.fieldLink RX3 9 "SameAgain$Pairing" "partners" "[I") (by decide +kernel)
  refine lv_iload_n hx hb dX3_join_0 rfl (lv_at hl 1 rfl) ?_
  refine m_rdSN (As := [.int (nI a)]) (rest := []) (wc := []) hcf (k_X7_isName (l := l) (D := D) (cI := cI) (cZ := cZ) (a := a) (ha := by omega)) ⟨va_cnB 1 hts gX3_join_X7_isName_n22 rfl rfl rfl mn_22 in_X7 yd_X7_isName.2 ⟨Nat.le_of_ble_eq_true rfl, Nat.le_of_ble_eq_true rfl⟩, st_X7_isName, trivial⟩ (m_preS hK hP hD [] (by decide) rfl) rfl hl.1 rfl (Nat.le_of_ble_eq_true rfl) dX3_join_1 ⟨Nat.zero_le _, Nat.zero_le _⟩ ?_
  refine m_ifB_eq (tgt := 14) hx hb dX3_join_4 (by decide) (fun c_4 => ?_) (fun c_4 => ?_)
  · have X9 : jnB L a b = false := jnB_nm c_4
    refine lv_iconst (v := nI 0) hx hb dX3_join_14 (by decide) ?_
    rw [hQ]
    exact m_zwr hx hb hr hlocks (n1, n2, pt) (nI_01 (by omega)) (⟨bb_zero X9, by rw [jnL_f X9]; exact hpm⟩) hP hS dX3_join_15
  · have ia := nmB_iff.mp c_4
    refine lv_iload_n hx hb dX3_join_7 rfl (lv_at hl 2 rfl) ?_
    refine m_rdSN (As := [.int (nI b)]) (rest := []) (wc := []) hcf (k_X7_isName (l := l) (D := D) (cI := cI) (cZ := cZ) (a := b) (ha := by omega)) ⟨va_cnB 1 hts gX3_join_X7_isName_n22 rfl rfl rfl mn_22 in_X7 yd_X7_isName.2 ⟨Nat.le_of_ble_eq_true rfl, Nat.le_of_ble_eq_true rfl⟩, st_X7_isName, trivial⟩ (m_preS hK hP hD [] (by decide) rfl) rfl hl.1 rfl (Nat.le_of_ble_eq_true rfl) dX3_join_8 ⟨Nat.zero_le _, Nat.zero_le _⟩ ?_
    refine m_ifB_ne (tgt := 16) hx hb dX3_join_11 (by decide) (fun c_11 => ?_) (fun c_11 => ?_)
    · have ib := nmB_iff.mp c_11
      refine lv_iconst (v := nI 1) hx hb dX3_join_16 (by decide) ?_
      refine lv_iload_n hx hb dX3_join_17 rfl (lv_at hl 1 rfl) ?_
      refine lv_bipush (v := nI 97) hx hb dX3_join_18 (by decide) ?_
      refine m_sub hx hb (by omega) dX3_join_20 ?_
      refine m_shl1 hx hb (by omega) dX3_join_21 ?_
      refine lv_istore_n (lv' := [(3, .int (nI (2 ^ (a - 97)))), (0, .ref o), (1, .int (nI a)), (2, .int (nI b))]) hx hb dX3_join_22 rfl hl (by decide) rfl (fun ls hl => ?_)
      refine lv_iconst (v := nI 1) hx hb dX3_join_23 (by decide) ?_
      refine lv_iload_n hx hb dX3_join_24 rfl (lv_at hl 3 rfl) ?_
      refine lv_bipush (v := nI 97) hx hb dX3_join_25 (by decide) ?_
      refine m_sub hx hb (by omega) dX3_join_27 ?_
      refine m_shl1 hx hb (by omega) dX3_join_28 ?_
      refine lv_istore (lv' := [(4, .int (nI (2 ^ (b - 97)))), (3, .int (nI (2 ^ (a - 97)))), (0, .ref o), (1, .int (nI a)), (2, .int (nI b))]) hx hb dX3_join_29 hl (by decide) rfl (fun ls hl => ?_)
      refine lv_aload_n hx hb dX3_join_31 rfl (lv_at hl 2 rfl) ?_
      refine va_get (D := D) (ci := 3) (v := .int (nI n1)) (C := RX3) (T := TX3) (N := 3) hx hb hts i_X3 hown hK.1 hP 0 rfl rfl 1 (by decide) f_15 (fun _ h9 => h9) rfl dX3_join_32 ?_
      refine lv_iload_n hx hb dX3_join_35 rfl (lv_at hl 1 rfl) ?_
      refine m_and hx hb dX3_join_36 ?_
      refine m_if_eq (tgt := 59) hx hb dX3_join_37 (by decide) (and_pow_lt _ (by omega)) (fun c_37 => ?_) (fun c_37 => ?_)
      · refine lv_aload_n hx hb dX3_join_59 rfl (lv_at hl 2 rfl) ?_
        refine va_get (D := D) (ci := 3) (v := .int (nI n2)) (C := RX3) (T := TX3) (N := 3) hx hb hts i_X3 hown hK.1 hP 0 rfl rfl 2 (by decide) f_19 (fun _ h9 => h9) rfl dX3_join_60 ?_
        refine lv_iload hx hb dX3_join_63 (lv_at hl 0 rfl) ?_
        refine m_and hx hb dX3_join_65 ?_
        refine m_if_eq (tgt := 71) hx hb dX3_join_66 (by decide) (and_pow_lt _ (by omega)) (fun c_66 => ?_) (fun c_66 => ?_)
        · refine lv_aload_n hx hb dX3_join_71 rfl (lv_at hl 2 rfl) ?_
          refine lv_dup hx hb dX3_join_72 rfl ?_
          refine va_get (D := D) (ci := 3) (v := .int (nI n1)) (C := RX3) (T := TX3) (N := 3) hx hb hts i_X3 hown hK.1 hP 0 rfl rfl 1 (by decide) f_15 (fun _ h9 => h9) rfl dX3_join_73 ?_
          refine lv_iload_n hx hb dX3_join_76 rfl (lv_at hl 1 rfl) ?_
          refine m_or hx hb dX3_join_77 ?_
          refine va_put (D := D) (ci := 3) (v := .int (nI (n1 ||| (2 ^ (a - 97))))) (ty := .int) (C := RX3) (T := TX3) (N := 3) hx hb hts i_X3 tyX3 tyX3_ok nmX3 hown hK.1 hP hD hS 0 rfl rfl 1 (by decide) f_15 (fun _ h9 => h9) rfl (by decide +kernel) rfl rfl (Nat.le_of_ble_eq_true rfl) dX3_join_78 (fun H locs hP hD hS => ?_)
          have hP : va_P D vwCl [(o, .inr (3, [.ref q1, .int (nI (n1 ||| (2 ^ (a - 97)))), .int (nI n2)])), (q1, aN cI 26 pt)] H := hP
          have hD : va_D A [(o, .inr (3, [.ref q1, .int (nI (n1 ||| (2 ^ (a - 97)))), .int (nI n2)])), (q1, aN cI 26 pt)] := hD
          refine lv_aload_n hx hb dX3_join_81 rfl (lv_at hl 2 rfl) ?_
          refine lv_dup hx hb dX3_join_82 rfl ?_
          refine va_get (D := D) (ci := 3) (v := .int (nI n2)) (C := RX3) (T := TX3) (N := 3) hx hb hts i_X3 hown hK.1 hP 0 rfl rfl 2 (by decide) f_19 (fun _ h9 => h9) rfl dX3_join_83 ?_
          refine lv_iload hx hb dX3_join_86 (lv_at hl 0 rfl) ?_
          refine m_or hx hb dX3_join_88 ?_
          refine va_put (D := D) (ci := 3) (v := .int (nI (n2 ||| (2 ^ (b - 97))))) (ty := .int) (C := RX3) (T := TX3) (N := 3) hx hb hts i_X3 tyX3 tyX3_ok nmX3 hown hK.1 hP hD hS 0 rfl rfl 2 (by decide) f_19 (fun _ h9 => h9) rfl (by decide +kernel) rfl rfl (Nat.le_of_ble_eq_true rfl) dX3_join_89 (fun H locs hP hD hS => ?_)
          have hP : va_P D vwCl [(o, .inr (3, [.ref q1, .int (nI (n1 ||| (2 ^ (a - 97)))), .int (nI (n2 ||| (2 ^ (b - 97))))])), (q1, aN cI 26 pt)] H := hP
          have hD : va_D A [(o, .inr (3, [.ref q1, .int (nI (n1 ||| (2 ^ (a - 97)))), .int (nI (n2 ||| (2 ^ (b - 97))))])), (q1, aN cI 26 pt)] := hD
          refine lv_aload_n hx hb dX3_join_92 rfl (lv_at hl 2 rfl) ?_
          refine va_get (D := D) (ci := 3) (v := .ref q1) (C := RX3) (T := TX3) (N := 3) hx hb hts i_X3 hown hK.1 hP 0 rfl rfl 0 (by decide) f_9 (fun _ h9 => h9) rfl dX3_join_93 ?_
          refine lv_iload_n hx hb dX3_join_96 rfl (lv_at hl 3 rfl) ?_
          refine lv_bipush (v := nI 97) hx hb dX3_join_97 (by decide) ?_
          refine m_sub hx hb (by omega) dX3_join_99 ?_
          refine lv_iload_n hx hb dX3_join_100 rfl (lv_at hl 4 rfl) ?_
          refine m_ast hx hb hK hP hD hS 1 rfl (by decide) (by omega) dX3_join_101 (ws' := [(o, .inr (3, [.ref q1, .int (nI (n1 ||| (2 ^ (a - 97)))), .int (nI (n2 ||| (2 ^ (b - 97))))])), (q1, aN cI 26 (upN pt (a - 97) b))]) rfl (fun H locs hP hD hS => ?_)
          refine lv_iconst (v := nI 1) hx hb dX3_join_102 (by decide) ?_
          rw [hQ]
          have X9 := pm_new hpm ia ib c_37 c_66
          exact m_zwr hx hb hr hlocks (_, _, _) (nI_01 (by omega)) (⟨bb_one X9.1, by rw [jnL_t X9.1]; exact X9.2⟩) hP hS dX3_join_103
        · refine lv_iconst (v := nI 0) hx hb dX3_join_69 (by decide) ?_
          rw [hQ]
          have X9 := pm_clash hpm ia ib c_37 c_66
          exact m_zwr hx hb hr hlocks (n1, n2, pt) (nI_01 (by omega)) (⟨bb_zero X9, by rw [jnL_f X9]; exact hpm⟩) hP hS dX3_join_70
      · refine lv_aload_n hx hb dX3_join_40 rfl (lv_at hl 2 rfl) ?_
        refine va_get (D := D) (ci := 3) (v := .ref q1) (C := RX3) (T := TX3) (N := 3) hx hb hts i_X3 hown hK.1 hP 0 rfl rfl 0 (by decide) f_9 (fun _ h9 => h9) rfl dX3_join_41 ?_
        refine lv_iload_n hx hb dX3_join_44 rfl (lv_at hl 3 rfl) ?_
        refine lv_bipush (v := nI 97) hx hb dX3_join_45 (by decide) ?_
        refine m_sub hx hb (by omega) dX3_join_47 ?_
        refine m_ald hx hb hK hP 1 rfl (by decide) (by omega) dX3_join_48 ?_
        refine lv_iload_n hx hb dX3_join_49 rfl (lv_at hl 4 rfl) ?_
        refine m_cmp_ne (tgt := 57) hx hb dX3_join_50 (by decide) (Nat.lt_of_le_of_lt (hpm.2.2.2.2.2.2 _) (by decide)) (by omega) (fun c_50 => ?_) (fun c_50 => ?_)
        · refine lv_iconst (v := nI 0) hx hb dX3_join_57 (by decide) ?_
          rw [hQ]
          have X9 := (pm_old hpm ia ib c_37).2 c_50
          exact m_zwr hx hb hr hlocks (n1, n2, pt) (nI_01 (by omega)) (⟨bb_zero X9, by rw [jnL_f X9]; exact hpm⟩) hP hS dX3_join_58
        · refine lv_iconst (v := nI 1) hx hb dX3_join_53 (by decide) ?_
          refine lv_goto (tgt := 58) hx hb dX3_join_54 (by decide) ?_
          rw [hQ]
          have X9 := (pm_old hpm ia ib c_37).1 c_50
          exact m_zwr hx hb hr hlocks (n1, n2, pt) (nI_01 (by omega)) (⟨bb_one X9.1, by rw [jnL_t X9.1]; exact X9.2⟩) hP hS dX3_join_58
    · have X9 : jnB L a b = false := jnB_nm2 c_11
      refine lv_iconst (v := nI 0) hx hb dX3_join_14 (by decide) ?_
      rw [hQ]
      exact m_zwr hx hb hr hlocks (n1, n2, pt) (nI_01 (by omega)) (⟨bb_zero X9, by rw [jnL_f X9]; exact hpm⟩) hP hS dX3_join_15

theorem yd_X3_hasPartner : yX3_hasPartner.cls = RX3 ∧ yX3_hasPartner.cls ≠ "java/lang/invoke/MethodHandle" ∧ yX3_hasPartner.cls ≠ "java/lang/invoke/VarHandle" ∧ (parseMethodDescriptor yX3_hasPartner.desc).map (fun d => d.parameters.length) = some 1 := by decide +kernel
set_option maxHeartbeats 4000000 in
set_option maxRecDepth 100000 in
theorem k_X3_hasPartner (l : Launch) (D : va_G) (cI cZ : ClassId) (o q1 n1 n2 : Nat) (pt : Nat → Nat) (L : List (Nat × Nat)) (a : Nat) (hpm : pmC n1 n2 pt L) (ha : a ≤ 126) : Met l yX3_hasPartner wsX3_hasPartner ({ frames := 1, cells := 0, slots := 0, locals := 20 }) (mPc [.ref o, .int (nI a)] D cI cZ [(o, .inr (3, [.ref q1, .int (nI n1), .int (nI n2)])), (q1, aN cI 26 pt)]) (QcRead (bI (hpB L a))) 0 0 (fun _ => False) := by
  refine Met.ofW (cc := cX3_hasPartner) (maxL := 2) (ret := (some .boolean)) (by decide) rfl ?_
  intro p e s m args below meth c s₁ BB hml hv
  obtain ⟨hargs, hP, hD0, hK⟩ := hv
  have hx := BB.exec
  have hb := BB.bytes
  have hr := BB.returns
  have hts := atoms_spec (ws := wsX3_hasPartner) BB.pre
  have hown : s.vm.findClass RX3 = some m.cls := findClass_of_methodNamed BB.named
  have hlocks := BB.notSynchronized
  have hcf : CallFix p m c cX3_hasPartner 2 s args wsX3_hasPartner RX3 := ⟨hx, hb, hml, hown, hts⟩
  have hD := hD0
  rw [hargs, lg_entry_eq, ← hargs]
  have hl := lv_entry ([.ref o, .int (nI a)]) (n := 2) (Nat.le_of_ble_eq_true rfl)
  generalize (lg_sl ([.ref o, .int (nI a)]) ++ List.replicate (2 - (lg_sl ([.ref o, .int (nI a)])).length) Slot.unset).toArray = ls at hl ⊢
  have hl : lv_has ls 2 [(0, .ref o), (1, .int (nI a))] := hl
  obtain ⟨Q, hQ⟩ : ∃ Q, Q = MQ below (QcRead (bI (hpB L a))) args s 0 0 (fun _ => False) := ⟨_, rfl⟩
  rw [← hQ]
  have mn_22 := hK.2.2 ("SameAgain$Pairing", 22, ⟨"SameAgain", "isName", "(I)Z"⟩, "SameAgain") (by decide +kernel)
  have in_X7 := hts (.initialized RX7) (by decide +kernel)
  have st_X7_isName := hts (.static yX7_isName) (by decide +kernel)
  have i_X3 : ∀ w ∈ u_ws RX3 TX3 3, w ∈ wsX3_hasPartner := by decide +kernel
  have f_15 := hts (.fieldLink RX3 15 "SameAgain$Pairing" "namesOfOne" "I") (by decide +kernel)
  refine lv_iload_n hx hb dX3_hasPartner_0 rfl (lv_at hl 1 rfl) ?_
  refine m_rdSN (As := [.int (nI a)]) (rest := []) (wc := []) hcf (k_X7_isName (l := l) (D := D) (cI := cI) (cZ := cZ) (a := a) (ha := by omega)) ⟨va_cnB 1 hts gX3_hasPartner_X7_isName_n22 rfl rfl rfl mn_22 in_X7 yd_X7_isName.2 ⟨Nat.le_of_ble_eq_true rfl, Nat.le_of_ble_eq_true rfl⟩, st_X7_isName, trivial⟩ (m_preS hK hP hD [] (by decide) rfl) rfl hl.1 rfl (Nat.le_of_ble_eq_true rfl) dX3_hasPartner_1 ⟨Nat.zero_le _, Nat.zero_le _⟩ ?_
  refine m_ifB_eq (tgt := 25) hx hb dX3_hasPartner_4 (by decide) (fun c_4 => ?_) (fun c_4 => ?_)
  · refine lv_iconst (v := nI 0) hx hb dX3_hasPartner_25 (by decide) ?_
    rw [hQ]
    exact m_zrd hx hb hr hlocks (bb_zero (hpB_f (by first | (rw [c_4]; rintro ⟨h, -⟩; cases h; done) | (rintro ⟨-, q, hq, e⟩; exact pm_hasnt hpm ia c_18 q hq e)))) dX3_hasPartner_26
  · have ia := nmB_iff.mp c_4
    refine lv_aload_n hx hb dX3_hasPartner_7 rfl (lv_at hl 0 rfl) ?_
    refine va_get (D := D) (ci := 3) (v := .int (nI n1)) (C := RX3) (T := TX3) (N := 3) hx hb hts i_X3 hown hK.1 hP 0 rfl rfl 1 (by decide) f_15 (fun _ h9 => h9) rfl dX3_hasPartner_8 ?_
    refine lv_iconst (v := nI 1) hx hb dX3_hasPartner_11 (by decide) ?_
    refine lv_iload_n hx hb dX3_hasPartner_12 rfl (lv_at hl 1 rfl) ?_
    refine lv_bipush (v := nI 97) hx hb dX3_hasPartner_13 (by decide) ?_
    refine m_sub hx hb (by omega) dX3_hasPartner_15 ?_
    refine m_shl1 hx hb (by omega) dX3_hasPartner_16 ?_
    refine m_and hx hb dX3_hasPartner_17 ?_
    refine m_if_eq (tgt := 25) hx hb dX3_hasPartner_18 (by decide) (and_pow_lt _ (by omega)) (fun c_18 => ?_) (fun c_18 => ?_)
    · refine lv_iconst (v := nI 0) hx hb dX3_hasPartner_25 (by decide) ?_
      rw [hQ]
      exact m_zrd hx hb hr hlocks (bb_zero (hpB_f (by first | (rw [c_4]; rintro ⟨h, -⟩; cases h; done) | (rintro ⟨-, q, hq, e⟩; exact pm_hasnt hpm ia c_18 q hq e)))) dX3_hasPartner_26
    · refine lv_iconst (v := nI 1) hx hb dX3_hasPartner_21 (by decide) ?_
      refine lv_goto (tgt := 26) hx hb dX3_hasPartner_22 (by decide) ?_
      rw [hQ]
      exact m_zrd hx hb hr hlocks (bb_one (hpB_iff.mpr ⟨c_4, by obtain ⟨q, hq, e, -⟩ := pm_has hpm ia c_18; exact ⟨q, hq, e⟩⟩)) dX3_hasPartner_26

theorem yd_X3_renamed : yX3_renamed.cls = RX3 ∧ yX3_renamed.cls ≠ "java/lang/invoke/MethodHandle" ∧ yX3_renamed.cls ≠ "java/lang/invoke/VarHandle" ∧ (parseMethodDescriptor yX3_renamed.desc).map (fun d => d.parameters.length) = some 1 := by decide +kernel
set_option maxHeartbeats 4000000 in
set_option maxRecDepth 100000 in
theorem k_X3_renamed (l : Launch) (D : va_G) (cI cZ : ClassId) (o q1 n1 n2 : Nat) (pt : Nat → Nat) (L : List (Nat × Nat)) (a : Nat) (hpm : pmC n1 n2 pt L) (ha : a ≤ 126) : Met l yX3_renamed wsX3_renamed ({ frames := 2, cells := 0, slots := 0, locals := 41 }) (mPc [.ref o, .int (nI a)] D cI cZ [(o, .inr (3, [.ref q1, .int (nI n1), .int (nI n2)])), (q1, aN cI 26 pt)]) (QcRead (nI (rnN L a))) 0 0 (fun _ => False) := by
  refine Met.ofW (cc := cX3_renamed) (maxL := 2) (ret := (some .int)) (by decide) rfl ?_
  intro p e s m args below meth c s₁ BB hml hv
  obtain ⟨hargs, hP, hD0, hK⟩ := hv
  have hx := BB.exec
  have hb := BB.bytes
  have hr := BB.returns
  have hts := atoms_spec (ws := wsX3_renamed) BB.pre
  have hown : s.vm.findClass RX3 = some m.cls := findClass_of_methodNamed BB.named
  have hlocks := BB.notSynchronized
  have hcf : CallFix p m c cX3_renamed 2 s args wsX3_renamed RX3 := ⟨hx, hb, hml, hown, hts⟩
  have hD := hD0
  rw [hargs, lg_entry_eq, ← hargs]
  have hl := lv_entry ([.ref o, .int (nI a)]) (n := 2) (Nat.le_of_ble_eq_true rfl)
  generalize (lg_sl ([.ref o, .int (nI a)]) ++ List.replicate (2 - (lg_sl ([.ref o, .int (nI a)])).length) Slot.unset).toArray = ls at hl ⊢
  have hl : lv_has ls 2 [(0, .ref o), (1, .int (nI a))] := hl
  obtain ⟨Q, hQ⟩ : ∃ Q, Q = MQ below (QcRead (nI (rnN L a))) args s 0 0 (fun _ => False) := ⟨_, rfl⟩
  rw [← hQ]
  have i_X3 : ∀ w ∈ u_ws RX3 TX3 3, w ∈ wsX3_renamed := by decide +kernel
  have f_9 := hts (.fieldLink RX3 9 "SameAgain$Pairing" "partners" "[I") (by decide +kernel)
  refine lv_aload_n hx hb dX3_renamed_0 rfl (lv_at hl 0 rfl) ?_
  refine lv_iload_n hx hb dX3_renamed_1 rfl (lv_at hl 1 rfl) ?_
  refine m_rdV (As := [.int (nI a)]) (rest := []) (wc := [(o, .inr (3, [.ref q1, .int (nI n1), .int (nI n2)])), (q1, aN cI 26 pt)]) hcf (k_X3_hasPartner (l := l) (D := D) (cI := cI) (cZ := cZ) (a := a) (o := o) (q1 := q1) (n1 := n1) (n2 := n2) (pt := pt) (hpm := hpm) (ha := ha)) (cwV 1 hts gX3_renamed_X3_hasPartner rfl rfl rfl yd_X3_hasPartner ⟨Nat.le_of_ble_eq_true rfl, Nat.le_of_ble_eq_true rfl⟩) (m_preV hK hP hD [0, 1] (by decide) rfl rfl rfl) rfl hl.1 rfl (Nat.le_of_ble_eq_true rfl) dX3_renamed_2 ⟨Nat.zero_le _, Nat.zero_le _⟩ ?_
  refine m_ifB_eq (tgt := 20) hx hb dX3_renamed_5 (by decide) (fun c_5 => ?_) (fun c_5 => ?_)
  · have ia := c_5
    refine lv_iload_n hx hb dX3_renamed_20 rfl (lv_at hl 1 rfl) ?_
    rw [hQ]
    exact m_ird hx hb hr hlocks (by rw [rnN_o hpm ia]) dX3_renamed_21
  · have ia := nmB_iff.mp (hpB_iff.mp c_5).1
    obtain ⟨q, hq, eq⟩ := (hpB_iff.mp c_5).2
    refine lv_aload_n hx hb dX3_renamed_8 rfl (lv_at hl 0 rfl) ?_
    refine va_get (D := D) (ci := 3) (v := .ref q1) (C := RX3) (T := TX3) (N := 3) hx hb hts i_X3 hown hK.1 hP 0 rfl rfl 0 (by decide) f_9 (fun _ h9 => h9) rfl dX3_renamed_9 ?_
    refine lv_iload_n hx hb dX3_renamed_12 rfl (lv_at hl 1 rfl) ?_
    refine lv_bipush (v := nI 97) hx hb dX3_renamed_13 (by decide) ?_
    refine m_sub hx hb (by omega) dX3_renamed_15 ?_
    refine m_ald hx hb hK hP 1 rfl (by decide) (by omega) dX3_renamed_16 ?_
    refine lv_goto (tgt := 21) hx hb dX3_renamed_17 (by decide) ?_
    rw [hQ]
    exact m_ird hx hb hr hlocks (by rw [← eq, rnN_in hpm.2.2.2.2.2.1 hq, (hpm.2.2.2.2.1 q hq).2.2]) dX3_renamed_21

theorem yd_X3_firstNameThatFits : yX3_firstNameThatFits.cls = RX3 ∧ yX3_firstNameThatFits.cls ≠ "java/lang/invoke/MethodHandle" ∧ yX3_firstNameThatFits.cls ≠ "java/lang/invoke/VarHandle" ∧ (parseMethodDescriptor yX3_firstNameThatFits.desc).map (fun d => d.parameters.length) = some 1 := by decide +kernel
set_option maxHeartbeats 4000000 in
set_option maxRecDepth 100000 in
theorem k_X3_firstNameThatFits (l : Launch) (D : va_G) (cI cZ : ClassId) (o q1 n1 n2 : Nat) (pt : Nat → Nat) (L : List (Nat × Nat)) (a : Nat) (hpm : pmC n1 n2 pt L) (ha : a ≤ 126) (hna : nmB a = true) : Met l yX3_firstNameThatFits wsX3_firstNameThatFits ({ frames := 3, cells := 0, slots := 0, locals := 62 }) (mPc [.ref o, .int (nI a)] D cI cZ [(o, .inr (3, [.ref q1, .int (nI n1), .int (nI n2)])), (q1, aN cI 26 pt)]) (QcRead (nI (ffN L a))) 0 0 (fun _ => False) := by
  refine Met.ofW (cc := cX3_firstNameThatFits) (maxL := 3) (ret := (some .int)) (by decide) rfl ?_
  intro p e s m args below meth c s₁ BB hml hv
  obtain ⟨hargs, hP, hD0, hK⟩ := hv
  have hx := BB.exec
  have hb := BB.bytes
  have hr := BB.returns
  have hts := atoms_spec (ws := wsX3_firstNameThatFits) BB.pre
  have hown : s.vm.findClass RX3 = some m.cls := findClass_of_methodNamed BB.named
  have hlocks := BB.notSynchronized
  have hcf : CallFix p m c cX3_firstNameThatFits 3 s args wsX3_firstNameThatFits RX3 := ⟨hx, hb, hml, hown, hts⟩
  have hD := hD0
  rw [hargs, lg_entry_eq, ← hargs]
  have hl := lv_entry ([.ref o, .int (nI a)]) (n := 3) (Nat.le_of_ble_eq_true rfl)
  generalize (lg_sl ([.ref o, .int (nI a)]) ++ List.replicate (3 - (lg_sl ([.ref o, .int (nI a)])).length) Slot.unset).toArray = ls at hl ⊢
  have hl : lv_has ls 3 [(0, .ref o), (1, .int (nI a))] := hl
  obtain ⟨Q, hQ⟩ : ∃ Q, Q = MQ below (QcRead (nI (ffN L a))) args s 0 0 (fun _ => False) := ⟨_, rfl⟩
  rw [← hQ]
  have i_X3 : ∀ w ∈ u_ws RX3 TX3 3, w ∈ wsX3_firstNameThatFits := by decide +kernel
  have f_19 := hts (.fieldLink RX3 19 "SameAgain$Pairing" "namesOfOther" "I") (by decide +kernel)
  refine lv_aload_n hx hb dX3_firstNameThatFits_0 rfl (lv_at hl 0 rfl) ?_
  refine lv_iload_n hx hb dX3_firstNameThatFits_1 rfl (lv_at hl 1 rfl) ?_
  refine m_rdV (As := [.int (nI a)]) (rest := []) (wc := [(o, .inr (3, [.ref q1, .int (nI n1), .int (nI n2)])), (q1, aN cI 26 pt)]) hcf (k_X3_hasPartner (l := l) (D := D) (cI := cI) (cZ := cZ) (a := a) (o := o) (q1 := q1) (n1 := n1) (n2 := n2) (pt := pt) (hpm := hpm) (ha := ha)) (cwV 1 hts gX3_firstNameThatFits_X3_hasPartner rfl rfl rfl yd_X3_hasPartner ⟨Nat.le_of_ble_eq_true rfl, Nat.le_of_ble_eq_true rfl⟩) (m_preV hK hP hD [0, 1] (by decide) rfl rfl rfl) rfl hl.1 rfl (Nat.le_of_ble_eq_true rfl) dX3_firstNameThatFits_2 ⟨Nat.zero_le _, Nat.zero_le _⟩ ?_
  refine m_ifB_eq (tgt := 14) hx hb dX3_firstNameThatFits_5 (by decide) (fun c_5 => ?_) (fun c_5 => ?_)
  · refine lv_iconst (v := nI 0) hx hb dX3_firstNameThatFits_14 (by decide) ?_
    refine lv_istore_n (lv' := [(2, .int (nI 0)), (0, .ref o), (1, .int (nI a))]) hx hb dX3_firstNameThatFits_15 rfl hl (by decide) rfl (fun ls hl => ?_)
    have loop_16 : ∀ (fu : Nat) (k : Nat) (hfu : 26 - k < fu)  (hk : k ≤ 26) (hall : ∀ j, j < k → ∃ q ∈ L, q.2 = j + 97) (ls : Array Slot) (hl : lv_has ls 3 [(0, .ref o), (1, .int (nI a)), (2, .int (nI k))]), W p l e (headSpec wsX3_firstNameThatFits { frames := 3, cells := 0, slots := 0, locals := 62 }).room s m args below meth c s.heap [] 0 0 Q (F0 m 16 ls []) := by
      intro fu
      induction fu with
      | zero => intro k hfu; exact absurd hfu (Nat.not_lt_zero _)
      | succ fu ih_16 =>
        intro k hfu hk hall ls hl
        refine lv_iload_n hx hb dX3_firstNameThatFits_16 rfl (lv_at hl 2 rfl) ?_
        refine lv_bipush (v := nI 26) hx hb dX3_firstNameThatFits_17 (by decide) ?_
        refine m_cmp_ge (tgt := 44) hx hb dX3_firstNameThatFits_19 (by decide) (by omega) (by omega) (fun c_19 => ?_) (fun c_19 => ?_)
        · refine lv_iconst (v := nI 0) hx hb dX3_firstNameThatFits_44 (by decide) ?_
          rw [hQ]
          exact m_ird hx hb hr hlocks (by rw [ffN_no c_5 (fun j hj => hall j (by omega))]) dX3_firstNameThatFits_45
        · refine lv_aload_n hx hb dX3_firstNameThatFits_22 rfl (lv_at hl 0 rfl) ?_
          refine va_get (D := D) (ci := 3) (v := .int (nI n2)) (C := RX3) (T := TX3) (N := 3) hx hb hts i_X3 hown hK.1 hP 0 rfl rfl 2 (by decide) f_19 (fun _ h9 => h9) rfl dX3_firstNameThatFits_23 ?_
          refine lv_iconst (v := nI 1) hx hb dX3_firstNameThatFits_26 (by decide) ?_
          refine lv_iload_n hx hb dX3_firstNameThatFits_27 rfl (lv_at hl 2 rfl) ?_
          refine m_shl1 hx hb (by omega) dX3_firstNameThatFits_28 ?_
          refine m_and hx hb dX3_firstNameThatFits_29 ?_
          refine m_if_ne (tgt := 38) hx hb dX3_firstNameThatFits_30 (by decide) (and_pow_lt _ (by omega)) (fun c_30 => ?_) (fun c_30 => ?_)
          · refine lv_iinc (v := nI (k + 1)) (lv' := [(2, .int (nI (k + 1))), (0, .ref o), (1, .int (nI a))]) hx hb dX3_firstNameThatFits_38 hl (k := 2) rfl ((nI_succ _).symm) (by decide) rfl (fun ls hl => ?_)
            refine lv_goto (tgt := 16) hx hb dX3_firstNameThatFits_41 (by decide) ?_
            have e9 : ∃ q ∈ L, q.2 = k + 97 := (hpm.2.2.2.1 k (by omega)).mp (and_pow_ne.mp c_30)
            exact ih_16 (k + 1) (by omega) (by omega) (lt_s hall e9)  ls (lv_sub hl [1, 2, 0] rfl)
          · refine lv_bipush (v := nI 97) hx hb dX3_firstNameThatFits_33 (by decide) ?_
            refine lv_iload_n hx hb dX3_firstNameThatFits_35 rfl (lv_at hl 2 rfl) ?_
            refine m_add hx hb dX3_firstNameThatFits_36 ?_
            rw [hQ]
            exact m_ird hx hb hr hlocks (by rw [ffN_at c_5 (by omega) hall (fun q hq e => and_pow_ne.mpr ((hpm.2.2.2.1 k (by omega)).mpr ⟨q, hq, e⟩) c_30)]) dX3_firstNameThatFits_37
    exact loop_16 27 0 (by omega) (by omega) (fun j hj => absurd hj (Nat.not_lt_zero j))  ls (lv_sub hl [1, 2, 0] rfl)
  · refine lv_aload_n hx hb dX3_firstNameThatFits_8 rfl (lv_at hl 0 rfl) ?_
    refine lv_iload_n hx hb dX3_firstNameThatFits_9 rfl (lv_at hl 1 rfl) ?_
    refine m_rdV (As := [.int (nI a)]) (rest := []) (wc := [(o, .inr (3, [.ref q1, .int (nI n1), .int (nI n2)])), (q1, aN cI 26 pt)]) hcf (k_X3_renamed (l := l) (D := D) (cI := cI) (cZ := cZ) (a := a) (o := o) (q1 := q1) (n1 := n1) (n2 := n2) (pt := pt) (hpm := hpm) (ha := ha)) (cwV 1 hts gX3_firstNameThatFits_X3_renamed rfl rfl rfl yd_X3_renamed ⟨Nat.le_of_ble_eq_true rfl, Nat.le_of_ble_eq_true rfl⟩) (m_preV hK hP hD [0, 1] (by decide) rfl rfl rfl) rfl hl.1 rfl (Nat.le_of_ble_eq_true rfl) dX3_firstNameThatFits_10 ⟨Nat.zero_le _, Nat.zero_le _⟩ ?_
    rw [hQ]
    exact m_ird hx hb hr hlocks (by unfold ffN; rw [if_pos c_5]) dX3_firstNameThatFits_13
