theorem yd_X0_init : yX0_init.cls ≠ "java/lang/invoke/MethodHandle" ∧ yX0_init.cls ≠ "java/lang/invoke/VarHandle" ∧ (parseMethodDescriptor yX0_init.desc).map (fun d => d.parameters.length) = some 0 := by decide +kernel
set_option maxHeartbeats 4000000 in
set_option maxRecDepth 100000 in
theorem k_X0_init (l : Launch) (D : va_G) (cI cZ : ClassId) (o : Nat) (sz : Nat) : Met l yX0_init wsX0_init ({ frames := 1, cells := 2, slots := 720, locals := 12 }) (mPn [.ref o] D cI cZ [(o, .inr (0, [.null, .null, .int (nI 0), .int (nI 0)]))] sz) (mQn D (va_A [(o, .inr (0, [.null, .null, .int (nI 0), .int (nI 0)]))] sz) (fun (u : Nat × Nat) => [(o, .inr (0, [.ref u.1, .ref u.2, .int (nI 0), .int (nI 1)])), (u.1, aN cI 640 (fun _ => 0)), (u.2, aN cI 80 (fun _ => 0))])) 2 720 (va_A [(o, .inr (0, [.null, .null, .int (nI 0), .int (nI 0)]))] sz) := by
  refine Met.ofW (cc := cX0_init) (maxL := 1) (ret := none) (by decide) rfl ?_
  intro p e s m args below meth c s₁ BB hml hv
  obtain ⟨hargs, hsz, hP, hD0, hK⟩ := hv
  have hx := BB.exec
  have hb := BB.bytes
  have hr := BB.returns
  have hts := atoms_spec (ws := wsX0_init) BB.pre
  have hown : s.vm.findClass RX0 = some m.cls := findClass_of_methodNamed BB.named
  have hlocks := BB.notSynchronized
  have hin : meth.name = "<init>" := (name_of_methodNamed BB.named BB.method).1
  have hcf : CallFix p m c cX0_init 1 s args wsX0_init RX0 := ⟨hx, hb, hml, hown, hts⟩
  subst hsz
  have hD := hD0.self (sz := s.heap.size)
  generalize hAe : va_A [(o, .inr (0, [.null, .null, .int (nI 0), .int (nI 0)]))] s.heap.size = A at hD ⊢
  have hA : ∀ q : Nat, s.heap.size ≤ q → A q := fun q h => by rw [← hAe]; exact Or.inr h
  have hS : va_S A s.heap s.heap [] := va_S.rf
  rw [hargs, lg_entry_eq, ← hargs]
  have hl := lv_entry ([.ref o]) (n := 1) (Nat.le_of_ble_eq_true rfl)
  generalize (lg_sl ([.ref o]) ++ List.replicate (1 - (lg_sl ([.ref o])).length) Slot.unset).toArray = ls at hl ⊢
  have hl : lv_has ls 1 [(0, .ref o)] := hl
  obtain ⟨Q, hQ⟩ : ∃ Q, Q = MQ below (mQn D A (fun (u : Nat × Nat) => [(o, .inr (0, [.ref u.1, .ref u.2, .int (nI 0), .int (nI 1)])), (u.1, aN cI 640 (fun _ => 0)), (u.2, aN cI 80 (fun _ => 0))])) args s 2 720 A := ⟨_, rfl⟩
  rw [← hQ]
  have l_3 := hts (.methodLink RX0 3 objectInit) (by decide +kernel)
  have l_oi := hts (.instanceMethod objectInit) (by decide +kernel)
  have l_oc := hts (.code objectInit ⟨#[0xb1]⟩ 1 none) (by decide +kernel)
  have ar_I := hts (.arrayClass .int) (by decide +kernel)
  have f_9 := hts (.fieldLink RX0 9 "SameAgain$Code" "signs" "[I") (by decide +kernel)
  have i_X0 : ∀ w ∈ u_ws RX0 TX0 4, w ∈ wsX0_init := by decide +kernel
  have f_15 := hts (.fieldLink RX0 15 "SameAgain$Code" "sizes" "[I") (by decide +kernel)
  have f_18 := hts (.fieldLink RX0 18 "SameAgain$Code" "lineCount" "I") (by decide +kernel)
  have f_22 := hts (.fieldLink RX0 22 "SameAgain$Code" "versionCount" "I") (by decide +kernel)
  refine lv_aload_n hx hb dX0_init_0 rfl (lv_at hl 0 rfl) ?_
  refine W.objInit hx hb hown l_3 l_oi l_oc rfl (by rw [hml]; exact hl.1) rfl dX0_init_1 (Nat.le_of_ble_eq_true rfl) (Nat.le_of_ble_eq_true rfl) ?_
  refine W.eq (g2 := F0 m 4 ls []) rfl ?_
  refine lv_aload_n hx hb dX0_init_4 rfl (lv_at hl 0 rfl) ?_
  refine lv_sipush (v := nI 640) hx hb dX0_init_5 (by decide) ?_
  refine m_newI (k := 640) hx hb ar_I hK hP hD hS hA (by decide) (Nat.le_of_ble_eq_true rfl) (Nat.le_of_ble_eq_true rfl) dX0_init_8 (fun q8 H hP hD hS => ?_)
  have hP : va_P D vwCl [(o, .inr (0, [.null, .null, .int (nI 0), .int (nI 0)])), (q8, aN cI 640 (fun _ => 0))] H := hP
  have hD : va_D A [(o, .inr (0, [.null, .null, .int (nI 0), .int (nI 0)])), (q8, aN cI 640 (fun _ => 0))] := hD
  refine W.widen (k := 1) (n := 640) (Nat.le_of_ble_eq_true rfl) (Nat.le_of_ble_eq_true rfl) ?_
  refine va_putF (D := D) (ci := 0) (v := .ref q8) (ty := .array .int) (C := RX0) (T := TX0) (N := 4) hx hb hts i_X0 tyX0 tyX0_ok nmX0 hown hK.1 hP hD hS 0 rfl rfl 0 (by decide) f_9 (fun _ h9 => h9) rfl hin rfl (by decide +kernel) rfl rfl (Nat.le_of_ble_eq_true rfl) dX0_init_10 (fun H locs hP hD hS => ?_)
  have hP : va_P D vwCl [(o, .inr (0, [.ref q8, .null, .int (nI 0), .int (nI 0)])), (q8, aN cI 640 (fun _ => 0))] H := hP
  have hD : va_D A [(o, .inr (0, [.ref q8, .null, .int (nI 0), .int (nI 0)])), (q8, aN cI 640 (fun _ => 0))] := hD
  refine lv_aload_n hx hb dX0_init_13 rfl (lv_at hl 0 rfl) ?_
  refine lv_bipush (v := nI 80) hx hb dX0_init_14 (by decide) ?_
  refine m_newI (k := 80) hx hb ar_I hK hP hD hS hA (by decide) (Nat.le_of_ble_eq_true rfl) (Nat.le_of_ble_eq_true rfl) dX0_init_16 (fun q16 H hP hD hS => ?_)
  have hP : va_P D vwCl [(o, .inr (0, [.ref q8, .null, .int (nI 0), .int (nI 0)])), (q8, aN cI 640 (fun _ => 0)), (q16, aN cI 80 (fun _ => 0))] H := hP
  have hD : va_D A [(o, .inr (0, [.ref q8, .null, .int (nI 0), .int (nI 0)])), (q8, aN cI 640 (fun _ => 0)), (q16, aN cI 80 (fun _ => 0))] := hD
  refine W.widen (k := 2) (n := 720) (Nat.le_of_ble_eq_true rfl) (Nat.le_of_ble_eq_true rfl) ?_
  refine va_putF (D := D) (ci := 0) (v := .ref q16) (ty := .array .int) (C := RX0) (T := TX0) (N := 4) hx hb hts i_X0 tyX0 tyX0_ok nmX0 hown hK.1 hP hD hS 0 rfl rfl 1 (by decide) f_15 (fun _ h9 => h9) rfl hin rfl (by decide +kernel) rfl rfl (Nat.le_of_ble_eq_true rfl) dX0_init_18 (fun H locs hP hD hS => ?_)
  have hP : va_P D vwCl [(o, .inr (0, [.ref q8, .ref q16, .int (nI 0), .int (nI 0)])), (q8, aN cI 640 (fun _ => 0)), (q16, aN cI 80 (fun _ => 0))] H := hP
  have hD : va_D A [(o, .inr (0, [.ref q8, .ref q16, .int (nI 0), .int (nI 0)])), (q8, aN cI 640 (fun _ => 0)), (q16, aN cI 80 (fun _ => 0))] := hD
  refine lv_aload_n hx hb dX0_init_21 rfl (lv_at hl 0 rfl) ?_
  refine lv_iconst (v := nI 0) hx hb dX0_init_22 (by decide) ?_
  refine va_put (D := D) (ci := 0) (v := .int (nI 0)) (ty := .int) (C := RX0) (T := TX0) (N := 4) hx hb hts i_X0 tyX0 tyX0_ok nmX0 hown hK.1 hP hD hS 0 rfl rfl 2 (by decide) f_18 (fun _ h9 => h9) rfl (by decide +kernel) rfl rfl (Nat.le_of_ble_eq_true rfl) dX0_init_23 (fun H locs hP hD hS => ?_)
  have hP : va_P D vwCl [(o, .inr (0, [.ref q8, .ref q16, .int (nI 0), .int (nI 0)])), (q8, aN cI 640 (fun _ => 0)), (q16, aN cI 80 (fun _ => 0))] H := hP
  have hD : va_D A [(o, .inr (0, [.ref q8, .ref q16, .int (nI 0), .int (nI 0)])), (q8, aN cI 640 (fun _ => 0)), (q16, aN cI 80 (fun _ => 0))] := hD
  refine lv_aload_n hx hb dX0_init_26 rfl (lv_at hl 0 rfl) ?_
  refine lv_iconst (v := nI 1) hx hb dX0_init_27 (by decide) ?_
  refine va_put (D := D) (ci := 0) (v := .int (nI 1)) (ty := .int) (C := RX0) (T := TX0) (N := 4) hx hb hts i_X0 tyX0 tyX0_ok nmX0 hown hK.1 hP hD hS 0 rfl rfl 3 (by decide) f_22 (fun _ h9 => h9) rfl (by decide +kernel) rfl rfl (Nat.le_of_ble_eq_true rfl) dX0_init_28 (fun H locs hP hD hS => ?_)
  have hP : va_P D vwCl [(o, .inr (0, [.ref q8, .ref q16, .int (nI 0), .int (nI 1)])), (q8, aN cI 640 (fun _ => 0)), (q16, aN cI 80 (fun _ => 0))] H := hP
  have hD : va_D A [(o, .inr (0, [.ref q8, .ref q16, .int (nI 0), .int (nI 1)])), (q8, aN cI 640 (fun _ => 0)), (q16, aN cI 80 (fun _ => 0))] := hD
  rw [hQ]
  exact m_vn hx hb hr hlocks (q8, q16) hP hD hS dX0_init_31
theorem yd_X1_init : yX1_init.cls ≠ "java/lang/invoke/MethodHandle" ∧ yX1_init.cls ≠ "java/lang/invoke/VarHandle" ∧ (parseMethodDescriptor yX1_init.desc).map (fun d => d.parameters.length) = some 1 := by decide +kernel
set_option maxHeartbeats 4000000 in
set_option maxRecDepth 100000 in
theorem k_X1_init (l : Launch) (D : va_G) (cI cZ : ClassId) (o oc : Nat) (sz : Nat) : Met l yX1_init wsX1_init ({ frames := 1, cells := 1, slots := 81, locals := 12 }) (mPn [.ref o, .ref oc] D cI cZ [(o, .inr (1, [.null, .null]))] sz) (mQn D (va_A [(o, .inr (1, [.null, .null]))] sz) (fun (u : Nat) => [(o, .inr (1, [.ref oc, .ref u])), (u, aN cI 81 (fun _ => 0))])) 1 81 (va_A [(o, .inr (1, [.null, .null]))] sz) := by
  refine Met.ofW (cc := cX1_init) (maxL := 2) (ret := none) (by decide) rfl ?_
  intro p e s m args below meth c s₁ BB hml hv
  obtain ⟨hargs, hsz, hP, hD0, hK⟩ := hv
  have hx := BB.exec
  have hb := BB.bytes
  have hr := BB.returns
  have hts := atoms_spec (ws := wsX1_init) BB.pre
  have hown : s.vm.findClass RX1 = some m.cls := findClass_of_methodNamed BB.named
  have hlocks := BB.notSynchronized
  have hin : meth.name = "<init>" := (name_of_methodNamed BB.named BB.method).1
  have hcf : CallFix p m c cX1_init 2 s args wsX1_init RX1 := ⟨hx, hb, hml, hown, hts⟩
  subst hsz
  have hD := hD0.self (sz := s.heap.size)
  generalize hAe : va_A [(o, .inr (1, [.null, .null]))] s.heap.size = A at hD ⊢
  have hA : ∀ q : Nat, s.heap.size ≤ q → A q := fun q h => by rw [← hAe]; exact Or.inr h
  have hS : va_S A s.heap s.heap [] := va_S.rf
  rw [hargs, lg_entry_eq, ← hargs]
  have hl := lv_entry ([.ref o, .ref oc]) (n := 2) (Nat.le_of_ble_eq_true rfl)
  generalize (lg_sl ([.ref o, .ref oc]) ++ List.replicate (2 - (lg_sl ([.ref o, .ref oc])).length) Slot.unset).toArray = ls at hl ⊢
  have hl : lv_has ls 2 [(0, .ref o), (1, .ref oc)] := hl
  obtain ⟨Q, hQ⟩ : ∃ Q, Q = MQ below (mQn D A (fun (u : Nat) => [(o, .inr (1, [.ref oc, .ref u])), (u, aN cI 81 (fun _ => 0))])) args s 1 81 A := ⟨_, rfl⟩
  rw [← hQ]
  have l_3 := hts (.methodLink RX1 3 objectInit) (by decide +kernel)
  have l_oi := hts (.instanceMethod objectInit) (by decide +kernel)
  have l_oc := hts (.code objectInit ⟨#[0xb1]⟩ 1 none) (by decide +kernel)
  have ar_I := hts (.arrayClass .int) (by decide +kernel)
  have f_11 := hts (.fieldLink RX1 11 "SameAgain$Distance" "costs" "[I") (by decide +kernel)
  have i_X1 : ∀ w ∈ u_ws RX1 TX1 2, w ∈ wsX1_init := by decide +kernel
  have f_15 := hts (.fieldLink RX1 15 "SameAgain$Distance" "code" "LSameAgain$Code;") (by decide +kernel)
  refine lv_aload_n hx hb dX1_init_0 rfl (lv_at hl 0 rfl) ?_
  refine W.objInit hx hb hown l_3 l_oi l_oc rfl (by rw [hml]; exact hl.1) rfl dX1_init_1 (Nat.le_of_ble_eq_true rfl) (Nat.le_of_ble_eq_true rfl) ?_
  refine W.eq (g2 := F0 m 4 ls []) rfl ?_
  refine lv_aload_n hx hb dX1_init_4 rfl (lv_at hl 0 rfl) ?_
  refine lv_bipush (v := nI 81) hx hb dX1_init_5 (by decide) ?_
  refine m_newI (k := 81) hx hb ar_I hK hP hD hS hA (by decide) (Nat.le_of_ble_eq_true rfl) (Nat.le_of_ble_eq_true rfl) dX1_init_7 (fun q7 H hP hD hS => ?_)
  have hP : va_P D vwCl [(o, .inr (1, [.null, .null])), (q7, aN cI 81 (fun _ => 0))] H := hP
  have hD : va_D A [(o, .inr (1, [.null, .null])), (q7, aN cI 81 (fun _ => 0))] := hD
  refine W.widen (k := 1) (n := 81) (Nat.le_of_ble_eq_true rfl) (Nat.le_of_ble_eq_true rfl) ?_
  refine va_putF (D := D) (ci := 1) (v := .ref q7) (ty := .array .int) (C := RX1) (T := TX1) (N := 2) hx hb hts i_X1 tyX1 tyX1_ok nmX1 hown hK.1 hP hD hS 0 rfl rfl 1 (by decide) f_11 (fun _ h9 => h9) rfl hin rfl (by decide +kernel) rfl rfl (Nat.le_of_ble_eq_true rfl) dX1_init_9 (fun H locs hP hD hS => ?_)
  have hP : va_P D vwCl [(o, .inr (1, [.null, .ref q7])), (q7, aN cI 81 (fun _ => 0))] H := hP
  have hD : va_D A [(o, .inr (1, [.null, .ref q7])), (q7, aN cI 81 (fun _ => 0))] := hD
  refine lv_aload_n hx hb dX1_init_12 rfl (lv_at hl 0 rfl) ?_
  refine lv_aload_n hx hb dX1_init_13 rfl (lv_at hl 1 rfl) ?_
  refine va_putF (D := D) (ci := 1) (v := .ref oc) (ty := .object "SameAgain$Code") (C := RX1) (T := TX1) (N := 2) hx hb hts i_X1 tyX1 tyX1_ok nmX1 hown hK.1 hP hD hS 0 rfl rfl 0 (by decide) f_15 (fun _ h9 => h9) rfl hin rfl (by decide +kernel) rfl rfl (Nat.le_of_ble_eq_true rfl) dX1_init_14 (fun H locs hP hD hS => ?_)
  have hP : va_P D vwCl [(o, .inr (1, [.ref oc, .ref q7])), (q7, aN cI 81 (fun _ => 0))] H := hP
  have hD : va_D A [(o, .inr (1, [.ref oc, .ref q7])), (q7, aN cI 81 (fun _ => 0))] := hD
  rw [hQ]
  exact m_vn hx hb hr hlocks q7 hP hD hS dX1_init_17
theorem yd_X3_init : yX3_init.cls ≠ "java/lang/invoke/MethodHandle" ∧ yX3_init.cls ≠ "java/lang/invoke/VarHandle" ∧ (parseMethodDescriptor yX3_init.desc).map (fun d => d.parameters.length) = some 0 := by decide +kernel
set_option maxHeartbeats 4000000 in
set_option maxRecDepth 100000 in
theorem k_X3_init (l : Launch) (D : va_G) (cI cZ : ClassId) (o : Nat) (sz : Nat) : Met l yX3_init wsX3_init ({ frames := 1, cells := 1, slots := 26, locals := 12 }) (mPn [.ref o] D cI cZ [(o, .inr (3, [.null, .int (nI 0), .int (nI 0)]))] sz) (mQn D (va_A [(o, .inr (3, [.null, .int (nI 0), .int (nI 0)]))] sz) (fun (u : Nat) => [(o, .inr (3, [.ref u, .int (nI 0), .int (nI 0)])), (u, aN cI 26 (fun _ => 0))])) 1 26 (va_A [(o, .inr (3, [.null, .int (nI 0), .int (nI 0)]))] sz) := by
  refine Met.ofW (cc := cX3_init) (maxL := 1) (ret := none) (by decide) rfl ?_
  intro p e s m args below meth c s₁ BB hml hv
  obtain ⟨hargs, hsz, hP, hD0, hK⟩ := hv
  have hx := BB.exec
  have hb := BB.bytes
  have hr := BB.returns
  have hts := atoms_spec (ws := wsX3_init) BB.pre
  have hown : s.vm.findClass RX3 = some m.cls := findClass_of_methodNamed BB.named
  have hlocks := BB.notSynchronized
  have hin : meth.name = "<init>" := (name_of_methodNamed BB.named BB.method).1
  have hcf : CallFix p m c cX3_init 1 s args wsX3_init RX3 := ⟨hx, hb, hml, hown, hts⟩
  subst hsz
  have hD := hD0.self (sz := s.heap.size)
  generalize hAe : va_A [(o, .inr (3, [.null, .int (nI 0), .int (nI 0)]))] s.heap.size = A at hD ⊢
  have hA : ∀ q : Nat, s.heap.size ≤ q → A q := fun q h => by rw [← hAe]; exact Or.inr h
  have hS : va_S A s.heap s.heap [] := va_S.rf
  rw [hargs, lg_entry_eq, ← hargs]
  have hl := lv_entry ([.ref o]) (n := 1) (Nat.le_of_ble_eq_true rfl)
  generalize (lg_sl ([.ref o]) ++ List.replicate (1 - (lg_sl ([.ref o])).length) Slot.unset).toArray = ls at hl ⊢
  have hl : lv_has ls 1 [(0, .ref o)] := hl
  obtain ⟨Q, hQ⟩ : ∃ Q, Q = MQ below (mQn D A (fun (u : Nat) => [(o, .inr (3, [.ref u, .int (nI 0), .int (nI 0)])), (u, aN cI 26 (fun _ => 0))])) args s 1 26 A := ⟨_, rfl⟩
  rw [← hQ]
  have l_3 := hts (.methodLink RX3 3 objectInit) (by decide +kernel)
  have l_oi := hts (.instanceMethod objectInit) (by decide +kernel)
  have l_oc := hts (.code objectInit ⟨#[0xb1]⟩ 1 none) (by decide +kernel)
  have ar_I := hts (.arrayClass .int) (by decide +kernel)
  have f_9 := hts (.fieldLink RX3 9 "SameAgain$Pairing" "partners" "[I") (by decide +kernel)
  have i_X3 : ∀ w ∈ u_ws RX3 TX3 3, w ∈ wsX3_init := by decide +kernel
  have f_15 := hts (.fieldLink RX3 15 "SameAgain$Pairing" "namesOfOne" "I") (by decide +kernel)
  have f_19 := hts (.fieldLink RX3 19 "SameAgain$Pairing" "namesOfOther" "I") (by decide +kernel)
  refine lv_aload_n hx hb dX3_init_0 rfl (lv_at hl 0 rfl) ?_
  refine W.objInit hx hb hown l_3 l_oi l_oc rfl (by rw [hml]; exact hl.1) rfl dX3_init_1 (Nat.le_of_ble_eq_true rfl) (Nat.le_of_ble_eq_true rfl) ?_
  refine W.eq (g2 := F0 m 4 ls []) rfl ?_
  refine lv_aload_n hx hb dX3_init_4 rfl (lv_at hl 0 rfl) ?_
  refine lv_bipush (v := nI 26) hx hb dX3_init_5 (by decide) ?_
  refine m_newI (k := 26) hx hb ar_I hK hP hD hS hA (by decide) (Nat.le_of_ble_eq_true rfl) (Nat.le_of_ble_eq_true rfl) dX3_init_7 (fun q7 H hP hD hS => ?_)
  have hP : va_P D vwCl [(o, .inr (3, [.null, .int (nI 0), .int (nI 0)])), (q7, aN cI 26 (fun _ => 0))] H := hP
  have hD : va_D A [(o, .inr (3, [.null, .int (nI 0), .int (nI 0)])), (q7, aN cI 26 (fun _ => 0))] := hD
  refine W.widen (k := 1) (n := 26) (Nat.le_of_ble_eq_true rfl) (Nat.le_of_ble_eq_true rfl) ?_
  refine va_putF (D := D) (ci := 3) (v := .ref q7) (ty := .array .int) (C := RX3) (T := TX3) (N := 3) hx hb hts i_X3 tyX3 tyX3_ok nmX3 hown hK.1 hP hD hS 0 rfl rfl 0 (by decide) f_9 (fun _ h9 => h9) rfl hin rfl (by decide +kernel) rfl rfl (Nat.le_of_ble_eq_true rfl) dX3_init_9 (fun H locs hP hD hS => ?_)
  have hP : va_P D vwCl [(o, .inr (3, [.ref q7, .int (nI 0), .int (nI 0)])), (q7, aN cI 26 (fun _ => 0))] H := hP
  have hD : va_D A [(o, .inr (3, [.ref q7, .int (nI 0), .int (nI 0)])), (q7, aN cI 26 (fun _ => 0))] := hD
  refine lv_aload_n hx hb dX3_init_12 rfl (lv_at hl 0 rfl) ?_
  refine lv_iconst (v := nI 0) hx hb dX3_init_13 (by decide) ?_
  refine va_put (D := D) (ci := 3) (v := .int (nI 0)) (ty := .int) (C := RX3) (T := TX3) (N := 3) hx hb hts i_X3 tyX3 tyX3_ok nmX3 hown hK.1 hP hD hS 0 rfl rfl 1 (by decide) f_15 (fun _ h9 => h9) rfl (by decide +kernel) rfl rfl (Nat.le_of_ble_eq_true rfl) dX3_init_14 (fun H locs hP hD hS => ?_)
  have hP : va_P D vwCl [(o, .inr (3, [.ref q7, .int (nI 0), .int (nI 0)])), (q7, aN cI 26 (fun _ => 0))] H := hP
  have hD : va_D A [(o, .inr (3, [.ref q7, .int (nI 0), .int (nI 0)])), (q7, aN cI 26 (fun _ => 0))] := hD
  refine lv_aload_n hx hb dX3_init_17 rfl (lv_at hl 0 rfl) ?_
  refine lv_iconst (v := nI 0) hx hb dX3_init_18 (by decide) ?_
  refine va_put (D := D) (ci := 3) (v := .int (nI 0)) (ty := .int) (C := RX3) (T := TX3) (N := 3) hx hb hts i_X3 tyX3 tyX3_ok nmX3 hown hK.1 hP hD hS 0 rfl rfl 2 (by decide) f_19 (fun _ h9 => h9) rfl (by decide +kernel) rfl rfl (Nat.le_of_ble_eq_true rfl) dX3_init_19 (fun H locs hP hD hS => ?_)
  have hP : va_P D vwCl [(o, .inr (3, [.ref q7, .int (nI 0), .int (nI 0)])), (q7, aN cI 26 (fun _ => 0))] H := hP
  have hD : va_D A [(o, .inr (3, [.ref q7, .int (nI 0), .int (nI 0)])), (q7, aN cI 26 (fun _ => 0))] := hD
  rw [hQ]
  exact m_vn hx hb hr hlocks q7 hP hD hS dX3_init_22
theorem yd_X2_init : yX2_init.cls ≠ "java/lang/invoke/MethodHandle" ∧ yX2_init.cls ≠ "java/lang/invoke/VarHandle" ∧ (parseMethodDescriptor yX2_init.desc).map (fun d => d.parameters.length) = some 1 := by decide +kernel
set_option maxHeartbeats 4000000 in
set_option maxRecDepth 100000 in
theorem k_X2_init (l : Launch) (D : va_G) (cI cZ : ClassId) (o oc : Nat) (sz : Nat) : Met l yX2_init wsX2_init ({ frames := 2, cells := 3, slots := 429, locals := 32 }) (mPn [.ref o, .ref oc] D cI cZ [(o, .inr (2, [.null, .null, .null, .int (nI 0), .int (nI 0), .int (nI 0)]))] sz) (mQn D (va_A [(o, .inr (2, [.null, .null, .null, .int (nI 0), .int (nI 0), .int (nI 0)]))] sz) (fun (u : Nat × Nat × Nat) => [(o, .inr (2, [.ref oc, .ref u.1, .ref u.2.2, .int (nI 0), .int (nI 0), .int (nI 0)])), (u.1, .inr (3, [.ref u.2.1, .int (nI 0), .int (nI 0)])), (u.2.1, aN cI 26 (fun _ => 0)), (u.2.2, aN cI 400 (fun _ => 0))])) 3 429 (va_A [(o, .inr (2, [.null, .null, .null, .int (nI 0), .int (nI 0), .int (nI 0)]))] sz) := by
  refine Met.ofW (cc := cX2_init) (maxL := 2) (ret := none) (by decide) rfl ?_
  intro p e s m args below meth c s₁ BB hml hv
  obtain ⟨hargs, hsz, hP, hD0, hK⟩ := hv
  have hx := BB.exec
  have hb := BB.bytes
  have hr := BB.returns
  have hts := atoms_spec (ws := wsX2_init) BB.pre
  have hown : s.vm.findClass RX2 = some m.cls := findClass_of_methodNamed BB.named
  have hlocks := BB.notSynchronized
  have hin : meth.name = "<init>" := (name_of_methodNamed BB.named BB.method).1
  have hcf : CallFix p m c cX2_init 2 s args wsX2_init RX2 := ⟨hx, hb, hml, hown, hts⟩
  subst hsz
  have hD := hD0.self (sz := s.heap.size)
  generalize hAe : va_A [(o, .inr (2, [.null, .null, .null, .int (nI 0), .int (nI 0), .int (nI 0)]))] s.heap.size = A at hD ⊢
  have hA : ∀ q : Nat, s.heap.size ≤ q → A q := fun q h => by rw [← hAe]; exact Or.inr h
  have hS : va_S A s.heap s.heap [] := va_S.rf
  rw [hargs, lg_entry_eq, ← hargs]
  have hl := lv_entry ([.ref o, .ref oc]) (n := 2) (Nat.le_of_ble_eq_true rfl)
  generalize (lg_sl ([.ref o, .ref oc]) ++ List.replicate (2 - (lg_sl ([.ref o, .ref oc])).length) Slot.unset).toArray = ls at hl ⊢
  have hl : lv_has ls 2 [(0, .ref o), (1, .ref oc)] := hl
  obtain ⟨Q, hQ⟩ : ∃ Q, Q = MQ below (mQn D A (fun (u : Nat × Nat × Nat) => [(o, .inr (2, [.ref oc, .ref u.1, .ref u.2.2, .int (nI 0), .int (nI 0), .int (nI 0)])), (u.1, .inr (3, [.ref u.2.1, .int (nI 0), .int (nI 0)])), (u.2.1, aN cI 26 (fun _ => 0)), (u.2.2, aN cI 400 (fun _ => 0))])) args s 3 429 A := ⟨_, rfl⟩
  rw [← hQ]
  have l_3 := hts (.methodLink RX2 3 objectInit) (by decide +kernel)
  have l_oi := hts (.instanceMethod objectInit) (by decide +kernel)
  have l_oc := hts (.code objectInit ⟨#[0xb1]⟩ 1 none) (by decide +kernel)
  have i_X3 : ∀ w ∈ u_ws RX3 TX3 3, w ∈ wsX2_init := by decide +kernel
  have cl_9 := hts (.classLink RX2 9 RX3) (by decide +kernel)
  have in_X3 := hts (.instantiable RX3 3) (by decide +kernel)
  have ini_X3 := hts (.initialized RX3) (by decide +kernel)
  have mn_11 := hK.2.2 ("SameAgain$Likeness", 11, ⟨"SameAgain$Pairing", "<init>", "()V"⟩, "SameAgain") (by decide +kernel)
  have im_X3_init := hts (.instanceMethod yX3_init) (by decide +kernel)
  have f_12 := hts (.fieldLink RX2 12 "SameAgain$Likeness" "pairing" "LSameAgain$Pairing;") (by decide +kernel)
  have i_X2 : ∀ w ∈ u_ws RX2 TX2 6, w ∈ wsX2_init := by decide +kernel
  have ar_I := hts (.arrayClass .int) (by decide +kernel)
  have f_18 := hts (.fieldLink RX2 18 "SameAgain$Likeness" "reach" "[I") (by decide +kernel)
  have f_22 := hts (.fieldLink RX2 22 "SameAgain$Likeness" "longestLength" "I") (by decide +kernel)
  have f_26 := hts (.fieldLink RX2 26 "SameAgain$Likeness" "longestOne" "I") (by decide +kernel)
  have f_29 := hts (.fieldLink RX2 29 "SameAgain$Likeness" "longestOther" "I") (by decide +kernel)
  have f_32 := hts (.fieldLink RX2 32 "SameAgain$Likeness" "code" "LSameAgain$Code;") (by decide +kernel)
  refine lv_aload_n hx hb dX2_init_0 rfl (lv_at hl 0 rfl) ?_
  refine W.objInit hx hb hown l_3 l_oi l_oc rfl (by rw [hml]; exact hl.1) rfl dX2_init_1 (Nat.le_of_ble_eq_true rfl) (Nat.le_of_ble_eq_true rfl) ?_
  refine W.eq (g2 := F0 m 4 ls []) rfl ?_
  refine lv_aload_n hx hb dX2_init_4 rfl (lv_at hl 0 rfl) ?_
  refine va_new (ci := 3) (fs := [.null, .int (nI 0), .int (nI 0)]) (C := RX3) (T := TX3) (N := 3) hx hb hts i_X3 tyX3 tyX3_ok hown cl_9 in_X3 ini_X3 hK.1 hP hD hS hA rfl (fun j hj => by rcases (show j = 0 ∨ j = 1 ∨ j = 2 by omega) with rfl | rfl | rfl <;> rfl) (Nat.le_of_ble_eq_true rfl) (Nat.le_of_ble_eq_true rfl) dX2_init_5 (fun q5 H hP hD hS => ?_)
  have hP : va_P D vwCl [(o, .inr (2, [.null, .null, .null, .int (nI 0), .int (nI 0), .int (nI 0)])), (q5, .inr (3, [.null, .int (nI 0), .int (nI 0)]))] H := hP
  have hD : va_D A [(o, .inr (2, [.null, .null, .null, .int (nI 0), .int (nI 0), .int (nI 0)])), (q5, .inr (3, [.null, .int (nI 0), .int (nI 0)]))] := hD
  refine W.widen (k := 1) (n := 3) (Nat.le_of_ble_eq_true rfl) (Nat.le_of_ble_eq_true rfl) ?_
  refine lv_dup hx hb dX2_init_8 rfl ?_
  refine m_conN (As := []) (rest := [.ref q5, .ref o]) (wc := [(q5, .inr (3, [.null, .int (nI 0), .int (nI 0)]))]) (wr := [(o, .inr (2, [.null, .null, .null, .int (nI 0), .int (nI 0), .int (nI 0)]))]) hcf (k_X3_init l D cI cZ q5 H.size) ⟨va_cnB 0 hts gX2_init_X3_init_n11 rfl rfl rfl mn_11 ini_X3 yd_X3_init ⟨Nat.le_of_ble_eq_true rfl, Nat.le_of_ble_eq_true rfl⟩, rfl, im_X3_init⟩ hK hP hD hS hA [1] [0] (by decide) rfl rfl (by decide) (by decide) rfl hl.1 rfl (Nat.le_of_ble_eq_true rfl) dX2_init_9 ⟨Nat.le_of_ble_eq_true rfl, Nat.le_of_ble_eq_true rfl⟩ (fun u H locs hP hD hS => ?_)
  obtain ⟨q7_9, rfl⟩ : ∃ z, z = u := ⟨_, rfl⟩
  have hP : va_P D vwCl [(o, .inr (2, [.null, .null, .null, .int (nI 0), .int (nI 0), .int (nI 0)])), (q5, .inr (3, [.ref q7_9, .int (nI 0), .int (nI 0)])), (q7_9, aN cI 26 (fun _ => 0))] H := hP
  have hD : va_D A [(o, .inr (2, [.null, .null, .null, .int (nI 0), .int (nI 0), .int (nI 0)])), (q5, .inr (3, [.ref q7_9, .int (nI 0), .int (nI 0)])), (q7_9, aN cI 26 (fun _ => 0))] := hD
  refine W.widen (k := 2) (n := 29) (Nat.le_of_ble_eq_true rfl) (Nat.le_of_ble_eq_true rfl) ?_
  refine va_putF (D := D) (ci := 2) (v := .ref q5) (ty := .object "SameAgain$Pairing") (C := RX2) (T := TX2) (N := 6) hx hb hts i_X2 tyX2 tyX2_ok nmX2 hown hK.1 hP hD hS 0 rfl rfl 1 (by decide) f_12 (fun _ h9 => h9) rfl hin rfl (by decide +kernel) rfl rfl (Nat.le_of_ble_eq_true rfl) dX2_init_12 (fun H locs hP hD hS => ?_)
  have hP : va_P D vwCl [(o, .inr (2, [.null, .ref q5, .null, .int (nI 0), .int (nI 0), .int (nI 0)])), (q5, .inr (3, [.ref q7_9, .int (nI 0), .int (nI 0)])), (q7_9, aN cI 26 (fun _ => 0))] H := hP
  have hD : va_D A [(o, .inr (2, [.null, .ref q5, .null, .int (nI 0), .int (nI 0), .int (nI 0)])), (q5, .inr (3, [.ref q7_9, .int (nI 0), .int (nI 0)])), (q7_9, aN cI 26 (fun _ => 0))] := hD
  refine lv_aload_n hx hb dX2_init_15 rfl (lv_at hl 0 rfl) ?_
  refine lv_sipush (v := nI 400) hx hb dX2_init_16 (by decide) ?_
  refine m_newI (k := 400) hx hb ar_I hK hP hD hS hA (by decide) (Nat.le_of_ble_eq_true rfl) (Nat.le_of_ble_eq_true rfl) dX2_init_19 (fun q19 H hP hD hS => ?_)
  have hP : va_P D vwCl [(o, .inr (2, [.null, .ref q5, .null, .int (nI 0), .int (nI 0), .int (nI 0)])), (q5, .inr (3, [.ref q7_9, .int (nI 0), .int (nI 0)])), (q7_9, aN cI 26 (fun _ => 0)), (q19, aN cI 400 (fun _ => 0))] H := hP
  have hD : va_D A [(o, .inr (2, [.null, .ref q5, .null, .int (nI 0), .int (nI 0), .int (nI 0)])), (q5, .inr (3, [.ref q7_9, .int (nI 0), .int (nI 0)])), (q7_9, aN cI 26 (fun _ => 0)), (q19, aN cI 400 (fun _ => 0))] := hD
  refine W.widen (k := 3) (n := 429) (Nat.le_of_ble_eq_true rfl) (Nat.le_of_ble_eq_true rfl) ?_
  refine va_putF (D := D) (ci := 2) (v := .ref q19) (ty := .array .int) (C := RX2) (T := TX2) (N := 6) hx hb hts i_X2 tyX2 tyX2_ok nmX2 hown hK.1 hP hD hS 0 rfl rfl 2 (by decide) f_18 (fun _ h9 => h9) rfl hin rfl (by decide +kernel) rfl rfl (Nat.le_of_ble_eq_true rfl) dX2_init_21 (fun H locs hP hD hS => ?_)
  have hP : va_P D vwCl [(o, .inr (2, [.null, .ref q5, .ref q19, .int (nI 0), .int (nI 0), .int (nI 0)])), (q5, .inr (3, [.ref q7_9, .int (nI 0), .int (nI 0)])), (q7_9, aN cI 26 (fun _ => 0)), (q19, aN cI 400 (fun _ => 0))] H := hP
  have hD : va_D A [(o, .inr (2, [.null, .ref q5, .ref q19, .int (nI 0), .int (nI 0), .int (nI 0)])), (q5, .inr (3, [.ref q7_9, .int (nI 0), .int (nI 0)])), (q7_9, aN cI 26 (fun _ => 0)), (q19, aN cI 400 (fun _ => 0))] := hD
  refine lv_aload_n hx hb dX2_init_24 rfl (lv_at hl 0 rfl) ?_
  refine lv_iconst (v := nI 0) hx hb dX2_init_25 (by decide) ?_
  refine va_put (D := D) (ci := 2) (v := .int (nI 0)) (ty := .int) (C := RX2) (T := TX2) (N := 6) hx hb hts i_X2 tyX2 tyX2_ok nmX2 hown hK.1 hP hD hS 0 rfl rfl 3 (by decide) f_22 (fun _ h9 => h9) rfl (by decide +kernel) rfl rfl (Nat.le_of_ble_eq_true rfl) dX2_init_26 (fun H locs hP hD hS => ?_)
  have hP : va_P D vwCl [(o, .inr (2, [.null, .ref q5, .ref q19, .int (nI 0), .int (nI 0), .int (nI 0)])), (q5, .inr (3, [.ref q7_9, .int (nI 0), .int (nI 0)])), (q7_9, aN cI 26 (fun _ => 0)), (q19, aN cI 400 (fun _ => 0))] H := hP
  have hD : va_D A [(o, .inr (2, [.null, .ref q5, .ref q19, .int (nI 0), .int (nI 0), .int (nI 0)])), (q5, .inr (3, [.ref q7_9, .int (nI 0), .int (nI 0)])), (q7_9, aN cI 26 (fun _ => 0)), (q19, aN cI 400 (fun _ => 0))] := hD
  refine lv_aload_n hx hb dX2_init_29 rfl (lv_at hl 0 rfl) ?_
  refine lv_iconst (v := nI 0) hx hb dX2_init_30 (by decide) ?_
  refine va_put (D := D) (ci := 2) (v := .int (nI 0)) (ty := .int) (C := RX2) (T := TX2) (N := 6) hx hb hts i_X2 tyX2 tyX2_ok nmX2 hown hK.1 hP hD hS 0 rfl rfl 4 (by decide) f_26 (fun _ h9 => h9) rfl (by decide +kernel) rfl rfl (Nat.le_of_ble_eq_true rfl) dX2_init_31 (fun H locs hP hD hS => ?_)
  have hP : va_P D vwCl [(o, .inr (2, [.null, .ref q5, .ref q19, .int (nI 0), .int (nI 0), .int (nI 0)])), (q5, .inr (3, [.ref q7_9, .int (nI 0), .int (nI 0)])), (q7_9, aN cI 26 (fun _ => 0)), (q19, aN cI 400 (fun _ => 0))] H := hP
  have hD : va_D A [(o, .inr (2, [.null, .ref q5, .ref q19, .int (nI 0), .int (nI 0), .int (nI 0)])), (q5, .inr (3, [.ref q7_9, .int (nI 0), .int (nI 0)])), (q7_9, aN cI 26 (fun _ => 0)), (q19, aN cI 400 (fun _ => 0))] := hD
  refine lv_aload_n hx hb dX2_init_34 rfl (lv_at hl 0 rfl) ?_
  refine lv_iconst (v := nI 0) hx hb dX2_init_35 (by decide) ?_
  refine va_put (D := D) (ci := 2) (v := .int (nI 0)) (ty := .int) (C := RX2) (T := TX2) (N := 6) hx hb hts i_X2 tyX2 tyX2_ok nmX2 hown hK.1 hP hD hS 0 rfl rfl 5 (by decide) f_29 (fun _ h9 => h9) rfl (by decide +kernel) rfl rfl (Nat.le_of_ble_eq_true rfl) dX2_init_36 (fun H locs hP hD hS => ?_)
  have hP : va_P D vwCl [(o, .inr (2, [.null, .ref q5, .ref q19, .int (nI 0), .int (nI 0), .int (nI 0)])), (q5, .inr (3, [.ref q7_9, .int (nI 0), .int (nI 0)])), (q7_9, aN cI 26 (fun _ => 0)), (q19, aN cI 400 (fun _ => 0))] H := hP
  have hD : va_D A [(o, .inr (2, [.null, .ref q5, .ref q19, .int (nI 0), .int (nI 0), .int (nI 0)])), (q5, .inr (3, [.ref q7_9, .int (nI 0), .int (nI 0)])), (q7_9, aN cI 26 (fun _ => 0)), (q19, aN cI 400 (fun _ => 0))] := hD
  refine lv_aload_n hx hb dX2_init_39 rfl (lv_at hl 0 rfl) ?_
  refine lv_aload_n hx hb dX2_init_40 rfl (lv_at hl 1 rfl) ?_
  refine va_putF (D := D) (ci := 2) (v := .ref oc) (ty := .object "SameAgain$Code") (C := RX2) (T := TX2) (N := 6) hx hb hts i_X2 tyX2 tyX2_ok nmX2 hown hK.1 hP hD hS 0 rfl rfl 0 (by decide) f_32 (fun _ h9 => h9) rfl hin rfl (by decide +kernel) rfl rfl (Nat.le_of_ble_eq_true rfl) dX2_init_41 (fun H locs hP hD hS => ?_)
  have hP : va_P D vwCl [(o, .inr (2, [.ref oc, .ref q5, .ref q19, .int (nI 0), .int (nI 0), .int (nI 0)])), (q5, .inr (3, [.ref q7_9, .int (nI 0), .int (nI 0)])), (q7_9, aN cI 26 (fun _ => 0)), (q19, aN cI 400 (fun _ => 0))] H := hP
  have hD : va_D A [(o, .inr (2, [.ref oc, .ref q5, .ref q19, .int (nI 0), .int (nI 0), .int (nI 0)])), (q5, .inr (3, [.ref q7_9, .int (nI 0), .int (nI 0)])), (q7_9, aN cI 26 (fun _ => 0)), (q19, aN cI 400 (fun _ => 0))] := hD
  rw [hQ]
  exact m_vn hx hb hr hlocks (q5, q7_9, q19) hP hD hS dX2_init_44
theorem yd_X5_init : yX5_init.cls ≠ "java/lang/invoke/MethodHandle" ∧ yX5_init.cls ≠ "java/lang/invoke/VarHandle" ∧ (parseMethodDescriptor yX5_init.desc).map (fun d => d.parameters.length) = some 2 := by decide +kernel
set_option maxHeartbeats 4000000 in
set_option maxRecDepth 100000 in
theorem k_X5_init (l : Launch) (D : va_G) (cI cZ : ClassId) (o oc o2 : Nat) (sz : Nat) : Met l yX5_init wsX5_init ({ frames := 1, cells := 1, slots := 20, locals := 12 }) (mPn [.ref o, .ref oc, .ref o2] D cI cZ [(o, .inr (5, [.null, .null, .null, .int (nI 0), .int (nI 0), .int (nI 0), .int (nI 0), .int (nI 0), .int (nI 0)]))] sz) (mQn D (va_A [(o, .inr (5, [.null, .null, .null, .int (nI 0), .int (nI 0), .int (nI 0), .int (nI 0), .int (nI 0), .int (nI 0)]))] sz) (fun (u : Nat) => [(o, .inr (5, [.ref oc, .ref o2, .ref u, .int (nI 0), .int (nI 0), .int (nI 0), .int (nI 0), .int (nI 0), .int (nI 0)])), (u, aN cI 20 (fun _ => 0))])) 1 20 (va_A [(o, .inr (5, [.null, .null, .null, .int (nI 0), .int (nI 0), .int (nI 0), .int (nI 0), .int (nI 0), .int (nI 0)]))] sz) := by
  refine Met.ofW (cc := cX5_init) (maxL := 3) (ret := none) (by decide) rfl ?_
  intro p e s m args below meth c s₁ BB hml hv
  obtain ⟨hargs, hsz, hP, hD0, hK⟩ := hv
  have hx := BB.exec
  have hb := BB.bytes
  have hr := BB.returns
  have hts := atoms_spec (ws := wsX5_init) BB.pre
  have hown : s.vm.findClass RX5 = some m.cls := findClass_of_methodNamed BB.named
  have hlocks := BB.notSynchronized
  have hin : meth.name = "<init>" := (name_of_methodNamed BB.named BB.method).1
  have hcf : CallFix p m c cX5_init 3 s args wsX5_init RX5 := ⟨hx, hb, hml, hown, hts⟩
  subst hsz
  have hD := hD0.self (sz := s.heap.size)
  generalize hAe : va_A [(o, .inr (5, [.null, .null, .null, .int (nI 0), .int (nI 0), .int (nI 0), .int (nI 0), .int (nI 0), .int (nI 0)]))] s.heap.size = A at hD ⊢
  have hA : ∀ q : Nat, s.heap.size ≤ q → A q := fun q h => by rw [← hAe]; exact Or.inr h
  have hS : va_S A s.heap s.heap [] := va_S.rf
  rw [hargs, lg_entry_eq, ← hargs]
  have hl := lv_entry ([.ref o, .ref oc, .ref o2]) (n := 3) (Nat.le_of_ble_eq_true rfl)
  generalize (lg_sl ([.ref o, .ref oc, .ref o2]) ++ List.replicate (3 - (lg_sl ([.ref o, .ref oc, .ref o2])).length) Slot.unset).toArray = ls at hl ⊢
  have hl : lv_has ls 3 [(0, .ref o), (1, .ref oc), (2, .ref o2)] := hl
  obtain ⟨Q, hQ⟩ : ∃ Q, Q = MQ below (mQn D A (fun (u : Nat) => [(o, .inr (5, [.ref oc, .ref o2, .ref u, .int (nI 0), .int (nI 0), .int (nI 0), .int (nI 0), .int (nI 0), .int (nI 0)])), (u, aN cI 20 (fun _ => 0))])) args s 1 20 A := ⟨_, rfl⟩
  rw [← hQ]
  have l_3 := hts (.methodLink RX5 3 objectInit) (by decide +kernel)
  have l_oi := hts (.instanceMethod objectInit) (by decide +kernel)
  have l_oc := hts (.code objectInit ⟨#[0xb1]⟩ 1 none) (by decide +kernel)
  have ar_I := hts (.arrayClass .int) (by decide +kernel)
  have f_9 := hts (.fieldLink RX5 9 "SameAgain$Procedure" "starts" "[I") (by decide +kernel)
  have i_X5 : ∀ w ∈ u_ws RX5 TX5 9, w ∈ wsX5_init := by decide +kernel
  have f_15 := hts (.fieldLink RX5 15 "SameAgain$Procedure" "versionAt" "I") (by decide +kernel)
  have f_19 := hts (.fieldLink RX5 19 "SameAgain$Procedure" "takenCount" "I") (by decide +kernel)
  have f_22 := hts (.fieldLink RX5 22 "SameAgain$Procedure" "takenStarts" "I") (by decide +kernel)
  have f_25 := hts (.fieldLink RX5 25 "SameAgain$Procedure" "takenLines" "I") (by decide +kernel)
  have f_28 := hts (.fieldLink RX5 28 "SameAgain$Procedure" "toldCount" "I") (by decide +kernel)
  have f_31 := hts (.fieldLink RX5 31 "SameAgain$Procedure" "saved" "I") (by decide +kernel)
  have f_34 := hts (.fieldLink RX5 34 "SameAgain$Procedure" "code" "LSameAgain$Code;") (by decide +kernel)
  have f_38 := hts (.fieldLink RX5 38 "SameAgain$Procedure" "likeness" "LSameAgain$Likeness;") (by decide +kernel)
  refine lv_aload_n hx hb dX5_init_0 rfl (lv_at hl 0 rfl) ?_
  refine W.objInit hx hb hown l_3 l_oi l_oc rfl (by rw [hml]; exact hl.1) rfl dX5_init_1 (Nat.le_of_ble_eq_true rfl) (Nat.le_of_ble_eq_true rfl) ?_
  refine W.eq (g2 := F0 m 4 ls []) rfl ?_
  refine lv_aload_n hx hb dX5_init_4 rfl (lv_at hl 0 rfl) ?_
  refine lv_bipush (v := nI 20) hx hb dX5_init_5 (by decide) ?_
  refine m_newI (k := 20) hx hb ar_I hK hP hD hS hA (by decide) (Nat.le_of_ble_eq_true rfl) (Nat.le_of_ble_eq_true rfl) dX5_init_7 (fun q7 H hP hD hS => ?_)
  have hP : va_P D vwCl [(o, .inr (5, [.null, .null, .null, .int (nI 0), .int (nI 0), .int (nI 0), .int (nI 0), .int (nI 0), .int (nI 0)])), (q7, aN cI 20 (fun _ => 0))] H := hP
  have hD : va_D A [(o, .inr (5, [.null, .null, .null, .int (nI 0), .int (nI 0), .int (nI 0), .int (nI 0), .int (nI 0), .int (nI 0)])), (q7, aN cI 20 (fun _ => 0))] := hD
  refine W.widen (k := 1) (n := 20) (Nat.le_of_ble_eq_true rfl) (Nat.le_of_ble_eq_true rfl) ?_
  refine va_putF (D := D) (ci := 5) (v := .ref q7) (ty := .array .int) (C := RX5) (T := TX5) (N := 9) hx hb hts i_X5 tyX5 tyX5_ok nmX5 hown hK.1 hP hD hS 0 rfl rfl 2 (by decide) f_9 (fun _ h9 => h9) rfl hin rfl (by decide +kernel) rfl rfl (Nat.le_of_ble_eq_true rfl) dX5_init_9 (fun H locs hP hD hS => ?_)
  have hP : va_P D vwCl [(o, .inr (5, [.null, .null, .ref q7, .int (nI 0), .int (nI 0), .int (nI 0), .int (nI 0), .int (nI 0), .int (nI 0)])), (q7, aN cI 20 (fun _ => 0))] H := hP
  have hD : va_D A [(o, .inr (5, [.null, .null, .ref q7, .int (nI 0), .int (nI 0), .int (nI 0), .int (nI 0), .int (nI 0), .int (nI 0)])), (q7, aN cI 20 (fun _ => 0))] := hD
  refine lv_aload_n hx hb dX5_init_12 rfl (lv_at hl 0 rfl) ?_
  refine lv_iconst (v := nI 0) hx hb dX5_init_13 (by decide) ?_
  refine va_put (D := D) (ci := 5) (v := .int (nI 0)) (ty := .int) (C := RX5) (T := TX5) (N := 9) hx hb hts i_X5 tyX5 tyX5_ok nmX5 hown hK.1 hP hD hS 0 rfl rfl 3 (by decide) f_15 (fun _ h9 => h9) rfl (by decide +kernel) rfl rfl (Nat.le_of_ble_eq_true rfl) dX5_init_14 (fun H locs hP hD hS => ?_)
  have hP : va_P D vwCl [(o, .inr (5, [.null, .null, .ref q7, .int (nI 0), .int (nI 0), .int (nI 0), .int (nI 0), .int (nI 0), .int (nI 0)])), (q7, aN cI 20 (fun _ => 0))] H := hP
  have hD : va_D A [(o, .inr (5, [.null, .null, .ref q7, .int (nI 0), .int (nI 0), .int (nI 0), .int (nI 0), .int (nI 0), .int (nI 0)])), (q7, aN cI 20 (fun _ => 0))] := hD
  refine lv_aload_n hx hb dX5_init_17 rfl (lv_at hl 0 rfl) ?_
  refine lv_iconst (v := nI 0) hx hb dX5_init_18 (by decide) ?_
  refine va_put (D := D) (ci := 5) (v := .int (nI 0)) (ty := .int) (C := RX5) (T := TX5) (N := 9) hx hb hts i_X5 tyX5 tyX5_ok nmX5 hown hK.1 hP hD hS 0 rfl rfl 4 (by decide) f_19 (fun _ h9 => h9) rfl (by decide +kernel) rfl rfl (Nat.le_of_ble_eq_true rfl) dX5_init_19 (fun H locs hP hD hS => ?_)
  have hP : va_P D vwCl [(o, .inr (5, [.null, .null, .ref q7, .int (nI 0), .int (nI 0), .int (nI 0), .int (nI 0), .int (nI 0), .int (nI 0)])), (q7, aN cI 20 (fun _ => 0))] H := hP
  have hD : va_D A [(o, .inr (5, [.null, .null, .ref q7, .int (nI 0), .int (nI 0), .int (nI 0), .int (nI 0), .int (nI 0), .int (nI 0)])), (q7, aN cI 20 (fun _ => 0))] := hD
  refine lv_aload_n hx hb dX5_init_22 rfl (lv_at hl 0 rfl) ?_
  refine lv_iconst (v := nI 0) hx hb dX5_init_23 (by decide) ?_
  refine va_put (D := D) (ci := 5) (v := .int (nI 0)) (ty := .int) (C := RX5) (T := TX5) (N := 9) hx hb hts i_X5 tyX5 tyX5_ok nmX5 hown hK.1 hP hD hS 0 rfl rfl 5 (by decide) f_22 (fun _ h9 => h9) rfl (by decide +kernel) rfl rfl (Nat.le_of_ble_eq_true rfl) dX5_init_24 (fun H locs hP hD hS => ?_)
  have hP : va_P D vwCl [(o, .inr (5, [.null, .null, .ref q7, .int (nI 0), .int (nI 0), .int (nI 0), .int (nI 0), .int (nI 0), .int (nI 0)])), (q7, aN cI 20 (fun _ => 0))] H := hP
  have hD : va_D A [(o, .inr (5, [.null, .null, .ref q7, .int (nI 0), .int (nI 0), .int (nI 0), .int (nI 0), .int (nI 0), .int (nI 0)])), (q7, aN cI 20 (fun _ => 0))] := hD
  refine lv_aload_n hx hb dX5_init_27 rfl (lv_at hl 0 rfl) ?_
  refine lv_iconst (v := nI 0) hx hb dX5_init_28 (by decide) ?_
  refine va_put (D := D) (ci := 5) (v := .int (nI 0)) (ty := .int) (C := RX5) (T := TX5) (N := 9) hx hb hts i_X5 tyX5 tyX5_ok nmX5 hown hK.1 hP hD hS 0 rfl rfl 6 (by decide) f_25 (fun _ h9 => h9) rfl (by decide +kernel) rfl rfl (Nat.le_of_ble_eq_true rfl) dX5_init_29 (fun H locs hP hD hS => ?_)
  have hP : va_P D vwCl [(o, .inr (5, [.null, .null, .ref q7, .int (nI 0), .int (nI 0), .int (nI 0), .int (nI 0), .int (nI 0), .int (nI 0)])), (q7, aN cI 20 (fun _ => 0))] H := hP
  have hD : va_D A [(o, .inr (5, [.null, .null, .ref q7, .int (nI 0), .int (nI 0), .int (nI 0), .int (nI 0), .int (nI 0), .int (nI 0)])), (q7, aN cI 20 (fun _ => 0))] := hD
  refine lv_aload_n hx hb dX5_init_32 rfl (lv_at hl 0 rfl) ?_
  refine lv_iconst (v := nI 0) hx hb dX5_init_33 (by decide) ?_
  refine va_put (D := D) (ci := 5) (v := .int (nI 0)) (ty := .int) (C := RX5) (T := TX5) (N := 9) hx hb hts i_X5 tyX5 tyX5_ok nmX5 hown hK.1 hP hD hS 0 rfl rfl 7 (by decide) f_28 (fun _ h9 => h9) rfl (by decide +kernel) rfl rfl (Nat.le_of_ble_eq_true rfl) dX5_init_34 (fun H locs hP hD hS => ?_)
  have hP : va_P D vwCl [(o, .inr (5, [.null, .null, .ref q7, .int (nI 0), .int (nI 0), .int (nI 0), .int (nI 0), .int (nI 0), .int (nI 0)])), (q7, aN cI 20 (fun _ => 0))] H := hP
  have hD : va_D A [(o, .inr (5, [.null, .null, .ref q7, .int (nI 0), .int (nI 0), .int (nI 0), .int (nI 0), .int (nI 0), .int (nI 0)])), (q7, aN cI 20 (fun _ => 0))] := hD
  refine lv_aload_n hx hb dX5_init_37 rfl (lv_at hl 0 rfl) ?_
  refine lv_iconst (v := nI 0) hx hb dX5_init_38 (by decide) ?_
  refine va_put (D := D) (ci := 5) (v := .int (nI 0)) (ty := .int) (C := RX5) (T := TX5) (N := 9) hx hb hts i_X5 tyX5 tyX5_ok nmX5 hown hK.1 hP hD hS 0 rfl rfl 8 (by decide) f_31 (fun _ h9 => h9) rfl (by decide +kernel) rfl rfl (Nat.le_of_ble_eq_true rfl) dX5_init_39 (fun H locs hP hD hS => ?_)
  have hP : va_P D vwCl [(o, .inr (5, [.null, .null, .ref q7, .int (nI 0), .int (nI 0), .int (nI 0), .int (nI 0), .int (nI 0), .int (nI 0)])), (q7, aN cI 20 (fun _ => 0))] H := hP
  have hD : va_D A [(o, .inr (5, [.null, .null, .ref q7, .int (nI 0), .int (nI 0), .int (nI 0), .int (nI 0), .int (nI 0), .int (nI 0)])), (q7, aN cI 20 (fun _ => 0))] := hD
  refine lv_aload_n hx hb dX5_init_42 rfl (lv_at hl 0 rfl) ?_
  refine lv_aload_n hx hb dX5_init_43 rfl (lv_at hl 1 rfl) ?_
  refine va_putF (D := D) (ci := 5) (v := .ref oc) (ty := .object "SameAgain$Code") (C := RX5) (T := TX5) (N := 9) hx hb hts i_X5 tyX5 tyX5_ok nmX5 hown hK.1 hP hD hS 0 rfl rfl 0 (by decide) f_34 (fun _ h9 => h9) rfl hin rfl (by decide +kernel) rfl rfl (Nat.le_of_ble_eq_true rfl) dX5_init_44 (fun H locs hP hD hS => ?_)
  have hP : va_P D vwCl [(o, .inr (5, [.ref oc, .null, .ref q7, .int (nI 0), .int (nI 0), .int (nI 0), .int (nI 0), .int (nI 0), .int (nI 0)])), (q7, aN cI 20 (fun _ => 0))] H := hP
  have hD : va_D A [(o, .inr (5, [.ref oc, .null, .ref q7, .int (nI 0), .int (nI 0), .int (nI 0), .int (nI 0), .int (nI 0), .int (nI 0)])), (q7, aN cI 20 (fun _ => 0))] := hD
  refine lv_aload_n hx hb dX5_init_47 rfl (lv_at hl 0 rfl) ?_
  refine lv_aload_n hx hb dX5_init_48 rfl (lv_at hl 2 rfl) ?_
  refine va_putF (D := D) (ci := 5) (v := .ref o2) (ty := .object "SameAgain$Likeness") (C := RX5) (T := TX5) (N := 9) hx hb hts i_X5 tyX5 tyX5_ok nmX5 hown hK.1 hP hD hS 0 rfl rfl 1 (by decide) f_38 (fun _ h9 => h9) rfl hin rfl (by decide +kernel) rfl rfl (Nat.le_of_ble_eq_true rfl) dX5_init_49 (fun H locs hP hD hS => ?_)
  have hP : va_P D vwCl [(o, .inr (5, [.ref oc, .ref o2, .ref q7, .int (nI 0), .int (nI 0), .int (nI 0), .int (nI 0), .int (nI 0), .int (nI 0)])), (q7, aN cI 20 (fun _ => 0))] H := hP
  have hD : va_D A [(o, .inr (5, [.ref oc, .ref o2, .ref q7, .int (nI 0), .int (nI 0), .int (nI 0), .int (nI 0), .int (nI 0), .int (nI 0)])), (q7, aN cI 20 (fun _ => 0))] := hD
  rw [hQ]
  exact m_vn hx hb hr hlocks q7 hP hD hS dX5_init_52
theorem yd_X4_init : yX4_init.cls ≠ "java/lang/invoke/MethodHandle" ∧ yX4_init.cls ≠ "java/lang/invoke/VarHandle" ∧ (parseMethodDescriptor yX4_init.desc).map (fun d => d.parameters.length) = some 3 := by decide +kernel
set_option maxHeartbeats 4000000 in
set_option maxRecDepth 100000 in
theorem k_X4_init (l : Launch) (D : va_G) (cI cZ : ClassId) (o oc o2 o5 : Nat) (sz : Nat) : Met l yX4_init wsX4_init ({ frames := 1, cells := 2, slots := 400, locals := 12 }) (mPn [.ref o, .ref oc, .ref o2, .ref o5] D cI cZ [(o, .inr (4, [.null, .null, .null, .null, .null, .int (nI 0), .int (nI 0), .int (nI 0), .int (nI 0)]))] sz) (mQn D (va_A [(o, .inr (4, [.null, .null, .null, .null, .null, .int (nI 0), .int (nI 0), .int (nI 0), .int (nI 0)]))] sz) (fun (u : Nat × Nat) => [(o, .inr (4, [.ref oc, .ref o2, .ref o5, .ref u.1, .ref u.2, .int (nI 0), .int (nI 0), .int (nI 0), .int (nI 0)])), (u.1, aN cI 200 (fun _ => 0)), (u.2, aN cI 200 (fun _ => 0))])) 2 400 (va_A [(o, .inr (4, [.null, .null, .null, .null, .null, .int (nI 0), .int (nI 0), .int (nI 0), .int (nI 0)]))] sz) := by
  refine Met.ofW (cc := cX4_init) (maxL := 4) (ret := none) (by decide) rfl ?_
  intro p e s m args below meth c s₁ BB hml hv
  obtain ⟨hargs, hsz, hP, hD0, hK⟩ := hv
  have hx := BB.exec
  have hb := BB.bytes
  have hr := BB.returns
  have hts := atoms_spec (ws := wsX4_init) BB.pre
  have hown : s.vm.findClass RX4 = some m.cls := findClass_of_methodNamed BB.named
  have hlocks := BB.notSynchronized
  have hin : meth.name = "<init>" := (name_of_methodNamed BB.named BB.method).1
  have hcf : CallFix p m c cX4_init 4 s args wsX4_init RX4 := ⟨hx, hb, hml, hown, hts⟩
  subst hsz
  have hD := hD0.self (sz := s.heap.size)
  generalize hAe : va_A [(o, .inr (4, [.null, .null, .null, .null, .null, .int (nI 0), .int (nI 0), .int (nI 0), .int (nI 0)]))] s.heap.size = A at hD ⊢
  have hA : ∀ q : Nat, s.heap.size ≤ q → A q := fun q h => by rw [← hAe]; exact Or.inr h
  have hS : va_S A s.heap s.heap [] := va_S.rf
  rw [hargs, lg_entry_eq, ← hargs]
  have hl := lv_entry ([.ref o, .ref oc, .ref o2, .ref o5]) (n := 4) (Nat.le_of_ble_eq_true rfl)
  generalize (lg_sl ([.ref o, .ref oc, .ref o2, .ref o5]) ++ List.replicate (4 - (lg_sl ([.ref o, .ref oc, .ref o2, .ref o5])).length) Slot.unset).toArray = ls at hl ⊢
  have hl : lv_has ls 4 [(0, .ref o), (1, .ref oc), (2, .ref o2), (3, .ref o5)] := hl
  obtain ⟨Q, hQ⟩ : ∃ Q, Q = MQ below (mQn D A (fun (u : Nat × Nat) => [(o, .inr (4, [.ref oc, .ref o2, .ref o5, .ref u.1, .ref u.2, .int (nI 0), .int (nI 0), .int (nI 0), .int (nI 0)])), (u.1, aN cI 200 (fun _ => 0)), (u.2, aN cI 200 (fun _ => 0))])) args s 2 400 A := ⟨_, rfl⟩
  rw [← hQ]
  have l_3 := hts (.methodLink RX4 3 objectInit) (by decide +kernel)
  have l_oi := hts (.instanceMethod objectInit) (by decide +kernel)
  have l_oc := hts (.code objectInit ⟨#[0xb1]⟩ 1 none) (by decide +kernel)
  have ar_I := hts (.arrayClass .int) (by decide +kernel)
  have f_9 := hts (.fieldLink RX4 9 "SameAgain$Plan" "saves" "[I") (by decide +kernel)
  have i_X4 : ∀ w ∈ u_ws RX4 TX4 9, w ∈ wsX4_init := by decide +kernel
  have f_15 := hts (.fieldLink RX4 15 "SameAgain$Plan" "lines" "[I") (by decide +kernel)
  have f_18 := hts (.fieldLink RX4 18 "SameAgain$Plan" "count" "I") (by decide +kernel)
  have f_22 := hts (.fieldLink RX4 22 "SameAgain$Plan" "bestSaved" "I") (by decide +kernel)
  have f_25 := hts (.fieldLink RX4 25 "SameAgain$Plan" "bestStart" "I") (by decide +kernel)
  have f_28 := hts (.fieldLink RX4 28 "SameAgain$Plan" "bestLength" "I") (by decide +kernel)
  have f_31 := hts (.fieldLink RX4 31 "SameAgain$Plan" "code" "LSameAgain$Code;") (by decide +kernel)
  have f_35 := hts (.fieldLink RX4 35 "SameAgain$Plan" "likeness" "LSameAgain$Likeness;") (by decide +kernel)
  have f_39 := hts (.fieldLink RX4 39 "SameAgain$Plan" "procedure" "LSameAgain$Procedure;") (by decide +kernel)
  refine lv_aload_n hx hb dX4_init_0 rfl (lv_at hl 0 rfl) ?_
  refine W.objInit hx hb hown l_3 l_oi l_oc rfl (by rw [hml]; exact hl.1) rfl dX4_init_1 (Nat.le_of_ble_eq_true rfl) (Nat.le_of_ble_eq_true rfl) ?_
  refine W.eq (g2 := F0 m 4 ls []) rfl ?_
  refine lv_aload_n hx hb dX4_init_4 rfl (lv_at hl 0 rfl) ?_
  refine lv_sipush (v := nI 200) hx hb dX4_init_5 (by decide) ?_
  refine m_newI (k := 200) hx hb ar_I hK hP hD hS hA (by decide) (Nat.le_of_ble_eq_true rfl) (Nat.le_of_ble_eq_true rfl) dX4_init_8 (fun q8 H hP hD hS => ?_)
  have hP : va_P D vwCl [(o, .inr (4, [.null, .null, .null, .null, .null, .int (nI 0), .int (nI 0), .int (nI 0), .int (nI 0)])), (q8, aN cI 200 (fun _ => 0))] H := hP
  have hD : va_D A [(o, .inr (4, [.null, .null, .null, .null, .null, .int (nI 0), .int (nI 0), .int (nI 0), .int (nI 0)])), (q8, aN cI 200 (fun _ => 0))] := hD
  refine W.widen (k := 1) (n := 200) (Nat.le_of_ble_eq_true rfl) (Nat.le_of_ble_eq_true rfl) ?_
  refine va_putF (D := D) (ci := 4) (v := .ref q8) (ty := .array .int) (C := RX4) (T := TX4) (N := 9) hx hb hts i_X4 tyX4 tyX4_ok nmX4 hown hK.1 hP hD hS 0 rfl rfl 3 (by decide) f_9 (fun _ h9 => h9) rfl hin rfl (by decide +kernel) rfl rfl (Nat.le_of_ble_eq_true rfl) dX4_init_10 (fun H locs hP hD hS => ?_)
  have hP : va_P D vwCl [(o, .inr (4, [.null, .null, .null, .ref q8, .null, .int (nI 0), .int (nI 0), .int (nI 0), .int (nI 0)])), (q8, aN cI 200 (fun _ => 0))] H := hP
  have hD : va_D A [(o, .inr (4, [.null, .null, .null, .ref q8, .null, .int (nI 0), .int (nI 0), .int (nI 0), .int (nI 0)])), (q8, aN cI 200 (fun _ => 0))] := hD
  refine lv_aload_n hx hb dX4_init_13 rfl (lv_at hl 0 rfl) ?_
  refine lv_sipush (v := nI 200) hx hb dX4_init_14 (by decide) ?_
  refine m_newI (k := 200) hx hb ar_I hK hP hD hS hA (by decide) (Nat.le_of_ble_eq_true rfl) (Nat.le_of_ble_eq_true rfl) dX4_init_17 (fun q17 H hP hD hS => ?_)
  have hP : va_P D vwCl [(o, .inr (4, [.null, .null, .null, .ref q8, .null, .int (nI 0), .int (nI 0), .int (nI 0), .int (nI 0)])), (q8, aN cI 200 (fun _ => 0)), (q17, aN cI 200 (fun _ => 0))] H := hP
  have hD : va_D A [(o, .inr (4, [.null, .null, .null, .ref q8, .null, .int (nI 0), .int (nI 0), .int (nI 0), .int (nI 0)])), (q8, aN cI 200 (fun _ => 0)), (q17, aN cI 200 (fun _ => 0))] := hD
  refine W.widen (k := 2) (n := 400) (Nat.le_of_ble_eq_true rfl) (Nat.le_of_ble_eq_true rfl) ?_
  refine va_putF (D := D) (ci := 4) (v := .ref q17) (ty := .array .int) (C := RX4) (T := TX4) (N := 9) hx hb hts i_X4 tyX4 tyX4_ok nmX4 hown hK.1 hP hD hS 0 rfl rfl 4 (by decide) f_15 (fun _ h9 => h9) rfl hin rfl (by decide +kernel) rfl rfl (Nat.le_of_ble_eq_true rfl) dX4_init_19 (fun H locs hP hD hS => ?_)
  have hP : va_P D vwCl [(o, .inr (4, [.null, .null, .null, .ref q8, .ref q17, .int (nI 0), .int (nI 0), .int (nI 0), .int (nI 0)])), (q8, aN cI 200 (fun _ => 0)), (q17, aN cI 200 (fun _ => 0))] H := hP
  have hD : va_D A [(o, .inr (4, [.null, .null, .null, .ref q8, .ref q17, .int (nI 0), .int (nI 0), .int (nI 0), .int (nI 0)])), (q8, aN cI 200 (fun _ => 0)), (q17, aN cI 200 (fun _ => 0))] := hD
  refine lv_aload_n hx hb dX4_init_22 rfl (lv_at hl 0 rfl) ?_
  refine lv_iconst (v := nI 0) hx hb dX4_init_23 (by decide) ?_
  refine va_put (D := D) (ci := 4) (v := .int (nI 0)) (ty := .int) (C := RX4) (T := TX4) (N := 9) hx hb hts i_X4 tyX4 tyX4_ok nmX4 hown hK.1 hP hD hS 0 rfl rfl 5 (by decide) f_18 (fun _ h9 => h9) rfl (by decide +kernel) rfl rfl (Nat.le_of_ble_eq_true rfl) dX4_init_24 (fun H locs hP hD hS => ?_)
  have hP : va_P D vwCl [(o, .inr (4, [.null, .null, .null, .ref q8, .ref q17, .int (nI 0), .int (nI 0), .int (nI 0), .int (nI 0)])), (q8, aN cI 200 (fun _ => 0)), (q17, aN cI 200 (fun _ => 0))] H := hP
  have hD : va_D A [(o, .inr (4, [.null, .null, .null, .ref q8, .ref q17, .int (nI 0), .int (nI 0), .int (nI 0), .int (nI 0)])), (q8, aN cI 200 (fun _ => 0)), (q17, aN cI 200 (fun _ => 0))] := hD
  refine lv_aload_n hx hb dX4_init_27 rfl (lv_at hl 0 rfl) ?_
  refine lv_iconst (v := nI 0) hx hb dX4_init_28 (by decide) ?_
  refine va_put (D := D) (ci := 4) (v := .int (nI 0)) (ty := .int) (C := RX4) (T := TX4) (N := 9) hx hb hts i_X4 tyX4 tyX4_ok nmX4 hown hK.1 hP hD hS 0 rfl rfl 6 (by decide) f_22 (fun _ h9 => h9) rfl (by decide +kernel) rfl rfl (Nat.le_of_ble_eq_true rfl) dX4_init_29 (fun H locs hP hD hS => ?_)
  have hP : va_P D vwCl [(o, .inr (4, [.null, .null, .null, .ref q8, .ref q17, .int (nI 0), .int (nI 0), .int (nI 0), .int (nI 0)])), (q8, aN cI 200 (fun _ => 0)), (q17, aN cI 200 (fun _ => 0))] H := hP
  have hD : va_D A [(o, .inr (4, [.null, .null, .null, .ref q8, .ref q17, .int (nI 0), .int (nI 0), .int (nI 0), .int (nI 0)])), (q8, aN cI 200 (fun _ => 0)), (q17, aN cI 200 (fun _ => 0))] := hD
  refine lv_aload_n hx hb dX4_init_32 rfl (lv_at hl 0 rfl) ?_
  refine lv_iconst (v := nI 0) hx hb dX4_init_33 (by decide) ?_
  refine va_put (D := D) (ci := 4) (v := .int (nI 0)) (ty := .int) (C := RX4) (T := TX4) (N := 9) hx hb hts i_X4 tyX4 tyX4_ok nmX4 hown hK.1 hP hD hS 0 rfl rfl 7 (by decide) f_25 (fun _ h9 => h9) rfl (by decide +kernel) rfl rfl (Nat.le_of_ble_eq_true rfl) dX4_init_34 (fun H locs hP hD hS => ?_)
  have hP : va_P D vwCl [(o, .inr (4, [.null, .null, .null, .ref q8, .ref q17, .int (nI 0), .int (nI 0), .int (nI 0), .int (nI 0)])), (q8, aN cI 200 (fun _ => 0)), (q17, aN cI 200 (fun _ => 0))] H := hP
  have hD : va_D A [(o, .inr (4, [.null, .null, .null, .ref q8, .ref q17, .int (nI 0), .int (nI 0), .int (nI 0), .int (nI 0)])), (q8, aN cI 200 (fun _ => 0)), (q17, aN cI 200 (fun _ => 0))] := hD
  refine lv_aload_n hx hb dX4_init_37 rfl (lv_at hl 0 rfl) ?_
  refine lv_iconst (v := nI 0) hx hb dX4_init_38 (by decide) ?_
  refine va_put (D := D) (ci := 4) (v := .int (nI 0)) (ty := .int) (C := RX4) (T := TX4) (N := 9) hx hb hts i_X4 tyX4 tyX4_ok nmX4 hown hK.1 hP hD hS 0 rfl rfl 8 (by decide) f_28 (fun _ h9 => h9) rfl (by decide +kernel) rfl rfl (Nat.le_of_ble_eq_true rfl) dX4_init_39 (fun H locs hP hD hS => ?_)
  have hP : va_P D vwCl [(o, .inr (4, [.null, .null, .null, .ref q8, .ref q17, .int (nI 0), .int (nI 0), .int (nI 0), .int (nI 0)])), (q8, aN cI 200 (fun _ => 0)), (q17, aN cI 200 (fun _ => 0))] H := hP
  have hD : va_D A [(o, .inr (4, [.null, .null, .null, .ref q8, .ref q17, .int (nI 0), .int (nI 0), .int (nI 0), .int (nI 0)])), (q8, aN cI 200 (fun _ => 0)), (q17, aN cI 200 (fun _ => 0))] := hD
  refine lv_aload_n hx hb dX4_init_42 rfl (lv_at hl 0 rfl) ?_
  refine lv_aload_n hx hb dX4_init_43 rfl (lv_at hl 1 rfl) ?_
  refine va_putF (D := D) (ci := 4) (v := .ref oc) (ty := .object "SameAgain$Code") (C := RX4) (T := TX4) (N := 9) hx hb hts i_X4 tyX4 tyX4_ok nmX4 hown hK.1 hP hD hS 0 rfl rfl 0 (by decide) f_31 (fun _ h9 => h9) rfl hin rfl (by decide +kernel) rfl rfl (Nat.le_of_ble_eq_true rfl) dX4_init_44 (fun H locs hP hD hS => ?_)
  have hP : va_P D vwCl [(o, .inr (4, [.ref oc, .null, .null, .ref q8, .ref q17, .int (nI 0), .int (nI 0), .int (nI 0), .int (nI 0)])), (q8, aN cI 200 (fun _ => 0)), (q17, aN cI 200 (fun _ => 0))] H := hP
  have hD : va_D A [(o, .inr (4, [.ref oc, .null, .null, .ref q8, .ref q17, .int (nI 0), .int (nI 0), .int (nI 0), .int (nI 0)])), (q8, aN cI 200 (fun _ => 0)), (q17, aN cI 200 (fun _ => 0))] := hD
  refine lv_aload_n hx hb dX4_init_47 rfl (lv_at hl 0 rfl) ?_
  refine lv_aload_n hx hb dX4_init_48 rfl (lv_at hl 2 rfl) ?_
  refine va_putF (D := D) (ci := 4) (v := .ref o2) (ty := .object "SameAgain$Likeness") (C := RX4) (T := TX4) (N := 9) hx hb hts i_X4 tyX4 tyX4_ok nmX4 hown hK.1 hP hD hS 0 rfl rfl 1 (by decide) f_35 (fun _ h9 => h9) rfl hin rfl (by decide +kernel) rfl rfl (Nat.le_of_ble_eq_true rfl) dX4_init_49 (fun H locs hP hD hS => ?_)
  have hP : va_P D vwCl [(o, .inr (4, [.ref oc, .ref o2, .null, .ref q8, .ref q17, .int (nI 0), .int (nI 0), .int (nI 0), .int (nI 0)])), (q8, aN cI 200 (fun _ => 0)), (q17, aN cI 200 (fun _ => 0))] H := hP
  have hD : va_D A [(o, .inr (4, [.ref oc, .ref o2, .null, .ref q8, .ref q17, .int (nI 0), .int (nI 0), .int (nI 0), .int (nI 0)])), (q8, aN cI 200 (fun _ => 0)), (q17, aN cI 200 (fun _ => 0))] := hD
  refine lv_aload_n hx hb dX4_init_52 rfl (lv_at hl 0 rfl) ?_
  refine lv_aload_n hx hb dX4_init_53 rfl (lv_at hl 3 rfl) ?_
  refine va_putF (D := D) (ci := 4) (v := .ref o5) (ty := .object "SameAgain$Procedure") (C := RX4) (T := TX4) (N := 9) hx hb hts i_X4 tyX4 tyX4_ok nmX4 hown hK.1 hP hD hS 0 rfl rfl 2 (by decide) f_39 (fun _ h9 => h9) rfl hin rfl (by decide +kernel) rfl rfl (Nat.le_of_ble_eq_true rfl) dX4_init_54 (fun H locs hP hD hS => ?_)
  have hP : va_P D vwCl [(o, .inr (4, [.ref oc, .ref o2, .ref o5, .ref q8, .ref q17, .int (nI 0), .int (nI 0), .int (nI 0), .int (nI 0)])), (q8, aN cI 200 (fun _ => 0)), (q17, aN cI 200 (fun _ => 0))] H := hP
  have hD : va_D A [(o, .inr (4, [.ref oc, .ref o2, .ref o5, .ref q8, .ref q17, .int (nI 0), .int (nI 0), .int (nI 0), .int (nI 0)])), (q8, aN cI 200 (fun _ => 0)), (q17, aN cI 200 (fun _ => 0))] := hD
  rw [hQ]
  exact m_vn hx hb hr hlocks (q8, q17) hP hD hS dX4_init_57
theorem yd_X6_init : yX6_init.cls ≠ "java/lang/invoke/MethodHandle" ∧ yX6_init.cls ≠ "java/lang/invoke/VarHandle" ∧ (parseMethodDescriptor yX6_init.desc).map (fun d => d.parameters.length) = some 2 := by decide +kernel
set_option maxHeartbeats 4000000 in
set_option maxRecDepth 100000 in
theorem k_X6_init (l : Launch) (D : va_G) (cI cZ : ClassId) (o oc o2 : Nat) (sz : Nat) : Met l yX6_init wsX6_init ({ frames := 1, cells := 0, slots := 0, locals := 12 }) (mPn [.ref o, .ref oc, .ref o2] D cI cZ [(o, .inr (6, [.null, .null, .int (nI 0), .int (nI 0)]))] sz) (mQn D (va_A [(o, .inr (6, [.null, .null, .int (nI 0), .int (nI 0)]))] sz) (fun (u : Unit) => [(o, .inr (6, [.ref oc, .ref o2, .int (nI 0), .int (nI 0)]))])) 0 0 (va_A [(o, .inr (6, [.null, .null, .int (nI 0), .int (nI 0)]))] sz) := by
  refine Met.ofW (cc := cX6_init) (maxL := 3) (ret := none) (by decide) rfl ?_
  intro p e s m args below meth c s₁ BB hml hv
  obtain ⟨hargs, hsz, hP, hD0, hK⟩ := hv
  have hx := BB.exec
  have hb := BB.bytes
  have hr := BB.returns
  have hts := atoms_spec (ws := wsX6_init) BB.pre
  have hown : s.vm.findClass RX6 = some m.cls := findClass_of_methodNamed BB.named
  have hlocks := BB.notSynchronized
  have hin : meth.name = "<init>" := (name_of_methodNamed BB.named BB.method).1
  have hcf : CallFix p m c cX6_init 3 s args wsX6_init RX6 := ⟨hx, hb, hml, hown, hts⟩
  subst hsz
  have hD := hD0.self (sz := s.heap.size)
  generalize hAe : va_A [(o, .inr (6, [.null, .null, .int (nI 0), .int (nI 0)]))] s.heap.size = A at hD ⊢
  have hA : ∀ q : Nat, s.heap.size ≤ q → A q := fun q h => by rw [← hAe]; exact Or.inr h
  have hS : va_S A s.heap s.heap [] := va_S.rf
  rw [hargs, lg_entry_eq, ← hargs]
  have hl := lv_entry ([.ref o, .ref oc, .ref o2]) (n := 3) (Nat.le_of_ble_eq_true rfl)
  generalize (lg_sl ([.ref o, .ref oc, .ref o2]) ++ List.replicate (3 - (lg_sl ([.ref o, .ref oc, .ref o2])).length) Slot.unset).toArray = ls at hl ⊢
  have hl : lv_has ls 3 [(0, .ref o), (1, .ref oc), (2, .ref o2)] := hl
  obtain ⟨Q, hQ⟩ : ∃ Q, Q = MQ below (mQn D A (fun (u : Unit) => [(o, .inr (6, [.ref oc, .ref o2, .int (nI 0), .int (nI 0)]))])) args s 0 0 A := ⟨_, rfl⟩
  rw [← hQ]
  have l_3 := hts (.methodLink RX6 3 objectInit) (by decide +kernel)
  have l_oi := hts (.instanceMethod objectInit) (by decide +kernel)
  have l_oc := hts (.code objectInit ⟨#[0xb1]⟩ 1 none) (by decide +kernel)
  have f_9 := hts (.fieldLink RX6 9 "SameAgain$Slip" "place" "I") (by decide +kernel)
  have i_X6 : ∀ w ∈ u_ws RX6 TX6 4, w ∈ wsX6_init := by decide +kernel
  have f_15 := hts (.fieldLink RX6 15 "SameAgain$Slip" "name" "I") (by decide +kernel)
  have f_18 := hts (.fieldLink RX6 18 "SameAgain$Slip" "code" "LSameAgain$Code;") (by decide +kernel)
  have f_22 := hts (.fieldLink RX6 22 "SameAgain$Slip" "likeness" "LSameAgain$Likeness;") (by decide +kernel)
  refine lv_aload_n hx hb dX6_init_0 rfl (lv_at hl 0 rfl) ?_
  refine W.objInit hx hb hown l_3 l_oi l_oc rfl (by rw [hml]; exact hl.1) rfl dX6_init_1 (Nat.le_of_ble_eq_true rfl) (Nat.le_of_ble_eq_true rfl) ?_
  refine W.eq (g2 := F0 m 4 ls []) rfl ?_
  refine lv_aload_n hx hb dX6_init_4 rfl (lv_at hl 0 rfl) ?_
  refine lv_iconst (v := nI 0) hx hb dX6_init_5 (by decide) ?_
  refine va_put (D := D) (ci := 6) (v := .int (nI 0)) (ty := .int) (C := RX6) (T := TX6) (N := 4) hx hb hts i_X6 tyX6 tyX6_ok nmX6 hown hK.1 hP hD hS 0 rfl rfl 2 (by decide) f_9 (fun _ h9 => h9) rfl (by decide +kernel) rfl rfl (Nat.le_of_ble_eq_true rfl) dX6_init_6 (fun H locs hP hD hS => ?_)
  have hP : va_P D vwCl [(o, .inr (6, [.null, .null, .int (nI 0), .int (nI 0)]))] H := hP
  have hD : va_D A [(o, .inr (6, [.null, .null, .int (nI 0), .int (nI 0)]))] := hD
  refine lv_aload_n hx hb dX6_init_9 rfl (lv_at hl 0 rfl) ?_
  refine lv_iconst (v := nI 0) hx hb dX6_init_10 (by decide) ?_
  refine va_put (D := D) (ci := 6) (v := .int (nI 0)) (ty := .int) (C := RX6) (T := TX6) (N := 4) hx hb hts i_X6 tyX6 tyX6_ok nmX6 hown hK.1 hP hD hS 0 rfl rfl 3 (by decide) f_15 (fun _ h9 => h9) rfl (by decide +kernel) rfl rfl (Nat.le_of_ble_eq_true rfl) dX6_init_11 (fun H locs hP hD hS => ?_)
  have hP : va_P D vwCl [(o, .inr (6, [.null, .null, .int (nI 0), .int (nI 0)]))] H := hP
  have hD : va_D A [(o, .inr (6, [.null, .null, .int (nI 0), .int (nI 0)]))] := hD
  refine lv_aload_n hx hb dX6_init_14 rfl (lv_at hl 0 rfl) ?_
  refine lv_aload_n hx hb dX6_init_15 rfl (lv_at hl 1 rfl) ?_
  refine va_putF (D := D) (ci := 6) (v := .ref oc) (ty := .object "SameAgain$Code") (C := RX6) (T := TX6) (N := 4) hx hb hts i_X6 tyX6 tyX6_ok nmX6 hown hK.1 hP hD hS 0 rfl rfl 0 (by decide) f_18 (fun _ h9 => h9) rfl hin rfl (by decide +kernel) rfl rfl (Nat.le_of_ble_eq_true rfl) dX6_init_16 (fun H locs hP hD hS => ?_)
  have hP : va_P D vwCl [(o, .inr (6, [.ref oc, .null, .int (nI 0), .int (nI 0)]))] H := hP
  have hD : va_D A [(o, .inr (6, [.ref oc, .null, .int (nI 0), .int (nI 0)]))] := hD
  refine lv_aload_n hx hb dX6_init_19 rfl (lv_at hl 0 rfl) ?_
  refine lv_aload_n hx hb dX6_init_20 rfl (lv_at hl 2 rfl) ?_
  refine va_putF (D := D) (ci := 6) (v := .ref o2) (ty := .object "SameAgain$Likeness") (C := RX6) (T := TX6) (N := 4) hx hb hts i_X6 tyX6 tyX6_ok nmX6 hown hK.1 hP hD hS 0 rfl rfl 1 (by decide) f_22 (fun _ h9 => h9) rfl hin rfl (by decide +kernel) rfl rfl (Nat.le_of_ble_eq_true rfl) dX6_init_21 (fun H locs hP hD hS => ?_)
  have hP : va_P D vwCl [(o, .inr (6, [.ref oc, .ref o2, .int (nI 0), .int (nI 0)]))] H := hP
  have hD : va_D A [(o, .inr (6, [.ref oc, .ref o2, .int (nI 0), .int (nI 0)]))] := hD
  rw [hQ]
  exact m_vn hx hb hr hlocks () hP hD hS dX6_init_24
