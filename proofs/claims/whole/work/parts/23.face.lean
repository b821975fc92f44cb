theorem yd_X7_image : yX7_image.cls = RX7 ∧ yX7_image.cls ≠ "java/lang/invoke/MethodHandle" ∧ yX7_image.cls ≠ "java/lang/invoke/VarHandle" ∧ (parseMethodDescriptor yX7_image.desc).map (fun d => d.parameters.length) = some 1 := by decide +kernel
set_option maxHeartbeats 4000000 in
set_option maxRecDepth 100000 in
theorem k_X7_image (l : Launch) (D : va_G) (cI cZ : ClassId) (x oc oz oy k0 k1 pa ps o o5 o4 o6 o1 : Nat) (a1 a2 nl nv : Nat) (z g : Nat → Nat) (b1 b2 nlz nvz : Nat) (zz gz : Nat → Nat) (d1 d2 nly nvy : Nat) (zy gy : Nat → Nat) (n : Int32)  : Met l yX7_image wsX7_image ({ frames := 2, cells := 0, slots := 0, locals := 69 }) (mPc [.ref x, .int n] D cI cZ [(x, .inr (7, [.ref oc, .ref oz, .ref oy, .int (nI k0), .int (nI k1), .ref pa, .int (nI ps), .ref o, .ref o5, .ref o4, .ref o6, .ref o1])), (oc, .inr (0, [.ref a1, .ref a2, .int (nI nl), .int (nI nv)])), (a1, aN cI 640 g), (a2, aN cI 80 z), (oz, .inr (0, [.ref b1, .ref b2, .int (nI nlz), .int (nI nvz)])), (b1, aN cI 640 gz), (b2, aN cI 80 zz), (oy, .inr (0, [.ref d1, .ref d2, .int (nI nly), .int (nI nvy)])), (d1, aN cI 640 gy), (d2, aN cI 80 zy)]) (mQi D (mA [(x, .inr (7, [.ref oc, .ref oz, .ref oy, .int (nI k0), .int (nI k1), .ref pa, .int (nI ps), .ref o, .ref o5, .ref o4, .ref o6, .ref o1])), (oc, .inr (0, [.ref a1, .ref a2, .int (nI nl), .int (nI nv)])), (a1, aN cI 640 g), (a2, aN cI 80 z), (oz, .inr (0, [.ref b1, .ref b2, .int (nI nlz), .int (nI nvz)])), (b1, aN cI 640 gz), (b2, aN cI 80 zz), (oy, .inr (0, [.ref d1, .ref d2, .int (nI nly), .int (nI nvy)])), (d1, aN cI 640 gy), (d2, aN cI 80 zy)]) (fun (r : Int32) (u : Nat × Nat × Nat × (Nat → Nat) × (Nat → Nat) × Nat × Nat × Nat × (Nat → Nat) × (Nat → Nat)) => r = paR (ixB n 2) 1 ∧ (u.1, u.2.1, u.2.2.1, u.2.2.2.1, u.2.2.2.2.1) = imS (ixB n 2 && decide (cN n = 0)) nl nv z g k0 nlz nvz zz gz ∧ (u.2.2.2.2.2.1, u.2.2.2.2.2.2.1, u.2.2.2.2.2.2.2.1, u.2.2.2.2.2.2.2.2.1, u.2.2.2.2.2.2.2.2.2) = imS (ixB n 2 && decide (cN n ≠ 0)) nl nv z g k1 nly nvy zy gy) (fun (u : Nat × Nat × Nat × (Nat → Nat) × (Nat → Nat) × Nat × Nat × Nat × (Nat → Nat) × (Nat → Nat)) => [(x, .inr (7, [.ref oc, .ref oz, .ref oy, .int (nI u.1), .int (nI u.2.2.2.2.2.1), .ref pa, .int (nI ps), .ref o, .ref o5, .ref o4, .ref o6, .ref o1])), (oc, .inr (0, [.ref a1, .ref a2, .int (nI nl), .int (nI nv)])), (a1, aN cI 640 g), (a2, aN cI 80 z), (oz, .inr (0, [.ref b1, .ref b2, .int (nI u.2.1), .int (nI u.2.2.1)])), (b1, aN cI 640 u.2.2.2.2.1), (b2, aN cI 80 u.2.2.2.1), (oy, .inr (0, [.ref d1, .ref d2, .int (nI u.2.2.2.2.2.2.1), .int (nI u.2.2.2.2.2.2.2.1)])), (d1, aN cI 640 u.2.2.2.2.2.2.2.2.2), (d2, aN cI 80 u.2.2.2.2.2.2.2.2.1)])) 0 0 (mA [(x, .inr (7, [.ref oc, .ref oz, .ref oy, .int (nI k0), .int (nI k1), .ref pa, .int (nI ps), .ref o, .ref o5, .ref o4, .ref o6, .ref o1])), (oc, .inr (0, [.ref a1, .ref a2, .int (nI nl), .int (nI nv)])), (a1, aN cI 640 g), (a2, aN cI 80 z), (oz, .inr (0, [.ref b1, .ref b2, .int (nI nlz), .int (nI nvz)])), (b1, aN cI 640 gz), (b2, aN cI 80 zz), (oy, .inr (0, [.ref d1, .ref d2, .int (nI nly), .int (nI nvy)])), (d1, aN cI 640 gy), (d2, aN cI 80 zy)]) := by
  refine Met.ofW (cc := cX7_image) (maxL := 2) (ret := (some .int)) (by decide) rfl ?_
  intro p e s m args below meth c s₁ BB hml hv
  obtain ⟨hargs, hP, hD0, hK⟩ := hv
  have hx := BB.exec
  have hb := BB.bytes
  have hr := BB.returns
  have hts := atoms_spec (ws := wsX7_image) BB.pre
  have hown : s.vm.findClass RX7 = some m.cls := findClass_of_methodNamed BB.named
  have hlocks := BB.notSynchronized
  have hcf : CallFix p m c cX7_image 2 s args wsX7_image RX7 := ⟨hx, hb, hml, hown, hts⟩
  obtain ⟨A, hAe⟩ : ∃ A, A = mA [(x, .inr (7, [.ref oc, .ref oz, .ref oy, .int (nI k0), .int (nI k1), .ref pa, .int (nI ps), .ref o, .ref o5, .ref o4, .ref o6, .ref o1])), (oc, .inr (0, [.ref a1, .ref a2, .int (nI nl), .int (nI nv)])), (a1, aN cI 640 g), (a2, aN cI 80 z), (oz, .inr (0, [.ref b1, .ref b2, .int (nI nlz), .int (nI nvz)])), (b1, aN cI 640 gz), (b2, aN cI 80 zz), (oy, .inr (0, [.ref d1, .ref d2, .int (nI nly), .int (nI nvy)])), (d1, aN cI 640 gy), (d2, aN cI 80 zy)] := ⟨_, rfl⟩
  have hD : va_D A [(x, .inr (7, [.ref oc, .ref oz, .ref oy, .int (nI k0), .int (nI k1), .ref pa, .int (nI ps), .ref o, .ref o5, .ref o4, .ref o6, .ref o1])), (oc, .inr (0, [.ref a1, .ref a2, .int (nI nl), .int (nI nv)])), (a1, aN cI 640 g), (a2, aN cI 80 z), (oz, .inr (0, [.ref b1, .ref b2, .int (nI nlz), .int (nI nvz)])), (b1, aN cI 640 gz), (b2, aN cI 80 zz), (oy, .inr (0, [.ref d1, .ref d2, .int (nI nly), .int (nI nvy)])), (d1, aN cI 640 gy), (d2, aN cI 80 zy)] := ⟨hD0.1, fun k q h => by rw [hAe]; exact ⟨k, q.2, h⟩⟩
  have hS : va_S A s.heap s.heap [] := va_S.rf
  rw [← hAe]
  rw [hargs, lg_entry_eq, ← hargs]
  have hl := lv_entry ([.ref x, .int n]) (n := 2) (Nat.le_of_ble_eq_true rfl)
  generalize (lg_sl ([.ref x, .int n]) ++ List.replicate (2 - (lg_sl ([.ref x, .int n])).length) Slot.unset).toArray = ls at hl ⊢
  have hl : lv_has ls 2 [(0, .ref x), (1, .int n)] := hl
  obtain ⟨Q, hQ⟩ : ∃ Q, Q = MQ below (mQi D A (fun (r : Int32) (u : Nat × Nat × Nat × (Nat → Nat) × (Nat → Nat) × Nat × Nat × Nat × (Nat → Nat) × (Nat → Nat)) => r = paR (ixB n 2) 1 ∧ (u.1, u.2.1, u.2.2.1, u.2.2.2.1, u.2.2.2.2.1) = imS (ixB n 2 && decide (cN n = 0)) nl nv z g k0 nlz nvz zz gz ∧ (u.2.2.2.2.2.1, u.2.2.2.2.2.2.1, u.2.2.2.2.2.2.2.1, u.2.2.2.2.2.2.2.2.1, u.2.2.2.2.2.2.2.2.2) = imS (ixB n 2 && decide (cN n ≠ 0)) nl nv z g k1 nly nvy zy gy) (fun (u : Nat × Nat × Nat × (Nat → Nat) × (Nat → Nat) × Nat × Nat × Nat × (Nat → Nat) × (Nat → Nat)) => [(x, .inr (7, [.ref oc, .ref oz, .ref oy, .int (nI u.1), .int (nI u.2.2.2.2.2.1), .ref pa, .int (nI ps), .ref o, .ref o5, .ref o4, .ref o6, .ref o1])), (oc, .inr (0, [.ref a1, .ref a2, .int (nI nl), .int (nI nv)])), (a1, aN cI 640 g), (a2, aN cI 80 z), (oz, .inr (0, [.ref b1, .ref b2, .int (nI u.2.1), .int (nI u.2.2.1)])), (b1, aN cI 640 u.2.2.2.2.1), (b2, aN cI 80 u.2.2.2.1), (oy, .inr (0, [.ref d1, .ref d2, .int (nI u.2.2.2.2.2.2.1), .int (nI u.2.2.2.2.2.2.2.1)])), (d1, aN cI 640 u.2.2.2.2.2.2.2.2.2), (d2, aN cI 80 u.2.2.2.2.2.2.2.2.1)])) args s 0 0 A := ⟨_, rfl⟩
  rw [← hQ]
  have i_X7 : ∀ w ∈ u_ws RX7 TX7 12, w ∈ wsX7_image := by decide +kernel
  have f_19 := hts (.fieldLink RX7 19 "SameAgain" "imageOne" "LSameAgain$Code;") (by decide +kernel)
  have f_10 := hts (.fieldLink RX7 10 "SameAgain" "code" "LSameAgain$Code;") (by decide +kernel)
  have f_227 := hts (.fieldLink RX7 227 "SameAgain" "keptOne" "Z") (by decide +kernel)
  have f_16 := hts (.fieldLink RX7 16 "SameAgain" "imageZero" "LSameAgain$Code;") (by decide +kernel)
  have f_223 := hts (.fieldLink RX7 223 "SameAgain" "keptZero" "Z") (by decide +kernel)
  refine lv_iload_n hx hb dX7_image_0 rfl (lv_at hl 1 rfl) ?_
  refine lv_iconst (v := nI 1) hx hb dX7_image_1 (by decide) ?_
  refine m_rdS (As := [.int n, .int (nI 1)]) (rest := []) (wc := []) hcf (k_X7_isUpTo (l := l) (D := D) (cI := cI) (cZ := cZ) (a := n) (b := 1) (hb9 := by omega)) (va_cwS 2 hts gX7_image_X7_isUpTo rfl rfl rfl yd_X7_isUpTo.2 ⟨Nat.le_of_ble_eq_true rfl, Nat.le_of_ble_eq_true rfl⟩) (m_preS hK hP hD [] (by decide) rfl) rfl hl.1 rfl (Nat.le_of_ble_eq_true rfl) dX7_image_2 ⟨Nat.zero_le _, Nat.zero_le _⟩ ?_
  refine m_ifB_ne (tgt := 11) hx hb dX7_image_5 (by decide) (fun c_5 => ?_) (fun c_5 => ?_)
  · obtain ⟨e_n, i_n⟩ := ixB_cN (by decide) c_5
    have hl : lv_has ls 2 [(0, .ref x), (1, .int (nI (cN n)))] := by rw [← e_n]; exact hl
    refine lv_iload_n hx hb dX7_image_11 rfl (lv_at hl 1 rfl) ?_
    refine m_if_ne (tgt := 34) hx hb dX7_image_12 (by decide) (by omega) (fun c_12 => ?_) (fun c_12 => ?_)
    · refine lv_aload_n hx hb dX7_image_34 rfl (lv_at hl 0 rfl) ?_
      refine va_get (D := D) (ci := 7) (v := .ref oy) (C := RX7) (T := TX7) (N := 12) hx hb hts i_X7 hown hK.1 hP 0 rfl rfl 2 (by decide) f_19 (fun _ h9 => h9) rfl dX7_image_35 ?_
      refine lv_aload_n hx hb dX7_image_38 rfl (lv_at hl 0 rfl) ?_
      refine va_get (D := D) (ci := 7) (v := .ref oc) (C := RX7) (T := TX7) (N := 12) hx hb hts i_X7 hown hK.1 hP 0 rfl rfl 0 (by decide) f_10 (fun _ h9 => h9) rfl dX7_image_39 ?_
      refine m_wvV (As := [.ref oc]) (rest := []) (wc := [(oy, .inr (0, [.ref d1, .ref d2, .int (nI nly), .int (nI nvy)])), (d1, aN cI 640 gy), (d2, aN cI 80 zy), (oc, .inr (0, [.ref a1, .ref a2, .int (nI nl), .int (nI nv)])), (a1, aN cI 640 g), (a2, aN cI 80 z)]) hcf (k_X0_becomeAs (l := l) (D := D) (cI := cI) (cZ := cZ) (o2 := oc) (o := oy) (a1 := d1) (a2 := d2) (nl := nly) (nv := nvy) (g := gy) (z := zy) (b1 := a1) (b2 := a2) (nl2 := nl) (nv2 := nv) (g2 := g) (z2 := z) ) (cwV 1 hts gX7_image_X0_becomeAs rfl rfl rfl yd_X0_becomeAs ⟨Nat.le_of_ble_eq_true rfl, Nat.le_of_ble_eq_true rfl⟩) hK hP hD hS [7, 8, 9, 1, 2, 3] (by decide) rfl rfl rfl rfl hl.1 rfl (Nat.le_of_ble_eq_true rfl) dX7_image_42 ⟨Nat.zero_le _, Nat.zero_le _⟩ (fun _ => rfl) (fun (u : Unit) => [(x, .inr (7, [.ref oc, .ref oz, .ref oy, .int (nI k0), .int (nI k1), .ref pa, .int (nI ps), .ref o, .ref o5, .ref o4, .ref o6, .ref o1])), (oc, .inr (0, [.ref a1, .ref a2, .int (nI nl), .int (nI nv)])), (a1, aN cI 640 g), (a2, aN cI 80 z), (oz, .inr (0, [.ref b1, .ref b2, .int (nI nlz), .int (nI nvz)])), (b1, aN cI 640 gz), (b2, aN cI 80 zz), (oy, .inr (0, [.ref d1, .ref d2, .int (nI nl), .int (nI nv)])), (d1, aN cI 640 (cpN g gy 0 0 640)), (d2, aN cI 80 (cpN z zy 0 0 80))]) (fun _ => rfl) (fun u H locs hp_42 hP hD hS => ?_)
      have hP : va_P D vwCl [(x, .inr (7, [.ref oc, .ref oz, .ref oy, .int (nI k0), .int (nI k1), .ref pa, .int (nI ps), .ref o, .ref o5, .ref o4, .ref o6, .ref o1])), (oc, .inr (0, [.ref a1, .ref a2, .int (nI nl), .int (nI nv)])), (a1, aN cI 640 g), (a2, aN cI 80 z), (oz, .inr (0, [.ref b1, .ref b2, .int (nI nlz), .int (nI nvz)])), (b1, aN cI 640 gz), (b2, aN cI 80 zz), (oy, .inr (0, [.ref d1, .ref d2, .int (nI nl), .int (nI nv)])), (d1, aN cI 640 (cpN g gy 0 0 640)), (d2, aN cI 80 (cpN z zy 0 0 80))] H := hP
      have hD : va_D A [(x, .inr (7, [.ref oc, .ref oz, .ref oy, .int (nI k0), .int (nI k1), .ref pa, .int (nI ps), .ref o, .ref o5, .ref o4, .ref o6, .ref o1])), (oc, .inr (0, [.ref a1, .ref a2, .int (nI nl), .int (nI nv)])), (a1, aN cI 640 g), (a2, aN cI 80 z), (oz, .inr (0, [.ref b1, .ref b2, .int (nI nlz), .int (nI nvz)])), (b1, aN cI 640 gz), (b2, aN cI 80 zz), (oy, .inr (0, [.ref d1, .ref d2, .int (nI nl), .int (nI nv)])), (d1, aN cI 640 (cpN g gy 0 0 640)), (d2, aN cI 80 (cpN z zy 0 0 80))] := hD
      refine lv_aload_n hx hb dX7_image_45 rfl (lv_at hl 0 rfl) ?_
      refine lv_iconst (v := nI 1) hx hb dX7_image_46 (by decide) ?_
      refine va_put (D := D) (ci := 7) (v := .int (nI 1)) (ty := .boolean) (C := RX7) (T := TX7) (N := 12) hx hb hts i_X7 tyX7 tyX7_ok nmX7 hown hK.1 hP hD hS 0 rfl rfl 4 (by decide) f_227 (fun _ h9 => h9) rfl (by decide +kernel) rfl rfl (Nat.le_of_ble_eq_true rfl) dX7_image_47 (fun H locs hP hD hS => ?_)
      have hP : va_P D vwCl [(x, .inr (7, [.ref oc, .ref oz, .ref oy, .int (nI k0), .int (nI 1), .ref pa, .int (nI ps), .ref o, .ref o5, .ref o4, .ref o6, .ref o1])), (oc, .inr (0, [.ref a1, .ref a2, .int (nI nl), .int (nI nv)])), (a1, aN cI 640 g), (a2, aN cI 80 z), (oz, .inr (0, [.ref b1, .ref b2, .int (nI nlz), .int (nI nvz)])), (b1, aN cI 640 gz), (b2, aN cI 80 zz), (oy, .inr (0, [.ref d1, .ref d2, .int (nI nl), .int (nI nv)])), (d1, aN cI 640 (cpN g gy 0 0 640)), (d2, aN cI 80 (cpN z zy 0 0 80))] H := hP
      have hD : va_D A [(x, .inr (7, [.ref oc, .ref oz, .ref oy, .int (nI k0), .int (nI 1), .ref pa, .int (nI ps), .ref o, .ref o5, .ref o4, .ref o6, .ref o1])), (oc, .inr (0, [.ref a1, .ref a2, .int (nI nl), .int (nI nv)])), (a1, aN cI 640 g), (a2, aN cI 80 z), (oz, .inr (0, [.ref b1, .ref b2, .int (nI nlz), .int (nI nvz)])), (b1, aN cI 640 gz), (b2, aN cI 80 zz), (oy, .inr (0, [.ref d1, .ref d2, .int (nI nl), .int (nI nv)])), (d1, aN cI 640 (cpN g gy 0 0 640)), (d2, aN cI 80 (cpN z zy 0 0 80))] := hD
      refine lv_iconst (v := nI 1) hx hb dX7_image_50 (by decide) ?_
      rw [hQ]
      exact m_iwr hx hb hr hlocks (k0, nlz, nvz, zz, gz, 1, nl, nv, cpN z zy 0 0 80, cpN g gy 0 0 640) (⟨by rw [paR_t c_5]; rfl, by unfold imS; rw [if_neg (by simp [c_5, c_12])], by unfold imS; rw [if_pos (by simp [c_5, c_12])]⟩) hP hS dX7_image_51
    · refine lv_aload_n hx hb dX7_image_15 rfl (lv_at hl 0 rfl) ?_
      refine va_get (D := D) (ci := 7) (v := .ref oz) (C := RX7) (T := TX7) (N := 12) hx hb hts i_X7 hown hK.1 hP 0 rfl rfl 1 (by decide) f_16 (fun _ h9 => h9) rfl dX7_image_16 ?_
      refine lv_aload_n hx hb dX7_image_19 rfl (lv_at hl 0 rfl) ?_
      refine va_get (D := D) (ci := 7) (v := .ref oc) (C := RX7) (T := TX7) (N := 12) hx hb hts i_X7 hown hK.1 hP 0 rfl rfl 0 (by decide) f_10 (fun _ h9 => h9) rfl dX7_image_20 ?_
      refine m_wvV (As := [.ref oc]) (rest := []) (wc := [(oz, .inr (0, [.ref b1, .ref b2, .int (nI nlz), .int (nI nvz)])), (b1, aN cI 640 gz), (b2, aN cI 80 zz), (oc, .inr (0, [.ref a1, .ref a2, .int (nI nl), .int (nI nv)])), (a1, aN cI 640 g), (a2, aN cI 80 z)]) hcf (k_X0_becomeAs (l := l) (D := D) (cI := cI) (cZ := cZ) (o2 := oc) (o := oz) (a1 := b1) (a2 := b2) (nl := nlz) (nv := nvz) (g := gz) (z := zz) (b1 := a1) (b2 := a2) (nl2 := nl) (nv2 := nv) (g2 := g) (z2 := z) ) (cwV 1 hts gX7_image_X0_becomeAs rfl rfl rfl yd_X0_becomeAs ⟨Nat.le_of_ble_eq_true rfl, Nat.le_of_ble_eq_true rfl⟩) hK hP hD hS [4, 5, 6, 1, 2, 3] (by decide) rfl rfl rfl rfl hl.1 rfl (Nat.le_of_ble_eq_true rfl) dX7_image_23 ⟨Nat.zero_le _, Nat.zero_le _⟩ (fun _ => rfl) (fun (u : Unit) => [(x, .inr (7, [.ref oc, .ref oz, .ref oy, .int (nI k0), .int (nI k1), .ref pa, .int (nI ps), .ref o, .ref o5, .ref o4, .ref o6, .ref o1])), (oc, .inr (0, [.ref a1, .ref a2, .int (nI nl), .int (nI nv)])), (a1, aN cI 640 g), (a2, aN cI 80 z), (oz, .inr (0, [.ref b1, .ref b2, .int (nI nl), .int (nI nv)])), (b1, aN cI 640 (cpN g gz 0 0 640)), (b2, aN cI 80 (cpN z zz 0 0 80)), (oy, .inr (0, [.ref d1, .ref d2, .int (nI nly), .int (nI nvy)])), (d1, aN cI 640 gy), (d2, aN cI 80 zy)]) (fun _ => rfl) (fun u H locs hp_23 hP hD hS => ?_)
      have hP : va_P D vwCl [(x, .inr (7, [.ref oc, .ref oz, .ref oy, .int (nI k0), .int (nI k1), .ref pa, .int (nI ps), .ref o, .ref o5, .ref o4, .ref o6, .ref o1])), (oc, .inr (0, [.ref a1, .ref a2, .int (nI nl), .int (nI nv)])), (a1, aN cI 640 g), (a2, aN cI 80 z), (oz, .inr (0, [.ref b1, .ref b2, .int (nI nl), .int (nI nv)])), (b1, aN cI 640 (cpN g gz 0 0 640)), (b2, aN cI 80 (cpN z zz 0 0 80)), (oy, .inr (0, [.ref d1, .ref d2, .int (nI nly), .int (nI nvy)])), (d1, aN cI 640 gy), (d2, aN cI 80 zy)] H := hP
      have hD : va_D A [(x, .inr (7, [.ref oc, .ref oz, .ref oy, .int (nI k0), .int (nI k1), .ref pa, .int (nI ps), .ref o, .ref o5, .ref o4, .ref o6, .ref o1])), (oc, .inr (0, [.ref a1, .ref a2, .int (nI nl), .int (nI nv)])), (a1, aN cI 640 g), (a2, aN cI 80 z), (oz, .inr (0, [.ref b1, .ref b2, .int (nI nl), .int (nI nv)])), (b1, aN cI 640 (cpN g gz 0 0 640)), (b2, aN cI 80 (cpN z zz 0 0 80)), (oy, .inr (0, [.ref d1, .ref d2, .int (nI nly), .int (nI nvy)])), (d1, aN cI 640 gy), (d2, aN cI 80 zy)] := hD
      refine lv_aload_n hx hb dX7_image_26 rfl (lv_at hl 0 rfl) ?_
      refine lv_iconst (v := nI 1) hx hb dX7_image_27 (by decide) ?_
      refine va_put (D := D) (ci := 7) (v := .int (nI 1)) (ty := .boolean) (C := RX7) (T := TX7) (N := 12) hx hb hts i_X7 tyX7 tyX7_ok nmX7 hown hK.1 hP hD hS 0 rfl rfl 3 (by decide) f_223 (fun _ h9 => h9) rfl (by decide +kernel) rfl rfl (Nat.le_of_ble_eq_true rfl) dX7_image_28 (fun H locs hP hD hS => ?_)
      have hP : va_P D vwCl [(x, .inr (7, [.ref oc, .ref oz, .ref oy, .int (nI 1), .int (nI k1), .ref pa, .int (nI ps), .ref o, .ref o5, .ref o4, .ref o6, .ref o1])), (oc, .inr (0, [.ref a1, .ref a2, .int (nI nl), .int (nI nv)])), (a1, aN cI 640 g), (a2, aN cI 80 z), (oz, .inr (0, [.ref b1, .ref b2, .int (nI nl), .int (nI nv)])), (b1, aN cI 640 (cpN g gz 0 0 640)), (b2, aN cI 80 (cpN z zz 0 0 80)), (oy, .inr (0, [.ref d1, .ref d2, .int (nI nly), .int (nI nvy)])), (d1, aN cI 640 gy), (d2, aN cI 80 zy)] H := hP
      have hD : va_D A [(x, .inr (7, [.ref oc, .ref oz, .ref oy, .int (nI 1), .int (nI k1), .ref pa, .int (nI ps), .ref o, .ref o5, .ref o4, .ref o6, .ref o1])), (oc, .inr (0, [.ref a1, .ref a2, .int (nI nl), .int (nI nv)])), (a1, aN cI 640 g), (a2, aN cI 80 z), (oz, .inr (0, [.ref b1, .ref b2, .int (nI nl), .int (nI nv)])), (b1, aN cI 640 (cpN g gz 0 0 640)), (b2, aN cI 80 (cpN z zz 0 0 80)), (oy, .inr (0, [.ref d1, .ref d2, .int (nI nly), .int (nI nvy)])), (d1, aN cI 640 gy), (d2, aN cI 80 zy)] := hD
      refine lv_goto (tgt := 50) hx hb dX7_image_31 (by decide) ?_
      refine lv_iconst (v := nI 1) hx hb dX7_image_50 (by decide) ?_
      rw [hQ]
      exact m_iwr hx hb hr hlocks (1, nl, nv, cpN z zz 0 0 80, cpN g gz 0 0 640, k1, nly, nvy, zy, gy) (⟨by rw [paR_t c_5]; rfl, by unfold imS; rw [if_pos (by simp [c_5, c_12])], by unfold imS; rw [if_neg (by simp [c_5, c_12])]⟩) hP hS dX7_image_51
  · refine lv_bipush (v := (-2)) hx hb dX7_image_8 (by decide) ?_
    rw [hQ]
    exact m_iwr hx hb hr hlocks (k0, nlz, nvz, zz, gz, k1, nly, nvy, zy, gy) (⟨by rw [paR_f c_5], by unfold imS; rw [if_neg (by simp [c_5])], by unfold imS; rw [if_neg (by simp [c_5])]⟩) hP hS dX7_image_10

theorem yd_X7_restore : yX7_restore.cls = RX7 ∧ yX7_restore.cls ≠ "java/lang/invoke/MethodHandle" ∧ yX7_restore.cls ≠ "java/lang/invoke/VarHandle" ∧ (parseMethodDescriptor yX7_restore.desc).map (fun d => d.parameters.length) = some 1 := by decide +kernel
set_option maxHeartbeats 4000000 in
set_option maxRecDepth 100000 in
theorem k_X7_restore (l : Launch) (D : va_G) (cI cZ : ClassId) (x oc oz oy k0 k1 pa ps o o5 o4 o6 o1 : Nat) (a1 a2 nl nv : Nat) (z g : Nat → Nat) (b1 b2 nlz nvz : Nat) (zz gz : Nat → Nat) (d1 d2 nly nvy : Nat) (zy gy : Nat → Nat) (n : Int32) (hk0 : k0 ≤ 1) (hk1 : k1 ≤ 1) : Met l yX7_restore wsX7_restore ({ frames := 2, cells := 0, slots := 0, locals := 69 }) (mPc [.ref x, .int n] D cI cZ [(x, .inr (7, [.ref oc, .ref oz, .ref oy, .int (nI k0), .int (nI k1), .ref pa, .int (nI ps), .ref o, .ref o5, .ref o4, .ref o6, .ref o1])), (oc, .inr (0, [.ref a1, .ref a2, .int (nI nl), .int (nI nv)])), (a1, aN cI 640 g), (a2, aN cI 80 z), (oz, .inr (0, [.ref b1, .ref b2, .int (nI nlz), .int (nI nvz)])), (b1, aN cI 640 gz), (b2, aN cI 80 zz), (oy, .inr (0, [.ref d1, .ref d2, .int (nI nly), .int (nI nvy)])), (d1, aN cI 640 gy), (d2, aN cI 80 zy)]) (mQi D (mA [(x, .inr (7, [.ref oc, .ref oz, .ref oy, .int (nI k0), .int (nI k1), .ref pa, .int (nI ps), .ref o, .ref o5, .ref o4, .ref o6, .ref o1])), (oc, .inr (0, [.ref a1, .ref a2, .int (nI nl), .int (nI nv)])), (a1, aN cI 640 g), (a2, aN cI 80 z), (oz, .inr (0, [.ref b1, .ref b2, .int (nI nlz), .int (nI nvz)])), (b1, aN cI 640 gz), (b2, aN cI 80 zz), (oy, .inr (0, [.ref d1, .ref d2, .int (nI nly), .int (nI nvy)])), (d1, aN cI 640 gy), (d2, aN cI 80 zy)]) (fun (r : Int32) (u : Nat × Nat × (Nat → Nat) × (Nat → Nat)) => r = resR k0 k1 n ∧ (u.1, u.2.1, u.2.2.1, u.2.2.2) = resS k0 k1 n nl nv z g nlz nvz zz gz nly nvy zy gy) (fun (u : Nat × Nat × (Nat → Nat) × (Nat → Nat)) => [(x, .inr (7, [.ref oc, .ref oz, .ref oy, .int (nI k0), .int (nI k1), .ref pa, .int (nI ps), .ref o, .ref o5, .ref o4, .ref o6, .ref o1])), (oc, .inr (0, [.ref a1, .ref a2, .int (nI u.1), .int (nI u.2.1)])), (a1, aN cI 640 u.2.2.2), (a2, aN cI 80 u.2.2.1), (oz, .inr (0, [.ref b1, .ref b2, .int (nI nlz), .int (nI nvz)])), (b1, aN cI 640 gz), (b2, aN cI 80 zz), (oy, .inr (0, [.ref d1, .ref d2, .int (nI nly), .int (nI nvy)])), (d1, aN cI 640 gy), (d2, aN cI 80 zy)])) 0 0 (mA [(x, .inr (7, [.ref oc, .ref oz, .ref oy, .int (nI k0), .int (nI k1), .ref pa, .int (nI ps), .ref o, .ref o5, .ref o4, .ref o6, .ref o1])), (oc, .inr (0, [.ref a1, .ref a2, .int (nI nl), .int (nI nv)])), (a1, aN cI 640 g), (a2, aN cI 80 z), (oz, .inr (0, [.ref b1, .ref b2, .int (nI nlz), .int (nI nvz)])), (b1, aN cI 640 gz), (b2, aN cI 80 zz), (oy, .inr (0, [.ref d1, .ref d2, .int (nI nly), .int (nI nvy)])), (d1, aN cI 640 gy), (d2, aN cI 80 zy)]) := by
  refine Met.ofW (cc := cX7_restore) (maxL := 3) (ret := (some .int)) (by decide) rfl ?_
  intro p e s m args below meth c s₁ BB hml hv
  obtain ⟨hargs, hP, hD0, hK⟩ := hv
  have hx := BB.exec
  have hb := BB.bytes
  have hr := BB.returns
  have hts := atoms_spec (ws := wsX7_restore) BB.pre
  have hown : s.vm.findClass RX7 = some m.cls := findClass_of_methodNamed BB.named
  have hlocks := BB.notSynchronized
  have hcf : CallFix p m c cX7_restore 3 s args wsX7_restore RX7 := ⟨hx, hb, hml, hown, hts⟩
  obtain ⟨A, hAe⟩ : ∃ A, A = mA [(x, .inr (7, [.ref oc, .ref oz, .ref oy, .int (nI k0), .int (nI k1), .ref pa, .int (nI ps), .ref o, .ref o5, .ref o4, .ref o6, .ref o1])), (oc, .inr (0, [.ref a1, .ref a2, .int (nI nl), .int (nI nv)])), (a1, aN cI 640 g), (a2, aN cI 80 z), (oz, .inr (0, [.ref b1, .ref b2, .int (nI nlz), .int (nI nvz)])), (b1, aN cI 640 gz), (b2, aN cI 80 zz), (oy, .inr (0, [.ref d1, .ref d2, .int (nI nly), .int (nI nvy)])), (d1, aN cI 640 gy), (d2, aN cI 80 zy)] := ⟨_, rfl⟩
  have hD : va_D A [(x, .inr (7, [.ref oc, .ref oz, .ref oy, .int (nI k0), .int (nI k1), .ref pa, .int (nI ps), .ref o, .ref o5, .ref o4, .ref o6, .ref o1])), (oc, .inr (0, [.ref a1, .ref a2, .int (nI nl), .int (nI nv)])), (a1, aN cI 640 g), (a2, aN cI 80 z), (oz, .inr (0, [.ref b1, .ref b2, .int (nI nlz), .int (nI nvz)])), (b1, aN cI 640 gz), (b2, aN cI 80 zz), (oy, .inr (0, [.ref d1, .ref d2, .int (nI nly), .int (nI nvy)])), (d1, aN cI 640 gy), (d2, aN cI 80 zy)] := ⟨hD0.1, fun k q h => by rw [hAe]; exact ⟨k, q.2, h⟩⟩
  have hS : va_S A s.heap s.heap [] := va_S.rf
  rw [← hAe]
  rw [hargs, lg_entry_eq, ← hargs]
  have hl := lv_entry ([.ref x, .int n]) (n := 3) (Nat.le_of_ble_eq_true rfl)
  generalize (lg_sl ([.ref x, .int n]) ++ List.replicate (3 - (lg_sl ([.ref x, .int n])).length) Slot.unset).toArray = ls at hl ⊢
  have hl : lv_has ls 3 [(0, .ref x), (1, .int n)] := hl
  obtain ⟨Q, hQ⟩ : ∃ Q, Q = MQ below (mQi D A (fun (r : Int32) (u : Nat × Nat × (Nat → Nat) × (Nat → Nat)) => r = resR k0 k1 n ∧ (u.1, u.2.1, u.2.2.1, u.2.2.2) = resS k0 k1 n nl nv z g nlz nvz zz gz nly nvy zy gy) (fun (u : Nat × Nat × (Nat → Nat) × (Nat → Nat)) => [(x, .inr (7, [.ref oc, .ref oz, .ref oy, .int (nI k0), .int (nI k1), .ref pa, .int (nI ps), .ref o, .ref o5, .ref o4, .ref o6, .ref o1])), (oc, .inr (0, [.ref a1, .ref a2, .int (nI u.1), .int (nI u.2.1)])), (a1, aN cI 640 u.2.2.2), (a2, aN cI 80 u.2.2.1), (oz, .inr (0, [.ref b1, .ref b2, .int (nI nlz), .int (nI nvz)])), (b1, aN cI 640 gz), (b2, aN cI 80 zz), (oy, .inr (0, [.ref d1, .ref d2, .int (nI nly), .int (nI nvy)])), (d1, aN cI 640 gy), (d2, aN cI 80 zy)])) args s 0 0 A := ⟨_, rfl⟩
  rw [← hQ]
  have i_X7 : ∀ w ∈ u_ws RX7 TX7 12, w ∈ wsX7_restore := by decide +kernel
  have f_227 := hts (.fieldLink RX7 227 "SameAgain" "keptOne" "Z") (by decide +kernel)
  have f_10 := hts (.fieldLink RX7 10 "SameAgain" "code" "LSameAgain$Code;") (by decide +kernel)
  have f_19 := hts (.fieldLink RX7 19 "SameAgain" "imageOne" "LSameAgain$Code;") (by decide +kernel)
  have f_223 := hts (.fieldLink RX7 223 "SameAgain" "keptZero" "Z") (by decide +kernel)
  have f_16 := hts (.fieldLink RX7 16 "SameAgain" "imageZero" "LSameAgain$Code;") (by decide +kernel)
  refine lv_iload_n hx hb dX7_restore_0 rfl (lv_at hl 1 rfl) ?_
  refine lv_iconst (v := nI 1) hx hb dX7_restore_1 (by decide) ?_
  refine m_rdS (As := [.int n, .int (nI 1)]) (rest := []) (wc := []) hcf (k_X7_isUpTo (l := l) (D := D) (cI := cI) (cZ := cZ) (a := n) (b := 1) (hb9 := by omega)) (va_cwS 2 hts gX7_restore_X7_isUpTo rfl rfl rfl yd_X7_isUpTo.2 ⟨Nat.le_of_ble_eq_true rfl, Nat.le_of_ble_eq_true rfl⟩) (m_preS hK hP hD [] (by decide) rfl) rfl hl.1 rfl (Nat.le_of_ble_eq_true rfl) dX7_restore_2 ⟨Nat.zero_le _, Nat.zero_le _⟩ ?_
  refine m_ifB_ne (tgt := 11) hx hb dX7_restore_5 (by decide) (fun c_5 => ?_) (fun c_5 => ?_)
  · obtain ⟨e_n, i_n⟩ := ixB_cN (by decide) c_5
    have hl : lv_has ls 3 [(0, .ref x), (1, .int (nI (cN n)))] := by rw [← e_n]; exact hl
    refine lv_iload_n hx hb dX7_restore_11 rfl (lv_at hl 1 rfl) ?_
    refine m_if_ne (tgt := 22) hx hb dX7_restore_12 (by decide) (by omega) (fun c_12 => ?_) (fun c_12 => ?_)
    · refine lv_aload_n hx hb dX7_restore_22 rfl (lv_at hl 0 rfl) ?_
      refine va_get (D := D) (ci := 7) (v := .int (nI k1)) (C := RX7) (T := TX7) (N := 12) hx hb hts i_X7 hown hK.1 hP 0 rfl rfl 4 (by decide) f_227 (fun _ h9 => h9) rfl dX7_restore_23 ?_
      refine lv_istore_n (lv' := [(2, .int (nI k1)), (0, .ref x), (1, .int (nI (cN n)))]) hx hb dX7_restore_26 rfl hl (by decide) rfl (fun ls hl => ?_)
      refine lv_iload_n hx hb dX7_restore_27 rfl (lv_at hl 0 rfl) ?_
      refine m_if_ne (tgt := 34) hx hb dX7_restore_28 (by decide) (by omega) (fun c_28 => ?_) (fun c_28 => ?_)
      · refine lv_aload_n hx hb dX7_restore_34 rfl (lv_at hl 1 rfl) ?_
        refine va_get (D := D) (ci := 7) (v := .ref oc) (C := RX7) (T := TX7) (N := 12) hx hb hts i_X7 hown hK.1 hP 0 rfl rfl 0 (by decide) f_10 (fun _ h9 => h9) rfl dX7_restore_35 ?_
        refine lv_iload_n hx hb dX7_restore_38 rfl (lv_at hl 2 rfl) ?_
        refine m_if_ne (tgt := 49) hx hb dX7_restore_39 (by decide) (by omega) (fun c_39 => ?_) (fun c_39 => ?_)
        · refine lv_aload_n hx hb dX7_restore_49 rfl (lv_at hl 1 rfl) ?_
          refine va_get (D := D) (ci := 7) (v := .ref oy) (C := RX7) (T := TX7) (N := 12) hx hb hts i_X7 hown hK.1 hP 0 rfl rfl 2 (by decide) f_19 (fun _ h9 => h9) rfl dX7_restore_50 ?_
          refine m_wvV (As := [.ref oy]) (rest := []) (wc := [(oc, .inr (0, [.ref a1, .ref a2, .int (nI nl), .int (nI nv)])), (a1, aN cI 640 g), (a2, aN cI 80 z), (oy, .inr (0, [.ref d1, .ref d2, .int (nI nly), .int (nI nvy)])), (d1, aN cI 640 gy), (d2, aN cI 80 zy)]) hcf (k_X0_becomeAs (l := l) (D := D) (cI := cI) (cZ := cZ) (o2 := oy) (o := oc) (a1 := a1) (a2 := a2) (nl := nl) (nv := nv) (g := g) (z := z) (b1 := d1) (b2 := d2) (nl2 := nly) (nv2 := nvy) (g2 := gy) (z2 := zy) ) (cwV 1 hts gX7_restore_X0_becomeAs rfl rfl rfl yd_X0_becomeAs ⟨Nat.le_of_ble_eq_true rfl, Nat.le_of_ble_eq_true rfl⟩) hK hP hD hS [1, 2, 3, 7, 8, 9] (by decide) rfl rfl rfl rfl hl.1 rfl (Nat.le_of_ble_eq_true rfl) dX7_restore_53 ⟨Nat.zero_le _, Nat.zero_le _⟩ (fun _ => rfl) (fun (u : Unit) => [(x, .inr (7, [.ref oc, .ref oz, .ref oy, .int (nI k0), .int (nI k1), .ref pa, .int (nI ps), .ref o, .ref o5, .ref o4, .ref o6, .ref o1])), (oc, .inr (0, [.ref a1, .ref a2, .int (nI nly), .int (nI nvy)])), (a1, aN cI 640 (cpN gy g 0 0 640)), (a2, aN cI 80 (cpN zy z 0 0 80)), (oz, .inr (0, [.ref b1, .ref b2, .int (nI nlz), .int (nI nvz)])), (b1, aN cI 640 gz), (b2, aN cI 80 zz), (oy, .inr (0, [.ref d1, .ref d2, .int (nI nly), .int (nI nvy)])), (d1, aN cI 640 gy), (d2, aN cI 80 zy)]) (fun _ => rfl) (fun u H locs hp_53 hP hD hS => ?_)
          have hP : va_P D vwCl [(x, .inr (7, [.ref oc, .ref oz, .ref oy, .int (nI k0), .int (nI k1), .ref pa, .int (nI ps), .ref o, .ref o5, .ref o4, .ref o6, .ref o1])), (oc, .inr (0, [.ref a1, .ref a2, .int (nI nly), .int (nI nvy)])), (a1, aN cI 640 (cpN gy g 0 0 640)), (a2, aN cI 80 (cpN zy z 0 0 80)), (oz, .inr (0, [.ref b1, .ref b2, .int (nI nlz), .int (nI nvz)])), (b1, aN cI 640 gz), (b2, aN cI 80 zz), (oy, .inr (0, [.ref d1, .ref d2, .int (nI nly), .int (nI nvy)])), (d1, aN cI 640 gy), (d2, aN cI 80 zy)] H := hP
          have hD : va_D A [(x, .inr (7, [.ref oc, .ref oz, .ref oy, .int (nI k0), .int (nI k1), .ref pa, .int (nI ps), .ref o, .ref o5, .ref o4, .ref o6, .ref o1])), (oc, .inr (0, [.ref a1, .ref a2, .int (nI nly), .int (nI nvy)])), (a1, aN cI 640 (cpN gy g 0 0 640)), (a2, aN cI 80 (cpN zy z 0 0 80)), (oz, .inr (0, [.ref b1, .ref b2, .int (nI nlz), .int (nI nvz)])), (b1, aN cI 640 gz), (b2, aN cI 80 zz), (oy, .inr (0, [.ref d1, .ref d2, .int (nI nly), .int (nI nvy)])), (d1, aN cI 640 gy), (d2, aN cI 80 zy)] := hD
          refine lv_iconst (v := nI 1) hx hb dX7_restore_56 (by decide) ?_
          rw [hQ]
          exact m_iwr hx hb hr hlocks (nly, nvy, cpN zy z 0 0 80, cpN gy g 0 0 640) (⟨by unfold resR; rw [if_pos c_5, if_neg c_12, if_neg c_28]; rfl, by unfold resS; rw [if_pos c_5, if_neg c_12, reS_t (decide_eq_true c_28)]⟩) hP hS dX7_restore_57
        · exact absurd c_39 c_12
      · refine lv_bipush (v := (-3)) hx hb dX7_restore_31 (by decide) ?_
        rw [hQ]
        exact m_iwr hx hb hr hlocks (nl, nv, z, g) (⟨by unfold resR; rw [if_pos c_5, if_neg c_12, if_pos c_28], by unfold resS; rw [if_pos c_5, if_neg c_12, reS_f (by simp [c_28])]⟩) hP hS dX7_restore_33
    · refine lv_aload_n hx hb dX7_restore_15 rfl (lv_at hl 0 rfl) ?_
      refine va_get (D := D) (ci := 7) (v := .int (nI k0)) (C := RX7) (T := TX7) (N := 12) hx hb hts i_X7 hown hK.1 hP 0 rfl rfl 3 (by decide) f_223 (fun _ h9 => h9) rfl dX7_restore_16 ?_
      refine lv_goto (tgt := 26) hx hb dX7_restore_19 (by decide) ?_
      refine lv_istore_n (lv' := [(2, .int (nI k0)), (0, .ref x), (1, .int (nI (cN n)))]) hx hb dX7_restore_26 rfl hl (by decide) rfl (fun ls hl => ?_)
      refine lv_iload_n hx hb dX7_restore_27 rfl (lv_at hl 0 rfl) ?_
      refine m_if_ne (tgt := 34) hx hb dX7_restore_28 (by decide) (by omega) (fun c_28 => ?_) (fun c_28 => ?_)
      · refine lv_aload_n hx hb dX7_restore_34 rfl (lv_at hl 1 rfl) ?_
        refine va_get (D := D) (ci := 7) (v := .ref oc) (C := RX7) (T := TX7) (N := 12) hx hb hts i_X7 hown hK.1 hP 0 rfl rfl 0 (by decide) f_10 (fun _ h9 => h9) rfl dX7_restore_35 ?_
        refine lv_iload_n hx hb dX7_restore_38 rfl (lv_at hl 2 rfl) ?_
        refine m_if_ne (tgt := 49) hx hb dX7_restore_39 (by decide) (by omega) (fun c_39 => ?_) (fun c_39 => ?_)
        · exact absurd c_12 c_39
        · refine lv_aload_n hx hb dX7_restore_42 rfl (lv_at hl 1 rfl) ?_
          refine va_get (D := D) (ci := 7) (v := .ref oz) (C := RX7) (T := TX7) (N := 12) hx hb hts i_X7 hown hK.1 hP 0 rfl rfl 1 (by decide) f_16 (fun _ h9 => h9) rfl dX7_restore_43 ?_
          refine lv_goto (tgt := 53) hx hb dX7_restore_46 (by decide) ?_
          refine m_wvV (As := [.ref oz]) (rest := []) (wc := [(oc, .inr (0, [.ref a1, .ref a2, .int (nI nl), .int (nI nv)])), (a1, aN cI 640 g), (a2, aN cI 80 z), (oz, .inr (0, [.ref b1, .ref b2, .int (nI nlz), .int (nI nvz)])), (b1, aN cI 640 gz), (b2, aN cI 80 zz)]) hcf (k_X0_becomeAs (l := l) (D := D) (cI := cI) (cZ := cZ) (o2 := oz) (o := oc) (a1 := a1) (a2 := a2) (nl := nl) (nv := nv) (g := g) (z := z) (b1 := b1) (b2 := b2) (nl2 := nlz) (nv2 := nvz) (g2 := gz) (z2 := zz) ) (cwV 1 hts gX7_restore_X0_becomeAs rfl rfl rfl yd_X0_becomeAs ⟨Nat.le_of_ble_eq_true rfl, Nat.le_of_ble_eq_true rfl⟩) hK hP hD hS [1, 2, 3, 4, 5, 6] (by decide) rfl rfl rfl rfl hl.1 rfl (Nat.le_of_ble_eq_true rfl) dX7_restore_53 ⟨Nat.zero_le _, Nat.zero_le _⟩ (fun _ => rfl) (fun (u : Unit) => [(x, .inr (7, [.ref oc, .ref oz, .ref oy, .int (nI k0), .int (nI k1), .ref pa, .int (nI ps), .ref o, .ref o5, .ref o4, .ref o6, .ref o1])), (oc, .inr (0, [.ref a1, .ref a2, .int (nI nlz), .int (nI nvz)])), (a1, aN cI 640 (cpN gz g 0 0 640)), (a2, aN cI 80 (cpN zz z 0 0 80)), (oz, .inr (0, [.ref b1, .ref b2, .int (nI nlz), .int (nI nvz)])), (b1, aN cI 640 gz), (b2, aN cI 80 zz), (oy, .inr (0, [.ref d1, .ref d2, .int (nI nly), .int (nI nvy)])), (d1, aN cI 640 gy), (d2, aN cI 80 zy)]) (fun _ => rfl) (fun u H locs hp_53 hP hD hS => ?_)
          have hP : va_P D vwCl [(x, .inr (7, [.ref oc, .ref oz, .ref oy, .int (nI k0), .int (nI k1), .ref pa, .int (nI ps), .ref o, .ref o5, .ref o4, .ref o6, .ref o1])), (oc, .inr (0, [.ref a1, .ref a2, .int (nI nlz), .int (nI nvz)])), (a1, aN cI 640 (cpN gz g 0 0 640)), (a2, aN cI 80 (cpN zz z 0 0 80)), (oz, .inr (0, [.ref b1, .ref b2, .int (nI nlz), .int (nI nvz)])), (b1, aN cI 640 gz), (b2, aN cI 80 zz), (oy, .inr (0, [.ref d1, .ref d2, .int (nI nly), .int (nI nvy)])), (d1, aN cI 640 gy), (d2, aN cI 80 zy)] H := hP
          have hD : va_D A [(x, .inr (7, [.ref oc, .ref oz, .ref oy, .int (nI k0), .int (nI k1), .ref pa, .int (nI ps), .ref o, .ref o5, .ref o4, .ref o6, .ref o1])), (oc, .inr (0, [.ref a1, .ref a2, .int (nI nlz), .int (nI nvz)])), (a1, aN cI 640 (cpN gz g 0 0 640)), (a2, aN cI 80 (cpN zz z 0 0 80)), (oz, .inr (0, [.ref b1, .ref b2, .int (nI nlz), .int (nI nvz)])), (b1, aN cI 640 gz), (b2, aN cI 80 zz), (oy, .inr (0, [.ref d1, .ref d2, .int (nI nly), .int (nI nvy)])), (d1, aN cI 640 gy), (d2, aN cI 80 zy)] := hD
          refine lv_iconst (v := nI 1) hx hb dX7_restore_56 (by decide) ?_
          rw [hQ]
          exact m_iwr hx hb hr hlocks (nlz, nvz, cpN zz z 0 0 80, cpN gz g 0 0 640) (⟨by unfold resR; rw [if_pos c_5, if_pos c_12, if_neg c_28]; rfl, by unfold resS; rw [if_pos c_5, if_pos c_12, reS_t (decide_eq_true c_28)]⟩) hP hS dX7_restore_57
      · refine lv_bipush (v := (-3)) hx hb dX7_restore_31 (by decide) ?_
        rw [hQ]
        exact m_iwr hx hb hr hlocks (nl, nv, z, g) (⟨by unfold resR; rw [if_pos c_5, if_pos c_12, if_pos c_28], by unfold resS; rw [if_pos c_5, if_pos c_12, reS_f (by simp [c_28])]⟩) hP hS dX7_restore_33
  · refine lv_bipush (v := (-2)) hx hb dX7_restore_8 (by decide) ?_
    rw [hQ]
    exact m_iwr hx hb hr hlocks (nl, nv, z, g) (⟨by unfold resR; rw [if_neg (by rw [c_5]; decide)], by unfold resS; rw [if_neg (by rw [c_5]; decide)]⟩) hP hS dX7_restore_10

theorem yd_X7_told : yX7_told.cls = RX7 ∧ yX7_told.cls ≠ "java/lang/invoke/MethodHandle" ∧ yX7_told.cls ≠ "java/lang/invoke/VarHandle" ∧ (parseMethodDescriptor yX7_told.desc).map (fun d => d.parameters.length) = some 1 := by decide +kernel
set_option maxHeartbeats 4000000 in
set_option maxRecDepth 100000 in
theorem k_X7_told (l : Launch) (D : va_G) (cI cZ : ClassId) (x oc oz oy k0 k1 pa ps o o5 o4 o6 o1 : Nat) (a1 a2 nl nv : Nat) (z g : Nat → Nat) (wh : Int32)  : Met l yX7_told wsX7_told ({ frames := 1, cells := 0, slots := 0, locals := 20 }) (mPc [.ref x, .int wh] D cI cZ [(x, .inr (7, [.ref oc, .ref oz, .ref oy, .int (nI k0), .int (nI k1), .ref pa, .int (nI ps), .ref o, .ref o5, .ref o4, .ref o6, .ref o1])), (oc, .inr (0, [.ref a1, .ref a2, .int (nI nl), .int (nI nv)])), (a1, aN cI 640 g), (a2, aN cI 80 z)]) (QcRead (tolR ps nl nv wh)) 0 0 (fun _ => False) := by
  refine Met.ofW (cc := cX7_told) (maxL := 2) (ret := (some .int)) (by decide) rfl ?_
  intro p e s m args below meth c s₁ BB hml hv
  obtain ⟨hargs, hP, hD0, hK⟩ := hv
  have hx := BB.exec
  have hb := BB.bytes
  have hr := BB.returns
  have hts := atoms_spec (ws := wsX7_told) BB.pre
  have hown : s.vm.findClass RX7 = some m.cls := findClass_of_methodNamed BB.named
  have hlocks := BB.notSynchronized
  have hcf : CallFix p m c cX7_told 2 s args wsX7_told RX7 := ⟨hx, hb, hml, hown, hts⟩
  have hD := hD0
  rw [hargs, lg_entry_eq, ← hargs]
  have hl := lv_entry ([.ref x, .int wh]) (n := 2) (Nat.le_of_ble_eq_true rfl)
  generalize (lg_sl ([.ref x, .int wh]) ++ List.replicate (2 - (lg_sl ([.ref x, .int wh])).length) Slot.unset).toArray = ls at hl ⊢
  have hl : lv_has ls 2 [(0, .ref x), (1, .int wh)] := hl
  obtain ⟨Q, hQ⟩ : ∃ Q, Q = MQ below (QcRead (tolR ps nl nv wh)) args s 0 0 (fun _ => False) := ⟨_, rfl⟩
  rw [← hQ]
  have i_X7 : ∀ w ∈ u_ws RX7 TX7 12, w ∈ wsX7_told := by decide +kernel
  have f_67 := hts (.fieldLink RX7 67 "SameAgain" "padSize" "I") (by decide +kernel)
  have f_10 := hts (.fieldLink RX7 10 "SameAgain" "code" "LSameAgain$Code;") (by decide +kernel)
  refine lv_iload_n hx hb dX7_told_0 rfl (lv_at hl 1 rfl) ?_
  rcases sw3 wh with hs_1 | hs_1 | hs_1 | hs_1
  · refine m_top (y := nI 0) hs_1 ?_
    refine lv_tableIn (off := 27) (tgt := 28) hx hb dX7_told_1 (by decide) (by decide) (by decide) (by decide) ?_
    refine lv_aload_n hx hb dX7_told_28 rfl (lv_at hl 0 rfl) ?_
    refine va_get (D := D) (ci := 7) (v := .int (nI ps)) (C := RX7) (T := TX7) (N := 12) hx hb hts i_X7 hown hK.1 hP 0 rfl rfl 6 (by decide) f_67 (fun _ h9 => h9) rfl dX7_told_29 ?_
    rw [hQ]
    exact m_ird hx hb hr hlocks (by unfold tolR; rw [if_pos (show wh = 0 from hs_1)]) dX7_told_32
  · refine m_top (y := nI 1) hs_1 ?_
    refine lv_tableIn (off := 32) (tgt := 33) hx hb dX7_told_1 (by decide) (by decide) (by decide) (by decide) ?_
    refine lv_aload_n hx hb dX7_told_33 rfl (lv_at hl 0 rfl) ?_
    refine va_get (D := D) (ci := 7) (v := .ref oc) (C := RX7) (T := TX7) (N := 12) hx hb hts i_X7 hown hK.1 hP 0 rfl rfl 0 (by decide) f_10 (fun _ h9 => h9) rfl dX7_told_34 ?_
    refine m_rdV (As := []) (rest := []) (wc := [(oc, .inr (0, [.ref a1, .ref a2, .int (nI nl), .int (nI nv)])), (a1, aN cI 640 g), (a2, aN cI 80 z)]) hcf (k_X0_lines (l := l) (D := D) (cI := cI) (cZ := cZ) (o := oc) (a1 := a1) (a2 := a2) (nl := nl) (nv := nv) (g := g) (z := z) ) (cwV 0 hts gX7_told_X0_lines rfl rfl rfl yd_X0_lines ⟨Nat.le_of_ble_eq_true rfl, Nat.le_of_ble_eq_true rfl⟩) (m_preV hK hP hD [1, 2, 3] (by decide) rfl rfl rfl) rfl hl.1 rfl (Nat.le_of_ble_eq_true rfl) dX7_told_37 ⟨Nat.zero_le _, Nat.zero_le _⟩ ?_
    rw [hQ]
    exact m_ird hx hb hr hlocks (by unfold tolR; rw [if_neg (by rw [hs_1]; decide), if_pos (show wh = 1 from hs_1)]) dX7_told_40
  · refine m_top (y := nI 2) hs_1 ?_
    refine lv_tableIn (off := 40) (tgt := 41) hx hb dX7_told_1 (by decide) (by decide) (by decide) (by decide) ?_
    refine lv_aload_n hx hb dX7_told_41 rfl (lv_at hl 0 rfl) ?_
    refine va_get (D := D) (ci := 7) (v := .ref oc) (C := RX7) (T := TX7) (N := 12) hx hb hts i_X7 hown hK.1 hP 0 rfl rfl 0 (by decide) f_10 (fun _ h9 => h9) rfl dX7_told_42 ?_
    refine m_rdV (As := []) (rest := []) (wc := [(oc, .inr (0, [.ref a1, .ref a2, .int (nI nl), .int (nI nv)])), (a1, aN cI 640 g), (a2, aN cI 80 z)]) hcf (k_X0_versions (l := l) (D := D) (cI := cI) (cZ := cZ) (o := oc) (a1 := a1) (a2 := a2) (nl := nl) (nv := nv) (g := g) (z := z) ) (cwV 0 hts gX7_told_X0_versions rfl rfl rfl yd_X0_versions ⟨Nat.le_of_ble_eq_true rfl, Nat.le_of_ble_eq_true rfl⟩) (m_preV hK hP hD [1, 2, 3] (by decide) rfl rfl rfl) rfl hl.1 rfl (Nat.le_of_ble_eq_true rfl) dX7_told_45 ⟨Nat.zero_le _, Nat.zero_le _⟩ ?_
    rw [hQ]
    exact m_ird hx hb hr hlocks (by unfold tolR; rw [if_neg (by rw [hs_1]; decide), if_neg (by rw [hs_1]; decide), if_pos (show wh = 2 from hs_1)]) dX7_told_48
  · refine lv_tableOut (tgt := 49) hx hb dX7_told_1 hs_1 (by decide) ?_
    refine lv_bipush (v := (-2)) hx hb dX7_told_49 (by decide) ?_
    rw [hQ]
    exact m_ird hx hb hr hlocks (by unfold tolR; rw [if_neg (fun h => by rw [h] at hs_1; revert hs_1; decide), if_neg (fun h => by rw [h] at hs_1; revert hs_1; decide), if_neg (fun h => by rw [h] at hs_1; revert hs_1; decide)]) dX7_told_51
