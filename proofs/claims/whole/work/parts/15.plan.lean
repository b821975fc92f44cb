theorem yd_X4_note : yX4_note.cls = RX4 ∧ yX4_note.cls ≠ "java/lang/invoke/MethodHandle" ∧ yX4_note.cls ≠ "java/lang/invoke/VarHandle" ∧ (parseMethodDescriptor yX4_note.desc).map (fun d => d.parameters.length) = some 2 := by decide +kernel
set_option maxHeartbeats 4000000 in
set_option maxRecDepth 100000 in
theorem k_X4_note (l : Launch) (D : va_G) (cI cZ : ClassId) (o4 oc o o5 s4 l4 ct bs bt bl : Nat) (sa li : Nat → Nat) (s5 va tc ts tn td : Nat) (sv : Int32) (L : List (Nat × Nat × Nat × Nat)) (start n : Nat) (hps : psOK L ct sa li bs bt bl) (hsv : ¬ sv ≤ 0 → sv.toNatClampNeg ≤ 1000 ∧ ct < 200) (htn : tn < 2 ^ 20) : Met l yX4_note wsX4_note ({ frames := 0, cells := 0, slots := 0, locals := 0 }) (mPc [.ref o4, .int (nI start), .int (nI n)] D cI cZ [(o4, .inr (4, [.ref oc, .ref o, .ref o5, .ref s4, .ref l4, .int (nI ct), .int (nI bs), .int (nI bt), .int (nI bl)])), (s4, aN cI 200 sa), (l4, aN cI 200 li), (o5, .inr (5, [.ref oc, .ref o, .ref s5, .int (nI va), .int (nI tc), .int (nI ts), .int (nI tn), .int (nI td), .int sv]))]) (mQv D (mA [(o4, .inr (4, [.ref oc, .ref o, .ref o5, .ref s4, .ref l4, .int (nI ct), .int (nI bs), .int (nI bt), .int (nI bl)])), (s4, aN cI 200 sa), (l4, aN cI 200 li), (o5, .inr (5, [.ref oc, .ref o, .ref s5, .int (nI va), .int (nI tc), .int (nI ts), .int (nI tn), .int (nI td), .int sv]))]) (fun (u : Nat × (Nat → Nat) × (Nat → Nat) × Nat × Nat × Nat) => psOK (L ++ cdL sv tn start n) u.1 u.2.1 u.2.2.1 u.2.2.2.1 u.2.2.2.2.1 u.2.2.2.2.2) (fun (u : Nat × (Nat → Nat) × (Nat → Nat) × Nat × Nat × Nat) => [(o4, .inr (4, [.ref oc, .ref o, .ref o5, .ref s4, .ref l4, .int (nI u.1), .int (nI u.2.2.2.1), .int (nI u.2.2.2.2.1), .int (nI u.2.2.2.2.2)])), (s4, aN cI 200 u.2.1), (l4, aN cI 200 u.2.2.1), (o5, .inr (5, [.ref oc, .ref o, .ref s5, .int (nI va), .int (nI tc), .int (nI ts), .int (nI tn), .int (nI td), .int sv]))])) 0 0 (mA [(o4, .inr (4, [.ref oc, .ref o, .ref o5, .ref s4, .ref l4, .int (nI ct), .int (nI bs), .int (nI bt), .int (nI bl)])), (s4, aN cI 200 sa), (l4, aN cI 200 li), (o5, .inr (5, [.ref oc, .ref o, .ref s5, .int (nI va), .int (nI tc), .int (nI ts), .int (nI tn), .int (nI td), .int sv]))]) := by
  refine Met.ofW (cc := cX4_note) (maxL := 3) (ret := none) (by decide) rfl ?_
  intro p e s m args below meth c s₁ BB hml hv
  obtain ⟨hargs, hP, hD0, hK⟩ := hv
  have hx := BB.exec
  have hb := BB.bytes
  have hr := BB.returns
  have hts := atoms_spec (ws := wsX4_note) BB.pre
  have hown : s.vm.findClass RX4 = some m.cls := findClass_of_methodNamed BB.named
  have hlocks := BB.notSynchronized
  have hcf : CallFix p m c cX4_note 3 s args wsX4_note RX4 := ⟨hx, hb, hml, hown, hts⟩
  obtain ⟨A, hAe⟩ : ∃ A, A = mA [(o4, .inr (4, [.ref oc, .ref o, .ref o5, .ref s4, .ref l4, .int (nI ct), .int (nI bs), .int (nI bt), .int (nI bl)])), (s4, aN cI 200 sa), (l4, aN cI 200 li), (o5, .inr (5, [.ref oc, .ref o, .ref s5, .int (nI va), .int (nI tc), .int (nI ts), .int (nI tn), .int (nI td), .int sv]))] := ⟨_, rfl⟩
  have hD : va_D A [(o4, .inr (4, [.ref oc, .ref o, .ref o5, .ref s4, .ref l4, .int (nI ct), .int (nI bs), .int (nI bt), .int (nI bl)])), (s4, aN cI 200 sa), (l4, aN cI 200 li), (o5, .inr (5, [.ref oc, .ref o, .ref s5, .int (nI va), .int (nI tc), .int (nI ts), .int (nI tn), .int (nI td), .int sv]))] := ⟨hD0.1, fun k q h => by rw [hAe]; exact ⟨k, q.2, h⟩⟩
  have hS : va_S A s.heap s.heap [] := va_S.rf
  rw [← hAe]
  rw [hargs, lg_entry_eq, ← hargs]
  have hl := lv_entry ([.ref o4, .int (nI start), .int (nI n)]) (n := 3) (Nat.le_of_ble_eq_true rfl)
  generalize (lg_sl ([.ref o4, .int (nI start), .int (nI n)]) ++ List.replicate (3 - (lg_sl ([.ref o4, .int (nI start), .int (nI n)])).length) Slot.unset).toArray = ls at hl ⊢
  have hl : lv_has ls 3 [(0, .ref o4), (1, .int (nI start)), (2, .int (nI n))] := hl
  obtain ⟨Q, hQ⟩ : ∃ Q, Q = MQ below (mQv D A (fun (u : Nat × (Nat → Nat) × (Nat → Nat) × Nat × Nat × Nat) => psOK (L ++ cdL sv tn start n) u.1 u.2.1 u.2.2.1 u.2.2.2.1 u.2.2.2.2.1 u.2.2.2.2.2) (fun (u : Nat × (Nat → Nat) × (Nat → Nat) × Nat × Nat × Nat) => [(o4, .inr (4, [.ref oc, .ref o, .ref o5, .ref s4, .ref l4, .int (nI u.1), .int (nI u.2.2.2.1), .int (nI u.2.2.2.2.1), .int (nI u.2.2.2.2.2)])), (s4, aN cI 200 u.2.1), (l4, aN cI 200 u.2.2.1), (o5, .inr (5, [.ref oc, .ref o, .ref s5, .int (nI va), .int (nI tc), .int (nI ts), .int (nI tn), .int (nI td), .int sv]))])) args s 0 0 A := ⟨_, rfl⟩
  rw [← hQ]
  have i_X4 : ∀ w ∈ u_ws RX4 TX4 9, w ∈ wsX4_note := by decide +kernel
  have f_39 := hts (.fieldLink RX4 39 "SameAgain$Plan" "procedure" "LSameAgain$Procedure;") (by decide +kernel)
  have fn_64 := va_Nw.use (A := args) rfl (hK.2.1 ("SameAgain$Plan", 64, "SameAgain$Procedure", "saved", "I", "SameAgain") (by decide +kernel))
  have i_X5 : ∀ w ∈ u_ws RX5 TX5 9, w ∈ wsX4_note := by decide +kernel
  have f_18 := hts (.fieldLink RX4 18 "SameAgain$Plan" "count" "I") (by decide +kernel)
  have f_9 := hts (.fieldLink RX4 9 "SameAgain$Plan" "saves" "[I") (by decide +kernel)
  have f_15 := hts (.fieldLink RX4 15 "SameAgain$Plan" "lines" "[I") (by decide +kernel)
  have fn_67 := va_Nw.use (A := args) rfl (hK.2.1 ("SameAgain$Plan", 67, "SameAgain$Procedure", "takenLines", "I", "SameAgain") (by decide +kernel))
  have f_22 := hts (.fieldLink RX4 22 "SameAgain$Plan" "bestSaved" "I") (by decide +kernel)
  have f_25 := hts (.fieldLink RX4 25 "SameAgain$Plan" "bestStart" "I") (by decide +kernel)
  have f_28 := hts (.fieldLink RX4 28 "SameAgain$Plan" "bestLength" "I") (by decide +kernel)
  refine lv_aload_n hx hb dX4_note_0 rfl (lv_at hl 0 rfl) ?_
  refine va_get (D := D) (ci := 4) (v := .ref o5) (C := RX4) (T := TX4) (N := 9) hx hb hts i_X4 hown hK.1 hP 0 rfl rfl 2 (by decide) f_39 (fun _ h9 => h9) rfl dX4_note_1 ?_
  refine va_getN (D := D) (ci := 5) (v := .int sv) (C := RX5) (T := TX5) (N := 9) hx hb hts i_X5 hown hK.1 hP 3 rfl rfl 8 (by decide) fn_64 (fun _ h9 => h9) rfl dX4_note_4 ?_
  refine lv_if_le (tgt := 22) hx hb dX4_note_7 (by decide) (fun c_7 => ?_) (fun c_7 => ?_)
  · rw [hQ]
    exact m_vwr hx hb hr hlocks (ct, sa, li, bs, bt, bl) (by rw [cdL_t c_7, List.append_nil]; exact hps) hP hS dX4_note_22
  · have hs9 := hsv c_7
    have hbs := hps.2.2.2.2.1
    have hw9 := (pos_cl c_7).1
    refine lv_aload_n hx hb dX4_note_10 rfl (lv_at hl 0 rfl) ?_
    refine va_get (D := D) (ci := 4) (v := .int (nI ct)) (C := RX4) (T := TX4) (N := 9) hx hb hts i_X4 hown hK.1 hP 0 rfl rfl 5 (by decide) f_18 (fun _ h9 => h9) rfl dX4_note_11 ?_
    refine lv_aload_n hx hb dX4_note_14 rfl (lv_at hl 0 rfl) ?_
    refine va_get (D := D) (ci := 4) (v := .ref s4) (C := RX4) (T := TX4) (N := 9) hx hb hts i_X4 hown hK.1 hP 0 rfl rfl 3 (by decide) f_9 (fun _ h9 => h9) rfl dX4_note_15 ?_
    refine m_alen hx hb hK hP 1 rfl dX4_note_18 ?_
    refine m_cmp_lt (tgt := 23) hx hb dX4_note_19 (by decide) (by omega) (by omega) (fun c_19 => ?_) (fun c_19 => absurd c_19 (by omega))
    refine lv_aload_n hx hb dX4_note_23 rfl (lv_at hl 0 rfl) ?_
    refine va_get (D := D) (ci := 4) (v := .ref s4) (C := RX4) (T := TX4) (N := 9) hx hb hts i_X4 hown hK.1 hP 0 rfl rfl 3 (by decide) f_9 (fun _ h9 => h9) rfl dX4_note_24 ?_
    refine lv_aload_n hx hb dX4_note_27 rfl (lv_at hl 0 rfl) ?_
    refine va_get (D := D) (ci := 4) (v := .int (nI ct)) (C := RX4) (T := TX4) (N := 9) hx hb hts i_X4 hown hK.1 hP 0 rfl rfl 5 (by decide) f_18 (fun _ h9 => h9) rfl dX4_note_28 ?_
    refine lv_aload_n hx hb dX4_note_31 rfl (lv_at hl 0 rfl) ?_
    refine va_get (D := D) (ci := 4) (v := .ref o5) (C := RX4) (T := TX4) (N := 9) hx hb hts i_X4 hown hK.1 hP 0 rfl rfl 2 (by decide) f_39 (fun _ h9 => h9) rfl dX4_note_32 ?_
    refine va_getN (D := D) (ci := 5) (v := .int sv) (C := RX5) (T := TX5) (N := 9) hx hb hts i_X5 hown hK.1 hP 3 rfl rfl 8 (by decide) fn_64 (fun _ h9 => h9) rfl dX4_note_35 ?_
    refine m_top (y := nI sv.toNatClampNeg) (pos_nI c_7) ?_
    refine m_ast hx hb hK hP hD hS 1 rfl (by decide) (by omega) dX4_note_38 (ws' := [(o4, .inr (4, [.ref oc, .ref o, .ref o5, .ref s4, .ref l4, .int (nI ct), .int (nI bs), .int (nI bt), .int (nI bl)])), (s4, aN cI 200 (upN sa ct sv.toNatClampNeg)), (l4, aN cI 200 li), (o5, .inr (5, [.ref oc, .ref o, .ref s5, .int (nI va), .int (nI tc), .int (nI ts), .int (nI tn), .int (nI td), .int sv]))]) rfl (fun H locs hP hD hS => ?_)
    refine lv_aload_n hx hb dX4_note_39 rfl (lv_at hl 0 rfl) ?_
    refine va_get (D := D) (ci := 4) (v := .ref l4) (C := RX4) (T := TX4) (N := 9) hx hb hts i_X4 hown hK.1 hP 0 rfl rfl 4 (by decide) f_15 (fun _ h9 => h9) rfl dX4_note_40 ?_
    refine lv_aload_n hx hb dX4_note_43 rfl (lv_at hl 0 rfl) ?_
    refine va_get (D := D) (ci := 4) (v := .int (nI ct)) (C := RX4) (T := TX4) (N := 9) hx hb hts i_X4 hown hK.1 hP 0 rfl rfl 5 (by decide) f_18 (fun _ h9 => h9) rfl dX4_note_44 ?_
    refine lv_aload_n hx hb dX4_note_47 rfl (lv_at hl 0 rfl) ?_
    refine va_get (D := D) (ci := 4) (v := .ref o5) (C := RX4) (T := TX4) (N := 9) hx hb hts i_X4 hown hK.1 hP 0 rfl rfl 2 (by decide) f_39 (fun _ h9 => h9) rfl dX4_note_48 ?_
    refine va_getN (D := D) (ci := 5) (v := .int (nI tn)) (C := RX5) (T := TX5) (N := 9) hx hb hts i_X5 hown hK.1 hP 3 rfl rfl 6 (by decide) fn_67 (fun _ h9 => h9) rfl dX4_note_51 ?_
    refine m_ast hx hb hK hP hD hS 2 rfl (by decide) (by omega) dX4_note_54 (ws' := [(o4, .inr (4, [.ref oc, .ref o, .ref o5, .ref s4, .ref l4, .int (nI ct), .int (nI bs), .int (nI bt), .int (nI bl)])), (s4, aN cI 200 (upN sa ct sv.toNatClampNeg)), (l4, aN cI 200 (upN li ct tn)), (o5, .inr (5, [.ref oc, .ref o, .ref s5, .int (nI va), .int (nI tc), .int (nI ts), .int (nI tn), .int (nI td), .int sv]))]) rfl (fun H locs hP hD hS => ?_)
    refine lv_aload_n hx hb dX4_note_55 rfl (lv_at hl 0 rfl) ?_
    refine lv_dup hx hb dX4_note_56 rfl ?_
    refine va_get (D := D) (ci := 4) (v := .int (nI ct)) (C := RX4) (T := TX4) (N := 9) hx hb hts i_X4 hown hK.1 hP 0 rfl rfl 5 (by decide) f_18 (fun _ h9 => h9) rfl dX4_note_57 ?_
    refine lv_iconst (v := nI 1) hx hb dX4_note_60 (by decide) ?_
    refine m_add hx hb dX4_note_61 ?_
    refine va_put (D := D) (ci := 4) (v := .int (nI (ct + 1))) (ty := .int) (C := RX4) (T := TX4) (N := 9) hx hb hts i_X4 tyX4 tyX4_ok nmX4 hown hK.1 hP hD hS 0 rfl rfl 5 (by decide) f_18 (fun _ h9 => h9) rfl (by decide +kernel) rfl rfl (Nat.le_of_ble_eq_true rfl) dX4_note_62 (fun H locs hP hD hS => ?_)
    have hP : va_P D vwCl [(o4, .inr (4, [.ref oc, .ref o, .ref o5, .ref s4, .ref l4, .int (nI (ct + 1)), .int (nI bs), .int (nI bt), .int (nI bl)])), (s4, aN cI 200 (upN sa ct sv.toNatClampNeg)), (l4, aN cI 200 (upN li ct tn)), (o5, .inr (5, [.ref oc, .ref o, .ref s5, .int (nI va), .int (nI tc), .int (nI ts), .int (nI tn), .int (nI td), .int sv]))] H := hP
    have hD : va_D A [(o4, .inr (4, [.ref oc, .ref o, .ref o5, .ref s4, .ref l4, .int (nI (ct + 1)), .int (nI bs), .int (nI bt), .int (nI bl)])), (s4, aN cI 200 (upN sa ct sv.toNatClampNeg)), (l4, aN cI 200 (upN li ct tn)), (o5, .inr (5, [.ref oc, .ref o, .ref s5, .int (nI va), .int (nI tc), .int (nI ts), .int (nI tn), .int (nI td), .int sv]))] := hD
    refine lv_aload_n hx hb dX4_note_65 rfl (lv_at hl 0 rfl) ?_
    refine va_get (D := D) (ci := 4) (v := .ref o5) (C := RX4) (T := TX4) (N := 9) hx hb hts i_X4 hown hK.1 hP 0 rfl rfl 2 (by decide) f_39 (fun _ h9 => h9) rfl dX4_note_66 ?_
    refine va_getN (D := D) (ci := 5) (v := .int sv) (C := RX5) (T := TX5) (N := 9) hx hb hts i_X5 hown hK.1 hP 3 rfl rfl 8 (by decide) fn_64 (fun _ h9 => h9) rfl dX4_note_69 ?_
    refine m_top (y := nI sv.toNatClampNeg) (pos_nI c_7) ?_
    refine lv_aload_n hx hb dX4_note_72 rfl (lv_at hl 0 rfl) ?_
    refine va_get (D := D) (ci := 4) (v := .int (nI bs)) (C := RX4) (T := TX4) (N := 9) hx hb hts i_X4 hown hK.1 hP 0 rfl rfl 6 (by decide) f_22 (fun _ h9 => h9) rfl dX4_note_73 ?_
    refine m_cmp_le (tgt := 100) hx hb dX4_note_76 (by decide) (by omega) (by omega) (fun c_76 => ?_) (fun c_76 => ?_)
    · rw [hQ]
      exact m_vwr hx hb hr hlocks (_, _, _, _, _, _) (by rw [cdL_f c_7]; exact (psOK_new hps hw9 hs9.1 htn).2 c_76) hP hS dX4_note_100
    · refine lv_aload_n hx hb dX4_note_79 rfl (lv_at hl 0 rfl) ?_
      refine lv_aload_n hx hb dX4_note_80 rfl (lv_at hl 0 rfl) ?_
      refine va_get (D := D) (ci := 4) (v := .ref o5) (C := RX4) (T := TX4) (N := 9) hx hb hts i_X4 hown hK.1 hP 0 rfl rfl 2 (by decide) f_39 (fun _ h9 => h9) rfl dX4_note_81 ?_
      refine va_getN (D := D) (ci := 5) (v := .int sv) (C := RX5) (T := TX5) (N := 9) hx hb hts i_X5 hown hK.1 hP 3 rfl rfl 8 (by decide) fn_64 (fun _ h9 => h9) rfl dX4_note_84 ?_
      refine m_top (y := nI sv.toNatClampNeg) (pos_nI c_7) ?_
      refine va_put (D := D) (ci := 4) (v := .int (nI sv.toNatClampNeg)) (ty := .int) (C := RX4) (T := TX4) (N := 9) hx hb hts i_X4 tyX4 tyX4_ok nmX4 hown hK.1 hP hD hS 0 rfl rfl 6 (by decide) f_22 (fun _ h9 => h9) rfl (by decide +kernel) rfl rfl (Nat.le_of_ble_eq_true rfl) dX4_note_87 (fun H locs hP hD hS => ?_)
      have hP : va_P D vwCl [(o4, .inr (4, [.ref oc, .ref o, .ref o5, .ref s4, .ref l4, .int (nI (ct + 1)), .int (nI sv.toNatClampNeg), .int (nI bt), .int (nI bl)])), (s4, aN cI 200 (upN sa ct sv.toNatClampNeg)), (l4, aN cI 200 (upN li ct tn)), (o5, .inr (5, [.ref oc, .ref o, .ref s5, .int (nI va), .int (nI tc), .int (nI ts), .int (nI tn), .int (nI td), .int sv]))] H := hP
      have hD : va_D A [(o4, .inr (4, [.ref oc, .ref o, .ref o5, .ref s4, .ref l4, .int (nI (ct + 1)), .int (nI sv.toNatClampNeg), .int (nI bt), .int (nI bl)])), (s4, aN cI 200 (upN sa ct sv.toNatClampNeg)), (l4, aN cI 200 (upN li ct tn)), (o5, .inr (5, [.ref oc, .ref o, .ref s5, .int (nI va), .int (nI tc), .int (nI ts), .int (nI tn), .int (nI td), .int sv]))] := hD
      refine lv_aload_n hx hb dX4_note_90 rfl (lv_at hl 0 rfl) ?_
      refine lv_iload_n hx hb dX4_note_91 rfl (lv_at hl 1 rfl) ?_
      refine va_put (D := D) (ci := 4) (v := .int (nI start)) (ty := .int) (C := RX4) (T := TX4) (N := 9) hx hb hts i_X4 tyX4 tyX4_ok nmX4 hown hK.1 hP hD hS 0 rfl rfl 7 (by decide) f_25 (fun _ h9 => h9) rfl (by decide +kernel) rfl rfl (Nat.le_of_ble_eq_true rfl) dX4_note_92 (fun H locs hP hD hS => ?_)
      have hP : va_P D vwCl [(o4, .inr (4, [.ref oc, .ref o, .ref o5, .ref s4, .ref l4, .int (nI (ct + 1)), .int (nI sv.toNatClampNeg), .int (nI start), .int (nI bl)])), (s4, aN cI 200 (upN sa ct sv.toNatClampNeg)), (l4, aN cI 200 (upN li ct tn)), (o5, .inr (5, [.ref oc, .ref o, .ref s5, .int (nI va), .int (nI tc), .int (nI ts), .int (nI tn), .int (nI td), .int sv]))] H := hP
      have hD : va_D A [(o4, .inr (4, [.ref oc, .ref o, .ref o5, .ref s4, .ref l4, .int (nI (ct + 1)), .int (nI sv.toNatClampNeg), .int (nI start), .int (nI bl)])), (s4, aN cI 200 (upN sa ct sv.toNatClampNeg)), (l4, aN cI 200 (upN li ct tn)), (o5, .inr (5, [.ref oc, .ref o, .ref s5, .int (nI va), .int (nI tc), .int (nI ts), .int (nI tn), .int (nI td), .int sv]))] := hD
      refine lv_aload_n hx hb dX4_note_95 rfl (lv_at hl 0 rfl) ?_
      refine lv_iload_n hx hb dX4_note_96 rfl (lv_at hl 2 rfl) ?_
      refine va_put (D := D) (ci := 4) (v := .int (nI n)) (ty := .int) (C := RX4) (T := TX4) (N := 9) hx hb hts i_X4 tyX4 tyX4_ok nmX4 hown hK.1 hP hD hS 0 rfl rfl 8 (by decide) f_28 (fun _ h9 => h9) rfl (by decide +kernel) rfl rfl (Nat.le_of_ble_eq_true rfl) dX4_note_97 (fun H locs hP hD hS => ?_)
      have hP : va_P D vwCl [(o4, .inr (4, [.ref oc, .ref o, .ref o5, .ref s4, .ref l4, .int (nI (ct + 1)), .int (nI sv.toNatClampNeg), .int (nI start), .int (nI n)])), (s4, aN cI 200 (upN sa ct sv.toNatClampNeg)), (l4, aN cI 200 (upN li ct tn)), (o5, .inr (5, [.ref oc, .ref o, .ref s5, .int (nI va), .int (nI tc), .int (nI ts), .int (nI tn), .int (nI td), .int sv]))] H := hP
      have hD : va_D A [(o4, .inr (4, [.ref oc, .ref o, .ref o5, .ref s4, .ref l4, .int (nI (ct + 1)), .int (nI sv.toNatClampNeg), .int (nI start), .int (nI n)])), (s4, aN cI 200 (upN sa ct sv.toNatClampNeg)), (l4, aN cI 200 (upN li ct tn)), (o5, .inr (5, [.ref oc, .ref o, .ref s5, .int (nI va), .int (nI tc), .int (nI ts), .int (nI tn), .int (nI td), .int sv]))] := hD
      rw [hQ]
      exact m_vwr hx hb hr hlocks (_, _, _, _, _, _) (by rw [cdL_f c_7]; exact (psOK_new hps hw9 hs9.1 htn).1 c_76) hP hS dX4_note_100

theorem prF_t {sa li : Nat → Nat} {i j : Nat} (h : li i &&& li j = 0) : prF sa li i j = sa i + sa j := if_pos h
theorem prF_f {sa li : Nat → Nat} {i j : Nat} (h : li i &&& li j ≠ 0) : prF sa li i j = 0 := if_neg h

theorem mx0 {f : Nat → Nat} : ∀ {n : Nat}, (∀ j, j < n → f j = 0) → mxI f n = 0
  | 0, _ => rfl
  | n + 1, h => by
    show max _ _ = 0
    rw [mx0 (fun j hj => h j (by omega)), h n (by omega)]
    rfl

theorem yd_X4_bestSumOfTwo : yX4_bestSumOfTwo.cls = RX4 ∧ yX4_bestSumOfTwo.cls ≠ "java/lang/invoke/MethodHandle" ∧ yX4_bestSumOfTwo.cls ≠ "java/lang/invoke/VarHandle" ∧ (parseMethodDescriptor yX4_bestSumOfTwo.desc).map (fun d => d.parameters.length) = some 0 := by decide +kernel
set_option maxHeartbeats 4000000 in
set_option maxRecDepth 100000 in
theorem k_X4_bestSumOfTwo (l : Launch) (D : va_G) (cI cZ : ClassId) (o4 oc o o5 s4 l4 ct bs bt bl : Nat) (sa li : Nat → Nat) (hct : ct ≤ 200) (hbs : bs ≤ 1000) (hsa : ∀ j, sa j ≤ 1000) (hli : ∀ j, li j < 2 ^ 20) : Met l yX4_bestSumOfTwo wsX4_bestSumOfTwo ({ frames := 1, cells := 0, slots := 0, locals := 21 }) (mPc [.ref o4] D cI cZ [(o4, .inr (4, [.ref oc, .ref o, .ref o5, .ref s4, .ref l4, .int (nI ct), .int (nI bs), .int (nI bt), .int (nI bl)])), (s4, aN cI 200 sa), (l4, aN cI 200 li)]) (QcRead (nI (max bs (mxI (fun i => mxI (fun j => if i < j then prF sa li i j else 0) ct) ct)))) 0 0 (fun _ => False) := by
  refine Met.ofW (cc := cX4_bestSumOfTwo) (maxL := 4) (ret := (some .int)) (by decide) rfl ?_
  intro p e s m args below meth c s₁ BB hml hv
  obtain ⟨hargs, hP, hD0, hK⟩ := hv
  have hx := BB.exec
  have hb := BB.bytes
  have hr := BB.returns
  have hts := atoms_spec (ws := wsX4_bestSumOfTwo) BB.pre
  have hown : s.vm.findClass RX4 = some m.cls := findClass_of_methodNamed BB.named
  have hlocks := BB.notSynchronized
  have hcf : CallFix p m c cX4_bestSumOfTwo 4 s args wsX4_bestSumOfTwo RX4 := ⟨hx, hb, hml, hown, hts⟩
  have hD := hD0
  rw [hargs, lg_entry_eq, ← hargs]
  have hl := lv_entry ([.ref o4]) (n := 4) (Nat.le_of_ble_eq_true rfl)
  generalize (lg_sl ([.ref o4]) ++ List.replicate (4 - (lg_sl ([.ref o4])).length) Slot.unset).toArray = ls at hl ⊢
  have hl : lv_has ls 4 [(0, .ref o4)] := hl
  obtain ⟨Q, hQ⟩ : ∃ Q, Q = MQ below (QcRead (nI (max bs (mxI (fun i => mxI (fun j => if i < j then prF sa li i j else 0) ct) ct)))) args s 0 0 (fun _ => False) := ⟨_, rfl⟩
  rw [← hQ]
  have i_X4 : ∀ w ∈ u_ws RX4 TX4 9, w ∈ wsX4_bestSumOfTwo := by decide +kernel
  have f_22 := hts (.fieldLink RX4 22 "SameAgain$Plan" "bestSaved" "I") (by decide +kernel)
  have f_18 := hts (.fieldLink RX4 18 "SameAgain$Plan" "count" "I") (by decide +kernel)
  have f_15 := hts (.fieldLink RX4 15 "SameAgain$Plan" "lines" "[I") (by decide +kernel)
  have f_9 := hts (.fieldLink RX4 9 "SameAgain$Plan" "saves" "[I") (by decide +kernel)
  have l_70 := hts (.methodLink RX4 70 Lib.Math.max.name) (by decide +kernel)
  have ls_max := hts (.static Lib.Math.max.name) (by decide +kernel)
  have l_math := hts (.initialized "java/lang/Math") (by decide +kernel)
  have lc_max := hts (.code Lib.Math.max.name Lib.Math.max.code 2 (some .int)) (by decide +kernel)
  refine lv_aload_n hx hb dX4_bestSumOfTwo_0 rfl (lv_at hl 0 rfl) ?_
  refine va_get (D := D) (ci := 4) (v := .int (nI bs)) (C := RX4) (T := TX4) (N := 9) hx hb hts i_X4 hown hK.1 hP 0 rfl rfl 6 (by decide) f_22 (fun _ h9 => h9) rfl dX4_bestSumOfTwo_1 ?_
  refine lv_istore_n (lv' := [(1, .int (nI bs)), (0, .ref o4)]) hx hb dX4_bestSumOfTwo_4 rfl hl (by decide) rfl (fun ls hl => ?_)
  refine lv_iconst (v := nI 0) hx hb dX4_bestSumOfTwo_5 (by decide) ?_
  refine lv_istore_n (lv' := [(2, .int (nI 0)), (1, .int (nI bs)), (0, .ref o4)]) hx hb dX4_bestSumOfTwo_6 rfl hl (by decide) rfl (fun ls hl => ?_)
  have loop_7 : ∀ (fu : Nat) (i x : Nat) (hfu : ct - i < fu)  (hi : i ≤ ct) (hxb : x ≤ 2000) (hx9 : x = max bs (mxI (fun i => mxI (fun j => if i < j then prF sa li i j else 0) ct) i)) (ls : Array Slot) (hl : lv_has ls 4 [(0, .ref o4), (1, .int (nI x)), (2, .int (nI i))]), W p l e (headSpec wsX4_bestSumOfTwo { frames := 1, cells := 0, slots := 0, locals := 21 }).room s m args below meth c s.heap [] 0 0 Q (F0 m 7 ls []) := by
    intro fu
    induction fu with
    | zero => intro i x hfu; exact absurd hfu (Nat.not_lt_zero _)
    | succ fu ih_7 =>
      intro i x hfu hi hxb hx9 ls hl
      refine lv_iload_n hx hb dX4_bestSumOfTwo_7 rfl (lv_at hl 2 rfl) ?_
      refine lv_aload_n hx hb dX4_bestSumOfTwo_8 rfl (lv_at hl 0 rfl) ?_
      refine va_get (D := D) (ci := 4) (v := .int (nI ct)) (C := RX4) (T := TX4) (N := 9) hx hb hts i_X4 hown hK.1 hP 0 rfl rfl 5 (by decide) f_18 (fun _ h9 => h9) rfl dX4_bestSumOfTwo_9 ?_
      refine m_cmp_ge (tgt := 73) hx hb dX4_bestSumOfTwo_12 (by decide) (by omega) (by omega) (fun c_12 => ?_) (fun c_12 => ?_)
      · refine lv_iload_n hx hb dX4_bestSumOfTwo_73 rfl (lv_at hl 1 rfl) ?_
        rw [hQ]
        have e9 : i = ct := by omega
        exact m_ird hx hb hr hlocks (by rw [hx9, e9]) dX4_bestSumOfTwo_74
      · refine lv_iload_n hx hb dX4_bestSumOfTwo_15 rfl (lv_at hl 2 rfl) ?_
        refine lv_iconst (v := nI 1) hx hb dX4_bestSumOfTwo_16 (by decide) ?_
        refine m_add hx hb dX4_bestSumOfTwo_17 ?_
        refine lv_istore_n (lv' := [(3, .int (nI (i + 1))), (0, .ref o4), (1, .int (nI x)), (2, .int (nI i))]) hx hb dX4_bestSumOfTwo_18 rfl hl (by decide) rfl (fun ls hl => ?_)
        have loop_19 : ∀ (fu : Nat) (j y : Nat) (hfu : ct - j < fu)  (hj : i + 1 ≤ j) (hj2 : j ≤ ct) (hyb : y ≤ 2000) (hy : y = max x (mxI (fun j => if i < j then prF sa li i j else 0) j)) (ls : Array Slot) (hl : lv_has ls 4 [(0, .ref o4), (1, .int (nI y)), (2, .int (nI i)), (3, .int (nI j))]), W p l e (headSpec wsX4_bestSumOfTwo { frames := 1, cells := 0, slots := 0, locals := 21 }).room s m args below meth c s.heap [] 0 0 Q (F0 m 19 ls []) := by
          intro fu
          induction fu with
          | zero => intro j y hfu; exact absurd hfu (Nat.not_lt_zero _)
          | succ fu ih_19 =>
            intro j y hfu hj hj2 hyb hy ls hl
            refine lv_iload_n hx hb dX4_bestSumOfTwo_19 rfl (lv_at hl 3 rfl) ?_
            refine lv_aload_n hx hb dX4_bestSumOfTwo_20 rfl (lv_at hl 0 rfl) ?_
            refine va_get (D := D) (ci := 4) (v := .int (nI ct)) (C := RX4) (T := TX4) (N := 9) hx hb hts i_X4 hown hK.1 hP 0 rfl rfl 5 (by decide) f_18 (fun _ h9 => h9) rfl dX4_bestSumOfTwo_21 ?_
            refine m_cmp_ge (tgt := 67) hx hb dX4_bestSumOfTwo_24 (by decide) (by omega) (by omega) (fun c_24 => ?_) (fun c_24 => ?_)
            · refine lv_iinc (v := nI (i + 1)) (lv' := [(2, .int (nI (i + 1))), (0, .ref o4), (1, .int (nI y)), (3, .int (nI j))]) hx hb dX4_bestSumOfTwo_67 hl (k := 2) rfl ((nI_succ _).symm) (by decide) rfl (fun ls hl => ?_)
              refine lv_goto (tgt := 7) hx hb dX4_bestSumOfTwo_70 (by decide) ?_
              exact ih_7 (i + 1) y (by omega) (by omega) hyb (by rw [hy, show j = ct by omega, hx9]; show max (max bs (mxI (fun i => mxI (fun j => if i < j then prF sa li i j else 0) ct) i)) (mxI (fun j => if i < j then prF sa li i j else 0) ct) = max bs (max (mxI (fun i => mxI (fun j => if i < j then prF sa li i j else 0) ct) i) (mxI (fun j => if i < j then prF sa li i j else 0) ct)); omega)  ls (lv_sub hl [1, 2, 0] rfl)
            · refine lv_aload_n hx hb dX4_bestSumOfTwo_27 rfl (lv_at hl 0 rfl) ?_
              refine va_get (D := D) (ci := 4) (v := .ref l4) (C := RX4) (T := TX4) (N := 9) hx hb hts i_X4 hown hK.1 hP 0 rfl rfl 4 (by decide) f_15 (fun _ h9 => h9) rfl dX4_bestSumOfTwo_28 ?_
              refine lv_iload_n hx hb dX4_bestSumOfTwo_31 rfl (lv_at hl 2 rfl) ?_
              refine m_ald hx hb hK hP 2 rfl (by decide) (by omega) dX4_bestSumOfTwo_32 ?_
              have hv_32 := hli i
              refine lv_aload_n hx hb dX4_bestSumOfTwo_33 rfl (lv_at hl 0 rfl) ?_
              refine va_get (D := D) (ci := 4) (v := .ref l4) (C := RX4) (T := TX4) (N := 9) hx hb hts i_X4 hown hK.1 hP 0 rfl rfl 4 (by decide) f_15 (fun _ h9 => h9) rfl dX4_bestSumOfTwo_34 ?_
              refine lv_iload_n hx hb dX4_bestSumOfTwo_37 rfl (lv_at hl 3 rfl) ?_
              refine m_ald hx hb hK hP 2 rfl (by decide) (by omega) dX4_bestSumOfTwo_38 ?_
              have hv_38 := hli j
              refine m_and hx hb dX4_bestSumOfTwo_39 ?_
              refine m_if_ne (tgt := 61) hx hb dX4_bestSumOfTwo_40 (by decide) (Nat.lt_of_le_of_lt Nat.and_le_left (Nat.lt_trans (hli _) (by decide))) (fun c_40 => ?_) (fun c_40 => ?_)
              · refine lv_iinc (v := nI (j + 1)) (lv' := [(3, .int (nI (j + 1))), (0, .ref o4), (1, .int (nI y)), (2, .int (nI i))]) hx hb dX4_bestSumOfTwo_61 hl (k := 3) rfl ((nI_succ _).symm) (by decide) rfl (fun ls hl => ?_)
                refine lv_goto (tgt := 19) hx hb dX4_bestSumOfTwo_64 (by decide) ?_
                exact ih_19 (j + 1) y (by omega) (by omega) (by omega) hyb (by rw [hy]; show _ = max _ (max _ (if i < j then prF sa li i j else 0)); rw [if_pos (by omega), prF_f c_40]; omega)  ls (lv_sub hl [1, 2, 3, 0] rfl)
              · refine lv_iload_n hx hb dX4_bestSumOfTwo_43 rfl (lv_at hl 1 rfl) ?_
                refine lv_aload_n hx hb dX4_bestSumOfTwo_44 rfl (lv_at hl 0 rfl) ?_
                refine va_get (D := D) (ci := 4) (v := .ref s4) (C := RX4) (T := TX4) (N := 9) hx hb hts i_X4 hown hK.1 hP 0 rfl rfl 3 (by decide) f_9 (fun _ h9 => h9) rfl dX4_bestSumOfTwo_45 ?_
                refine lv_iload_n hx hb dX4_bestSumOfTwo_48 rfl (lv_at hl 2 rfl) ?_
                refine m_ald hx hb hK hP 1 rfl (by decide) (by omega) dX4_bestSumOfTwo_49 ?_
                have hv_49 := hsa i
                refine lv_aload_n hx hb dX4_bestSumOfTwo_50 rfl (lv_at hl 0 rfl) ?_
                refine va_get (D := D) (ci := 4) (v := .ref s4) (C := RX4) (T := TX4) (N := 9) hx hb hts i_X4 hown hK.1 hP 0 rfl rfl 3 (by decide) f_9 (fun _ h9 => h9) rfl dX4_bestSumOfTwo_51 ?_
                refine lv_iload_n hx hb dX4_bestSumOfTwo_54 rfl (lv_at hl 3 rfl) ?_
                refine m_ald hx hb hK hP 1 rfl (by decide) (by omega) dX4_bestSumOfTwo_55 ?_
                have hv_55 := hsa j
                refine m_add hx hb dX4_bestSumOfTwo_56 ?_
                refine va_mmax hx hb (hml.trans hl.1.symm) hown l_70 ls_max l_math lc_max (Nat.le_of_ble_eq_true rfl) (Nat.le_of_ble_eq_true rfl) (Nat.zero_le _) (Nat.zero_le _) dX4_bestSumOfTwo_57 ?_
                refine m_top (y := nI (max y ((sa i) + (sa j)))) (m_maxE (by omega) (by have h7 := hsa i; have h8 := hsa j; omega)) ?_
                refine lv_istore_n (lv' := [(1, .int (nI (max y ((sa i) + (sa j))))), (0, .ref o4), (2, .int (nI i)), (3, .int (nI j))]) hx hb dX4_bestSumOfTwo_60 rfl hl (by decide) rfl (fun ls hl => ?_)
                refine lv_iinc (v := nI (j + 1)) (lv' := [(3, .int (nI (j + 1))), (1, .int (nI (max y ((sa i) + (sa j))))), (0, .ref o4), (2, .int (nI i))]) hx hb dX4_bestSumOfTwo_61 hl (k := 3) rfl ((nI_succ _).symm) (by decide) rfl (fun ls hl => ?_)
                refine lv_goto (tgt := 19) hx hb dX4_bestSumOfTwo_64 (by decide) ?_
                have h7 := hsa i
                have h8 := hsa j
                exact ih_19 (j + 1) _ (by omega) (by omega) (by omega) (by omega) (by rw [hy]; show _ = max _ (max _ (if i < j then prF sa li i j else 0)); rw [if_pos (by omega), prF_t c_40]; omega)  ls (lv_sub hl [2, 1, 3, 0] rfl)
        exact loop_19 (ct + 1) (i + 1) x (by omega) (by omega) (by omega) hxb (by rw [mx0 (fun q hq => if_neg (by omega))]; omega)  ls (lv_sub hl [1, 2, 3, 0] rfl)
  exact loop_7 (ct + 1) 0 bs (by omega) (by omega) (by omega) (Nat.max_eq_left (Nat.zero_le _)).symm  ls (lv_sub hl [2, 1, 0] rfl)

theorem ps_len {L : List (Nat × Nat × Nat × Nat)} {ct : Nat} {sa li : Nat → Nat} {bs bt bl : Nat} {sv : Int32} {tn start n ct2 : Nat} {sa2 li2 : Nat → Nat} {bs2 bt2 bl2 : Nat} (h : psOK L ct sa li bs bt bl) (h2 : psOK (L ++ cdL sv tn start n) ct2 sa2 li2 bs2 bt2 bl2) : ct2 = ct ∨ (ct2 = ct + 1 ∧ ¬ sv ≤ 0) := by
  by_cases q : sv ≤ 0
  · rw [cdL_t q, List.append_nil] at h2
    exact Or.inl (h2.1.trans h.1.symm)
  · rw [cdL_f q] at h2
    refine Or.inr ⟨?_, q⟩
    rw [h2.1, h.1, List.length_append]
    rfl

theorem yd_X4_lookAtAll : yX4_lookAtAll.cls = RX4 ∧ yX4_lookAtAll.cls ≠ "java/lang/invoke/MethodHandle" ∧ yX4_lookAtAll.cls ≠ "java/lang/invoke/VarHandle" ∧ (parseMethodDescriptor yX4_lookAtAll.desc).map (fun d => d.parameters.length) = some 1 := by decide +kernel
set_option maxHeartbeats 4000000 in
set_option maxRecDepth 100000 in
theorem k_X4_lookAtAll (l : Launch) (D : va_G) (cI cZ : ClassId) (o4 s4 l4 ct bs bt bl : Nat) (sa li : Nat → Nat) (o5 s5 va tc ts tn td : Nat) (sv : Int32) (st : Nat → Nat) (o q0 q1 ra oc a1 a2 ll lo lt n1 n2 nl nv : Nat) (pt rc z g : Nat → Nat) (v : Nat) (hnl : nl ≤ 20) (hnv : nv ≤ 4) (hz : ∀ j, z j ≤ 8) (hg : ∀ j, g j ≤ 126) (hrc : ∀ j, rc j ≤ 20) (hsa : ∀ j, sa j ≤ 1000) (hli : ∀ j, li j < 2 ^ 20) (hv : v < nv) (hgA : ∀ w n t, 1 ≤ n → (slN rc nl w n).testBit t = true → t + n ≤ nl) : Met l yX4_lookAtAll wsX4_lookAtAll ({ frames := 5, cells := 0, slots := 0, locals := 122 }) (mPc [.ref o4, .int (nI v)] D cI cZ [(o4, .inr (4, [.ref oc, .ref o, .ref o5, .ref s4, .ref l4, .int (nI ct), .int (nI bs), .int (nI bt), .int (nI bl)])), (s4, aN cI 200 sa), (l4, aN cI 200 li), (o5, .inr (5, [.ref oc, .ref o, .ref s5, .int (nI va), .int (nI tc), .int (nI ts), .int (nI tn), .int (nI td), .int sv])), (s5, aN cI 20 st), (o, .inr (2, [.ref oc, .ref q0, .ref ra, .int (nI ll), .int (nI lo), .int (nI lt)])), (q0, .inr (3, [.ref q1, .int (nI n1), .int (nI n2)])), (q1, aN cI 26 pt), (ra, aN cI 400 rc), (oc, .inr (0, [.ref a1, .ref a2, .int (nI nl), .int (nI nv)])), (a1, aN cI 640 g), (a2, aN cI 80 z)]) (mQv D (mA [(o4, .inr (4, [.ref oc, .ref o, .ref o5, .ref s4, .ref l4, .int (nI ct), .int (nI bs), .int (nI bt), .int (nI bl)])), (s4, aN cI 200 sa), (l4, aN cI 200 li), (o5, .inr (5, [.ref oc, .ref o, .ref s5, .int (nI va), .int (nI tc), .int (nI ts), .int (nI tn), .int (nI td), .int sv])), (s5, aN cI 20 st), (o, .inr (2, [.ref oc, .ref q0, .ref ra, .int (nI ll), .int (nI lo), .int (nI lt)])), (q0, .inr (3, [.ref q1, .int (nI n1), .int (nI n2)])), (q1, aN cI 26 pt), (ra, aN cI 400 rc), (oc, .inr (0, [.ref a1, .ref a2, .int (nI nl), .int (nI nv)])), (a1, aN cI 640 g), (a2, aN cI 80 z)]) (fun (u : Nat × (Nat → Nat) × (Nat → Nat) × Nat × Nat × Nat × Nat × Nat × Nat × Nat × Nat × Int32 × (Nat → Nat)) => psOK (allL (cvO z g v nl rc) nl nl) u.1 u.2.1 u.2.2.1 u.2.2.2.1 u.2.2.2.2.1 u.2.2.2.2.2.1 ∧ u.1 ≤ 200) (fun (u : Nat × (Nat → Nat) × (Nat → Nat) × Nat × Nat × Nat × Nat × Nat × Nat × Nat × Nat × Int32 × (Nat → Nat)) => [(o4, .inr (4, [.ref oc, .ref o, .ref o5, .ref s4, .ref l4, .int (nI u.1), .int (nI u.2.2.2.1), .int (nI u.2.2.2.2.1), .int (nI u.2.2.2.2.2.1)])), (s4, aN cI 200 u.2.1), (l4, aN cI 200 u.2.2.1), (o5, .inr (5, [.ref oc, .ref o, .ref s5, .int (nI u.2.2.2.2.2.2.1), .int (nI u.2.2.2.2.2.2.2.1), .int (nI u.2.2.2.2.2.2.2.2.1), .int (nI u.2.2.2.2.2.2.2.2.2.1), .int (nI u.2.2.2.2.2.2.2.2.2.2.1), .int u.2.2.2.2.2.2.2.2.2.2.2.1])), (s5, aN cI 20 u.2.2.2.2.2.2.2.2.2.2.2.2), (o, .inr (2, [.ref oc, .ref q0, .ref ra, .int (nI ll), .int (nI lo), .int (nI lt)])), (q0, .inr (3, [.ref q1, .int (nI n1), .int (nI n2)])), (q1, aN cI 26 pt), (ra, aN cI 400 rc), (oc, .inr (0, [.ref a1, .ref a2, .int (nI nl), .int (nI nv)])), (a1, aN cI 640 g), (a2, aN cI 80 z)])) 0 0 (mA [(o4, .inr (4, [.ref oc, .ref o, .ref o5, .ref s4, .ref l4, .int (nI ct), .int (nI bs), .int (nI bt), .int (nI bl)])), (s4, aN cI 200 sa), (l4, aN cI 200 li), (o5, .inr (5, [.ref oc, .ref o, .ref s5, .int (nI va), .int (nI tc), .int (nI ts), .int (nI tn), .int (nI td), .int sv])), (s5, aN cI 20 st), (o, .inr (2, [.ref oc, .ref q0, .ref ra, .int (nI ll), .int (nI lo), .int (nI lt)])), (q0, .inr (3, [.ref q1, .int (nI n1), .int (nI n2)])), (q1, aN cI 26 pt), (ra, aN cI 400 rc), (oc, .inr (0, [.ref a1, .ref a2, .int (nI nl), .int (nI nv)])), (a1, aN cI 640 g), (a2, aN cI 80 z)]) := by
  refine Met.ofW (cc := cX4_lookAtAll) (maxL := 4) (ret := none) (by decide) rfl ?_
  intro p e s m args below meth c s₁ BB hml hv
  obtain ⟨hargs, hP, hD0, hK⟩ := hv
  have hx := BB.exec
  have hb := BB.bytes
  have hr := BB.returns
  have hts := atoms_spec (ws := wsX4_lookAtAll) BB.pre
  have hown : s.vm.findClass RX4 = some m.cls := findClass_of_methodNamed BB.named
  have hlocks := BB.notSynchronized
  have hcf : CallFix p m c cX4_lookAtAll 4 s args wsX4_lookAtAll RX4 := ⟨hx, hb, hml, hown, hts⟩
  obtain ⟨A, hAe⟩ : ∃ A, A = mA [(o4, .inr (4, [.ref oc, .ref o, .ref o5, .ref s4, .ref l4, .int (nI ct), .int (nI bs), .int (nI bt), .int (nI bl)])), (s4, aN cI 200 sa), (l4, aN cI 200 li), (o5, .inr (5, [.ref oc, .ref o, .ref s5, .int (nI va), .int (nI tc), .int (nI ts), .int (nI tn), .int (nI td), .int sv])), (s5, aN cI 20 st), (o, .inr (2, [.ref oc, .ref q0, .ref ra, .int (nI ll), .int (nI lo), .int (nI lt)])), (q0, .inr (3, [.ref q1, .int (nI n1), .int (nI n2)])), (q1, aN cI 26 pt), (ra, aN cI 400 rc), (oc, .inr (0, [.ref a1, .ref a2, .int (nI nl), .int (nI nv)])), (a1, aN cI 640 g), (a2, aN cI 80 z)] := ⟨_, rfl⟩
  have hD : va_D A [(o4, .inr (4, [.ref oc, .ref o, .ref o5, .ref s4, .ref l4, .int (nI ct), .int (nI bs), .int (nI bt), .int (nI bl)])), (s4, aN cI 200 sa), (l4, aN cI 200 li), (o5, .inr (5, [.ref oc, .ref o, .ref s5, .int (nI va), .int (nI tc), .int (nI ts), .int (nI tn), .int (nI td), .int sv])), (s5, aN cI 20 st), (o, .inr (2, [.ref oc, .ref q0, .ref ra, .int (nI ll), .int (nI lo), .int (nI lt)])), (q0, .inr (3, [.ref q1, .int (nI n1), .int (nI n2)])), (q1, aN cI 26 pt), (ra, aN cI 400 rc), (oc, .inr (0, [.ref a1, .ref a2, .int (nI nl), .int (nI nv)])), (a1, aN cI 640 g), (a2, aN cI 80 z)] := ⟨hD0.1, fun k q h => by rw [hAe]; exact ⟨k, q.2, h⟩⟩
  have hS : va_S A s.heap s.heap [] := va_S.rf
  rw [← hAe]
  rw [hargs, lg_entry_eq, ← hargs]
  have hl := lv_entry ([.ref o4, .int (nI v)]) (n := 4) (Nat.le_of_ble_eq_true rfl)
  generalize (lg_sl ([.ref o4, .int (nI v)]) ++ List.replicate (4 - (lg_sl ([.ref o4, .int (nI v)])).length) Slot.unset).toArray = ls at hl ⊢
  have hl : lv_has ls 4 [(0, .ref o4), (1, .int (nI v))] := hl
  obtain ⟨Q, hQ⟩ : ∃ Q, Q = MQ below (mQv D A (fun (u : Nat × (Nat → Nat) × (Nat → Nat) × Nat × Nat × Nat × Nat × Nat × Nat × Nat × Nat × Int32 × (Nat → Nat)) => psOK (allL (cvO z g v nl rc) nl nl) u.1 u.2.1 u.2.2.1 u.2.2.2.1 u.2.2.2.2.1 u.2.2.2.2.2.1 ∧ u.1 ≤ 200) (fun (u : Nat × (Nat → Nat) × (Nat → Nat) × Nat × Nat × Nat × Nat × Nat × Nat × Nat × Nat × Int32 × (Nat → Nat)) => [(o4, .inr (4, [.ref oc, .ref o, .ref o5, .ref s4, .ref l4, .int (nI u.1), .int (nI u.2.2.2.1), .int (nI u.2.2.2.2.1), .int (nI u.2.2.2.2.2.1)])), (s4, aN cI 200 u.2.1), (l4, aN cI 200 u.2.2.1), (o5, .inr (5, [.ref oc, .ref o, .ref s5, .int (nI u.2.2.2.2.2.2.1), .int (nI u.2.2.2.2.2.2.2.1), .int (nI u.2.2.2.2.2.2.2.2.1), .int (nI u.2.2.2.2.2.2.2.2.2.1), .int (nI u.2.2.2.2.2.2.2.2.2.2.1), .int u.2.2.2.2.2.2.2.2.2.2.2.1])), (s5, aN cI 20 u.2.2.2.2.2.2.2.2.2.2.2.2), (o, .inr (2, [.ref oc, .ref q0, .ref ra, .int (nI ll), .int (nI lo), .int (nI lt)])), (q0, .inr (3, [.ref q1, .int (nI n1), .int (nI n2)])), (q1, aN cI 26 pt), (ra, aN cI 400 rc), (oc, .inr (0, [.ref a1, .ref a2, .int (nI nl), .int (nI nv)])), (a1, aN cI 640 g), (a2, aN cI 80 z)])) args s 0 0 A := ⟨_, rfl⟩
  rw [← hQ]
  have i_X4 : ∀ w ∈ u_ws RX4 TX4 9, w ∈ wsX4_lookAtAll := by decide +kernel
  have f_18 := hts (.fieldLink RX4 18 "SameAgain$Plan" "count" "I") (by decide +kernel)
  have f_22 := hts (.fieldLink RX4 22 "SameAgain$Plan" "bestSaved" "I") (by decide +kernel)
  have f_31 := hts (.fieldLink RX4 31 "SameAgain$Plan" "code" "LSameAgain$Code;") (by decide +kernel)
  have f_35 := hts (.fieldLink RX4 35 "SameAgain$Plan" "likeness" "LSameAgain$Likeness;") (by decide +kernel)
  have f_39 := hts (.fieldLink RX4 39 "SameAgain$Plan" "procedure" "LSameAgain$Procedure;") (by decide +kernel)
  refine lv_aload_n hx hb dX4_lookAtAll_0 rfl (lv_at hl 0 rfl) ?_
  refine lv_iconst (v := nI 0) hx hb dX4_lookAtAll_1 (by decide) ?_
  refine va_put (D := D) (ci := 4) (v := .int (nI 0)) (ty := .int) (C := RX4) (T := TX4) (N := 9) hx hb hts i_X4 tyX4 tyX4_ok nmX4 hown hK.1 hP hD hS 0 rfl rfl 5 (by decide) f_18 (fun _ h9 => h9) rfl (by decide +kernel) rfl rfl (Nat.le_of_ble_eq_true rfl) dX4_lookAtAll_2 (fun H locs hP hD hS => ?_)
  have hP : va_P D vwCl [(o4, .inr (4, [.ref oc, .ref o, .ref o5, .ref s4, .ref l4, .int (nI 0), .int (nI bs), .int (nI bt), .int (nI bl)])), (s4, aN cI 200 sa), (l4, aN cI 200 li), (o5, .inr (5, [.ref oc, .ref o, .ref s5, .int (nI va), .int (nI tc), .int (nI ts), .int (nI tn), .int (nI td), .int sv])), (s5, aN cI 20 st), (o, .inr (2, [.ref oc, .ref q0, .ref ra, .int (nI ll), .int (nI lo), .int (nI lt)])), (q0, .inr (3, [.ref q1, .int (nI n1), .int (nI n2)])), (q1, aN cI 26 pt), (ra, aN cI 400 rc), (oc, .inr (0, [.ref a1, .ref a2, .int (nI nl), .int (nI nv)])), (a1, aN cI 640 g), (a2, aN cI 80 z)] H := hP
  have hD : va_D A [(o4, .inr (4, [.ref oc, .ref o, .ref o5, .ref s4, .ref l4, .int (nI 0), .int (nI bs), .int (nI bt), .int (nI bl)])), (s4, aN cI 200 sa), (l4, aN cI 200 li), (o5, .inr (5, [.ref oc, .ref o, .ref s5, .int (nI va), .int (nI tc), .int (nI ts), .int (nI tn), .int (nI td), .int sv])), (s5, aN cI 20 st), (o, .inr (2, [.ref oc, .ref q0, .ref ra, .int (nI ll), .int (nI lo), .int (nI lt)])), (q0, .inr (3, [.ref q1, .int (nI n1), .int (nI n2)])), (q1, aN cI 26 pt), (ra, aN cI 400 rc), (oc, .inr (0, [.ref a1, .ref a2, .int (nI nl), .int (nI nv)])), (a1, aN cI 640 g), (a2, aN cI 80 z)] := hD
  refine lv_aload_n hx hb dX4_lookAtAll_5 rfl (lv_at hl 0 rfl) ?_
  refine lv_iconst (v := nI 0) hx hb dX4_lookAtAll_6 (by decide) ?_
  refine va_put (D := D) (ci := 4) (v := .int (nI 0)) (ty := .int) (C := RX4) (T := TX4) (N := 9) hx hb hts i_X4 tyX4 tyX4_ok nmX4 hown hK.1 hP hD hS 0 rfl rfl 6 (by decide) f_22 (fun _ h9 => h9) rfl (by decide +kernel) rfl rfl (Nat.le_of_ble_eq_true rfl) dX4_lookAtAll_7 (fun H locs hP hD hS => ?_)
  have hP : va_P D vwCl [(o4, .inr (4, [.ref oc, .ref o, .ref o5, .ref s4, .ref l4, .int (nI 0), .int (nI 0), .int (nI bt), .int (nI bl)])), (s4, aN cI 200 sa), (l4, aN cI 200 li), (o5, .inr (5, [.ref oc, .ref o, .ref s5, .int (nI va), .int (nI tc), .int (nI ts), .int (nI tn), .int (nI td), .int sv])), (s5, aN cI 20 st), (o, .inr (2, [.ref oc, .ref q0, .ref ra, .int (nI ll), .int (nI lo), .int (nI lt)])), (q0, .inr (3, [.ref q1, .int (nI n1), .int (nI n2)])), (q1, aN cI 26 pt), (ra, aN cI 400 rc), (oc, .inr (0, [.ref a1, .ref a2, .int (nI nl), .int (nI nv)])), (a1, aN cI 640 g), (a2, aN cI 80 z)] H := hP
  have hD : va_D A [(o4, .inr (4, [.ref oc, .ref o, .ref o5, .ref s4, .ref l4, .int (nI 0), .int (nI 0), .int (nI bt), .int (nI bl)])), (s4, aN cI 200 sa), (l4, aN cI 200 li), (o5, .inr (5, [.ref oc, .ref o, .ref s5, .int (nI va), .int (nI tc), .int (nI ts), .int (nI tn), .int (nI td), .int sv])), (s5, aN cI 20 st), (o, .inr (2, [.ref oc, .ref q0, .ref ra, .int (nI ll), .int (nI lo), .int (nI lt)])), (q0, .inr (3, [.ref q1, .int (nI n1), .int (nI n2)])), (q1, aN cI 26 pt), (ra, aN cI 400 rc), (oc, .inr (0, [.ref a1, .ref a2, .int (nI nl), .int (nI nv)])), (a1, aN cI 640 g), (a2, aN cI 80 z)] := hD
  refine lv_iconst (v := nI 1) hx hb dX4_lookAtAll_10 (by decide) ?_
  refine lv_istore_n (lv' := [(2, .int (nI 1)), (0, .ref o4), (1, .int (nI v))]) hx hb dX4_lookAtAll_11 rfl hl (by decide) rfl (fun ls hl => ?_)
  have loop_12 : ∀ (fu : Nat) (q : Nat) (xct xbs xbt xbl : Nat) (xsa xli : Nat → Nat) (xva xtc xts xtn xtd : Nat) (xsv : Int32) (xst : Nat → Nat) (hfu : nl + 1 - (q + 1) < fu)  (hq : q ≤ nl) (hxc2 : xct ≤ 200) (hxc1 : q + 1 ≤ 10 → xct ≤ 20 * q) (hxp : psOK (allL (cvO z g v nl rc) nl q) xct xsa xli xbs xbt xbl) (H : Heap) (locs : List Loc) (hP : va_P D vwCl [(o4, .inr (4, [.ref oc, .ref o, .ref o5, .ref s4, .ref l4, .int (nI xct), .int (nI xbs), .int (nI xbt), .int (nI xbl)])), (s4, aN cI 200 xsa), (l4, aN cI 200 xli), (o5, .inr (5, [.ref oc, .ref o, .ref s5, .int (nI xva), .int (nI xtc), .int (nI xts), .int (nI xtn), .int (nI xtd), .int xsv])), (s5, aN cI 20 xst), (o, .inr (2, [.ref oc, .ref q0, .ref ra, .int (nI ll), .int (nI lo), .int (nI lt)])), (q0, .inr (3, [.ref q1, .int (nI n1), .int (nI n2)])), (q1, aN cI 26 pt), (ra, aN cI 400 rc), (oc, .inr (0, [.ref a1, .ref a2, .int (nI nl), .int (nI nv)])), (a1, aN cI 640 g), (a2, aN cI 80 z)] H) (hD : va_D A [(o4, .inr (4, [.ref oc, .ref o, .ref o5, .ref s4, .ref l4, .int (nI xct), .int (nI xbs), .int (nI xbt), .int (nI xbl)])), (s4, aN cI 200 xsa), (l4, aN cI 200 xli), (o5, .inr (5, [.ref oc, .ref o, .ref s5, .int (nI xva), .int (nI xtc), .int (nI xts), .int (nI xtn), .int (nI xtd), .int xsv])), (s5, aN cI 20 xst), (o, .inr (2, [.ref oc, .ref q0, .ref ra, .int (nI ll), .int (nI lo), .int (nI lt)])), (q0, .inr (3, [.ref q1, .int (nI n1), .int (nI n2)])), (q1, aN cI 26 pt), (ra, aN cI 400 rc), (oc, .inr (0, [.ref a1, .ref a2, .int (nI nl), .int (nI nv)])), (a1, aN cI 640 g), (a2, aN cI 80 z)]) (hS : va_S A s.heap H locs) (ls : Array Slot) (hl : lv_has ls 4 [(0, .ref o4), (1, .int (nI v)), (2, .int (nI (q + 1)))]), W p l e (headSpec wsX4_lookAtAll { frames := 5, cells := 0, slots := 0, locals := 122 }).room s m args below meth c H locs 0 0 Q (F0 m 12 ls []) := by
    intro fu
    induction fu with
    | zero => intro q xct xbs xbt xbl xsa xli xva xtc xts xtn xtd xsv xst hfu; exact absurd hfu (Nat.not_lt_zero _)
    | succ fu ih_12 =>
      intro q xct xbs xbt xbl xsa xli xva xtc xts xtn xtd xsv xst hfu hq hxc2 hxc1 hxp H locs hP hD hS ls hl
      refine lv_iload_n hx hb dX4_lookAtAll_12 rfl (lv_at hl 2 rfl) ?_
      refine lv_aload_n hx hb dX4_lookAtAll_13 rfl (lv_at hl 0 rfl) ?_
      refine va_get (D := D) (ci := 4) (v := .ref oc) (C := RX4) (T := TX4) (N := 9) hx hb hts i_X4 hown hK.1 hP 0 rfl rfl 0 (by decide) f_31 (fun _ h9 => h9) rfl dX4_lookAtAll_14 ?_
      refine m_rdV (As := []) (rest := [.int (nI (q + 1))]) (wc := [(oc, .inr (0, [.ref a1, .ref a2, .int (nI nl), .int (nI nv)])), (a1, aN cI 640 g), (a2, aN cI 80 z)]) hcf (k_X0_lines (l := l) (D := D) (cI := cI) (cZ := cZ) (o := oc) (a1 := a1) (a2 := a2) (nl := nl) (nv := nv) (g := g) (z := z) ) (cwV 0 hts gX4_lookAtAll_X0_lines rfl rfl rfl yd_X0_lines ⟨Nat.le_of_ble_eq_true rfl, Nat.le_of_ble_eq_true rfl⟩) (m_preV hK hP hD [9, 10, 11] (by decide) rfl rfl rfl) rfl hl.1 rfl (Nat.le_of_ble_eq_true rfl) dX4_lookAtAll_17 ⟨Nat.zero_le _, Nat.zero_le _⟩ ?_
      refine m_cmp_gt (tgt := 78) hx hb dX4_lookAtAll_20 (by decide) (by omega) (by omega) (fun c_20 => ?_) (fun c_20 => ?_)
      · rw [hQ]
        have e9 : q = nl := by omega
        exact m_vwr hx hb hr hlocks (xct, xsa, xli, xbs, xbt, xbl, xva, xtc, xts, xtn, xtd, xsv, xst) (⟨by rw [e9] at hxp; exact hxp, hxc2⟩) hP hS dX4_lookAtAll_78
      · refine lv_iconst (v := nI 0) hx hb dX4_lookAtAll_23 (by decide) ?_
        refine lv_istore_n (lv' := [(3, .int (nI 0)), (0, .ref o4), (1, .int (nI v)), (2, .int (nI (q + 1)))]) hx hb dX4_lookAtAll_24 rfl hl (by decide) rfl (fun ls hl => ?_)
        have loop_25 : ∀ (fu : Nat) (w : Nat) (yct ybs ybt ybl : Nat) (ysa yli : Nat → Nat) (yva ytc yts ytn ytd : Nat) (ysv : Int32) (yst : Nat → Nat) (hfu : nl + 1 - (w + (q + 1)) < fu)  (hw : w + q ≤ nl) (hyc2 : yct ≤ 200) (hyc1 : q + 1 ≤ 10 → yct ≤ 20 * q + w) (hyp : psOK (allL (cvO z g v nl rc) nl q ++ rowL (cvO z g v nl rc (q + 1)) w) yct ysa yli ybs ybt ybl) (H : Heap) (locs : List Loc) (hP : va_P D vwCl [(o4, .inr (4, [.ref oc, .ref o, .ref o5, .ref s4, .ref l4, .int (nI yct), .int (nI ybs), .int (nI ybt), .int (nI ybl)])), (s4, aN cI 200 ysa), (l4, aN cI 200 yli), (o5, .inr (5, [.ref oc, .ref o, .ref s5, .int (nI yva), .int (nI ytc), .int (nI yts), .int (nI ytn), .int (nI ytd), .int ysv])), (s5, aN cI 20 yst), (o, .inr (2, [.ref oc, .ref q0, .ref ra, .int (nI ll), .int (nI lo), .int (nI lt)])), (q0, .inr (3, [.ref q1, .int (nI n1), .int (nI n2)])), (q1, aN cI 26 pt), (ra, aN cI 400 rc), (oc, .inr (0, [.ref a1, .ref a2, .int (nI nl), .int (nI nv)])), (a1, aN cI 640 g), (a2, aN cI 80 z)] H) (hD : va_D A [(o4, .inr (4, [.ref oc, .ref o, .ref o5, .ref s4, .ref l4, .int (nI yct), .int (nI ybs), .int (nI ybt), .int (nI ybl)])), (s4, aN cI 200 ysa), (l4, aN cI 200 yli), (o5, .inr (5, [.ref oc, .ref o, .ref s5, .int (nI yva), .int (nI ytc), .int (nI yts), .int (nI ytn), .int (nI ytd), .int ysv])), (s5, aN cI 20 yst), (o, .inr (2, [.ref oc, .ref q0, .ref ra, .int (nI ll), .int (nI lo), .int (nI lt)])), (q0, .inr (3, [.ref q1, .int (nI n1), .int (nI n2)])), (q1, aN cI 26 pt), (ra, aN cI 400 rc), (oc, .inr (0, [.ref a1, .ref a2, .int (nI nl), .int (nI nv)])), (a1, aN cI 640 g), (a2, aN cI 80 z)]) (hS : va_S A s.heap H locs) (ls : Array Slot) (hl : lv_has ls 4 [(0, .ref o4), (1, .int (nI v)), (2, .int (nI (q + 1))), (3, .int (nI w))]), W p l e (headSpec wsX4_lookAtAll { frames := 5, cells := 0, slots := 0, locals := 122 }).room s m args below meth c H locs 0 0 Q (F0 m 25 ls []) := by
          intro fu
          induction fu with
          | zero => intro w yct ybs ybt ybl ysa yli yva ytc yts ytn ytd ysv yst hfu; exact absurd hfu (Nat.not_lt_zero _)
          | succ fu ih_25 =>
            intro w yct ybs ybt ybl ysa yli yva ytc yts ytn ytd ysv yst hfu hw hyc2 hyc1 hyp H locs hP hD hS ls hl
            refine lv_iload_n hx hb dX4_lookAtAll_25 rfl (lv_at hl 3 rfl) ?_
            refine lv_iload_n hx hb dX4_lookAtAll_26 rfl (lv_at hl 2 rfl) ?_
            refine m_add hx hb dX4_lookAtAll_27 ?_
            refine lv_aload_n hx hb dX4_lookAtAll_28 rfl (lv_at hl 0 rfl) ?_
            refine va_get (D := D) (ci := 4) (v := .ref oc) (C := RX4) (T := TX4) (N := 9) hx hb hts i_X4 hown hK.1 hP 0 rfl rfl 0 (by decide) f_31 (fun _ h9 => h9) rfl dX4_lookAtAll_29 ?_
            refine m_rdV (As := []) (rest := [.int (nI (w + (q + 1)))]) (wc := [(oc, .inr (0, [.ref a1, .ref a2, .int (nI nl), .int (nI nv)])), (a1, aN cI 640 g), (a2, aN cI 80 z)]) hcf (k_X0_lines (l := l) (D := D) (cI := cI) (cZ := cZ) (o := oc) (a1 := a1) (a2 := a2) (nl := nl) (nv := nv) (g := g) (z := z) ) (cwV 0 hts gX4_lookAtAll_X0_lines rfl rfl rfl yd_X0_lines ⟨Nat.le_of_ble_eq_true rfl, Nat.le_of_ble_eq_true rfl⟩) (m_preV hK hP hD [9, 10, 11] (by decide) rfl rfl rfl) rfl hl.1 rfl (Nat.le_of_ble_eq_true rfl) dX4_lookAtAll_32 ⟨Nat.zero_le _, Nat.zero_le _⟩ ?_
            refine m_cmp_gt (tgt := 72) hx hb dX4_lookAtAll_35 (by decide) (by omega) (by omega) (fun c_35 => ?_) (fun c_35 => ?_)
            · refine lv_iinc (v := nI (q + 1 + 1)) (lv' := [(2, .int (nI (q + 1 + 1))), (0, .ref o4), (1, .int (nI v)), (3, .int (nI w))]) hx hb dX4_lookAtAll_72 hl (k := 2) rfl ((nI_succ _).symm) (by decide) rfl (fun ls hl => ?_)
              refine lv_goto (tgt := 12) hx hb dX4_lookAtAll_75 (by decide) ?_
              have e9 : w = nl - q := by omega
              exact ih_12 (q + 1) yct ybs ybt ybl ysa yli yva ytc yts ytn ytd ysv yst (by omega) (by omega) hyc2 (fun h9 => by have := hyc1 (by omega); omega) (by rw [e9] at hyp; exact hyp) _ _ hP hD hS ls (lv_sub hl [1, 2, 0] rfl)
            · refine lv_aload_n hx hb dX4_lookAtAll_38 rfl (lv_at hl 0 rfl) ?_
              refine va_get (D := D) (ci := 4) (v := .ref o) (C := RX4) (T := TX4) (N := 9) hx hb hts i_X4 hown hK.1 hP 0 rfl rfl 1 (by decide) f_35 (fun _ h9 => h9) rfl dX4_lookAtAll_39 ?_
              refine lv_iload_n hx hb dX4_lookAtAll_42 rfl (lv_at hl 3 rfl) ?_
              refine lv_iload_n hx hb dX4_lookAtAll_43 rfl (lv_at hl 2 rfl) ?_
              refine m_rdV (As := [.int (nI w), .int (nI (q + 1))]) (rest := []) (wc := [(o, .inr (2, [.ref oc, .ref q0, .ref ra, .int (nI ll), .int (nI lo), .int (nI lt)])), (q0, .inr (3, [.ref q1, .int (nI n1), .int (nI n2)])), (q1, aN cI 26 pt), (ra, aN cI 400 rc), (oc, .inr (0, [.ref a1, .ref a2, .int (nI nl), .int (nI nv)])), (a1, aN cI 640 g), (a2, aN cI 80 z)]) hcf (k_X2_isLeastOfGroup (l := l) (D := D) (cI := cI) (cZ := cZ) (start := w) (n := q + 1) (o := o) (oc := oc) (q0 := q0) (ra := ra) (ll := ll) (lo := lo) (lt := lt) (q1 := q1) (n1 := n1) (n2 := n2) (pt := pt) (rc := rc) (a1 := a1) (a2 := a2) (nl := nl) (nv := nv) (g := g) (z := z) (hnl := hnl) (hnv := hnv) (hrc := hrc) (h1 := by omega) (hn := by omega)) (cwV 2 hts gX4_lookAtAll_X2_isLeastOfGroup rfl rfl rfl yd_X2_isLeastOfGroup ⟨Nat.le_of_ble_eq_true rfl, Nat.le_of_ble_eq_true rfl⟩) (m_preV hK hP hD [5, 6, 7, 8, 9, 10, 11] (by decide) rfl rfl rfl) rfl hl.1 rfl (Nat.le_of_ble_eq_true rfl) dX4_lookAtAll_44 ⟨Nat.zero_le _, Nat.zero_le _⟩ ?_
              refine m_ifB_eq (tgt := 66) hx hb dX4_lookAtAll_47 (by decide) (fun c_47 => ?_) (fun c_47 => ?_)
              · refine lv_iinc (v := nI (w + 1)) (lv' := [(3, .int (nI (w + 1))), (0, .ref o4), (1, .int (nI v)), (2, .int (nI (q + 1)))]) hx hb dX4_lookAtAll_66 hl (k := 3) rfl ((nI_succ _).symm) (by decide) rfl (fun ls hl => ?_)
                refine lv_goto (tgt := 25) hx hb dX4_lookAtAll_69 (by decide) ?_
                have X9 : cvO z g v nl rc (q + 1) w = [] := if_neg (by rw [c_47]; decide)
                exact ih_25 (w + 1) yct ybs ybt ybl ysa yli yva ytc yts ytn ytd ysv yst (by omega) (by omega) hyc2 (fun h9 => by have := hyc1 h9; omega) (by show psOK (_ ++ (_ ++ _)) _ _ _ _ _ _; rw [X9, List.append_nil]; exact hyp) _ _ hP hD hS ls (lv_sub hl [1, 2, 3, 0] rfl)
              · refine lv_aload_n hx hb dX4_lookAtAll_50 rfl (lv_at hl 0 rfl) ?_
                refine va_get (D := D) (ci := 4) (v := .ref o5) (C := RX4) (T := TX4) (N := 9) hx hb hts i_X4 hown hK.1 hP 0 rfl rfl 2 (by decide) f_39 (fun _ h9 => h9) rfl dX4_lookAtAll_51 ?_
                refine lv_iload_n hx hb dX4_lookAtAll_54 rfl (lv_at hl 1 rfl) ?_
                refine lv_iload_n hx hb dX4_lookAtAll_55 rfl (lv_at hl 3 rfl) ?_
                refine lv_iload_n hx hb dX4_lookAtAll_56 rfl (lv_at hl 2 rfl) ?_
                refine m_wvV (As := [.int (nI v), .int (nI w), .int (nI (q + 1))]) (rest := []) (wc := [(o5, .inr (5, [.ref oc, .ref o, .ref s5, .int (nI yva), .int (nI ytc), .int (nI yts), .int (nI ytn), .int (nI ytd), .int ysv])), (s5, aN cI 20 yst), (o, .inr (2, [.ref oc, .ref q0, .ref ra, .int (nI ll), .int (nI lo), .int (nI lt)])), (q0, .inr (3, [.ref q1, .int (nI n1), .int (nI n2)])), (q1, aN cI 26 pt), (ra, aN cI 400 rc), (oc, .inr (0, [.ref a1, .ref a2, .int (nI nl), .int (nI nv)])), (a1, aN cI 640 g), (a2, aN cI 80 z)]) hcf (k_X5_pullOut (l := l) (D := D) (cI := cI) (cZ := cZ) (v := v) (start := w) (n := q + 1) (o5 := o5) (oc := oc) (o := o) (s5 := s5) (va := yva) (tc := ytc) (ts := yts) (tn := ytn) (td := ytd) (sv := ysv) (st := yst) (q0 := q0) (ra := ra) (ll := ll) (lo := lo) (lt := lt) (q1 := q1) (n1 := n1) (n2 := n2) (pt := pt) (rc := rc) (a1 := a1) (a2 := a2) (nl := nl) (nv := nv) (g := g) (z := z) (hnl := hnl) (hnv := hnv) (hz := hz) (hg := hg) (hrc := hrc) (hv := hv) (h1 := by omega) (hn1 := by omega) (hn := by omega) (hgp := fun t h => hgA _ _ t (by omega) h)) (cwV 3 hts gX4_lookAtAll_X5_pullOut rfl rfl rfl yd_X5_pullOut ⟨Nat.le_of_ble_eq_true rfl, Nat.le_of_ble_eq_true rfl⟩) hK hP hD hS [3, 4, 5, 6, 7, 8, 9, 10, 11] (by decide) rfl rfl rfl rfl hl.1 rfl (Nat.le_of_ble_eq_true rfl) dX4_lookAtAll_57 ⟨Nat.zero_le _, Nat.zero_le _⟩ (fun _ => rfl) (fun (u : (Nat → Nat)) => [(o4, .inr (4, [.ref oc, .ref o, .ref o5, .ref s4, .ref l4, .int (nI yct), .int (nI ybs), .int (nI ybt), .int (nI ybl)])), (s4, aN cI 200 ysa), (l4, aN cI 200 yli), (o5, .inr (5, [.ref oc, .ref o, .ref s5, .int (nI v), .int (nI ((tkF (slN rc nl w (q + 1)) (q + 1) 20).2.2.2)), .int (nI ((tkF (slN rc nl w (q + 1)) (q + 1) 20).1)), .int (nI ((tkF (slN rc nl w (q + 1)) (q + 1) 20).2.2.1)), .int (nI (toN z g v nl rc w (q + 1))), .int (svI (tkF (slN rc nl w (q + 1)) (q + 1) 20).2.2.2 (q + 1) (toN z g v nl rc w (q + 1)))])), (s5, aN cI 20 u), (o, .inr (2, [.ref oc, .ref q0, .ref ra, .int (nI ll), .int (nI lo), .int (nI lt)])), (q0, .inr (3, [.ref q1, .int (nI n1), .int (nI n2)])), (q1, aN cI 26 pt), (ra, aN cI 400 rc), (oc, .inr (0, [.ref a1, .ref a2, .int (nI nl), .int (nI nv)])), (a1, aN cI 640 g), (a2, aN cI 80 z)]) (fun _ => rfl) (fun u H locs hp_57 hP hD hS => ?_)
                obtain ⟨stu_57, rfl⟩ : ∃ z, z = u := ⟨_, rfl⟩
                have hP : va_P D vwCl [(o4, .inr (4, [.ref oc, .ref o, .ref o5, .ref s4, .ref l4, .int (nI yct), .int (nI ybs), .int (nI ybt), .int (nI ybl)])), (s4, aN cI 200 ysa), (l4, aN cI 200 yli), (o5, .inr (5, [.ref oc, .ref o, .ref s5, .int (nI v), .int (nI ((tkF (slN rc nl w (q + 1)) (q + 1) 20).2.2.2)), .int (nI ((tkF (slN rc nl w (q + 1)) (q + 1) 20).1)), .int (nI ((tkF (slN rc nl w (q + 1)) (q + 1) 20).2.2.1)), .int (nI (toN z g v nl rc w (q + 1))), .int (svI (tkF (slN rc nl w (q + 1)) (q + 1) 20).2.2.2 (q + 1) (toN z g v nl rc w (q + 1)))])), (s5, aN cI 20 stu_57), (o, .inr (2, [.ref oc, .ref q0, .ref ra, .int (nI ll), .int (nI lo), .int (nI lt)])), (q0, .inr (3, [.ref q1, .int (nI n1), .int (nI n2)])), (q1, aN cI 26 pt), (ra, aN cI 400 rc), (oc, .inr (0, [.ref a1, .ref a2, .int (nI nl), .int (nI nv)])), (a1, aN cI 640 g), (a2, aN cI 80 z)] H := hP
                have hD : va_D A [(o4, .inr (4, [.ref oc, .ref o, .ref o5, .ref s4, .ref l4, .int (nI yct), .int (nI ybs), .int (nI ybt), .int (nI ybl)])), (s4, aN cI 200 ysa), (l4, aN cI 200 yli), (o5, .inr (5, [.ref oc, .ref o, .ref s5, .int (nI v), .int (nI ((tkF (slN rc nl w (q + 1)) (q + 1) 20).2.2.2)), .int (nI ((tkF (slN rc nl w (q + 1)) (q + 1) 20).1)), .int (nI ((tkF (slN rc nl w (q + 1)) (q + 1) 20).2.2.1)), .int (nI (toN z g v nl rc w (q + 1))), .int (svI (tkF (slN rc nl w (q + 1)) (q + 1) 20).2.2.2 (q + 1) (toN z g v nl rc w (q + 1)))])), (s5, aN cI 20 stu_57), (o, .inr (2, [.ref oc, .ref q0, .ref ra, .int (nI ll), .int (nI lo), .int (nI lt)])), (q0, .inr (3, [.ref q1, .int (nI n1), .int (nI n2)])), (q1, aN cI 26 pt), (ra, aN cI 400 rc), (oc, .inr (0, [.ref a1, .ref a2, .int (nI nl), .int (nI nv)])), (a1, aN cI 640 g), (a2, aN cI 80 z)] := hD
                try dsimp only at hp_57
                refine lv_aload_n hx hb dX4_lookAtAll_60 rfl (lv_at hl 0 rfl) ?_
                refine lv_iload_n hx hb dX4_lookAtAll_61 rfl (lv_at hl 3 rfl) ?_
                refine lv_iload_n hx hb dX4_lookAtAll_62 rfl (lv_at hl 2 rfl) ?_
                refine m_wvV (As := [.int (nI w), .int (nI (q + 1))]) (rest := []) (wc := [(o4, .inr (4, [.ref oc, .ref o, .ref o5, .ref s4, .ref l4, .int (nI yct), .int (nI ybs), .int (nI ybt), .int (nI ybl)])), (s4, aN cI 200 ysa), (l4, aN cI 200 yli), (o5, .inr (5, [.ref oc, .ref o, .ref s5, .int (nI v), .int (nI ((tkF (slN rc nl w (q + 1)) (q + 1) 20).2.2.2)), .int (nI ((tkF (slN rc nl w (q + 1)) (q + 1) 20).1)), .int (nI ((tkF (slN rc nl w (q + 1)) (q + 1) 20).2.2.1)), .int (nI (toN z g v nl rc w (q + 1))), .int (svI (tkF (slN rc nl w (q + 1)) (q + 1) 20).2.2.2 (q + 1) (toN z g v nl rc w (q + 1)))]))]) hcf (k_X4_note (l := l) (D := D) (cI := cI) (cZ := cZ) (start := w) (n := q + 1) (o4 := o4) (oc := oc) (o := o) (o5 := o5) (s4 := s4) (l4 := l4) (ct := yct) (bs := ybs) (bt := ybt) (bl := ybl) (sa := ysa) (li := yli) (s5 := s5) (va := v) (tc := (tkF (slN rc nl w (q + 1)) (q + 1) 20).2.2.2) (ts := (tkF (slN rc nl w (q + 1)) (q + 1) 20).1) (tn := (tkF (slN rc nl w (q + 1)) (q + 1) 20).2.2.1) (td := toN z g v nl rc w (q + 1)) (sv := svI (tkF (slN rc nl w (q + 1)) (q + 1) 20).2.2.2 (q + 1) (toN z g v nl rc w (q + 1))) (L := allL (cvO z g v nl rc) nl q ++ rowL (cvO z g v nl rc (q + 1)) w) (hps := hyp) (hsv := fun h9 => ⟨(cv_pos (fun t h => Nat.le_trans (hgA _ _ t (by omega) h) hnl) (by omega) h9).2.1, by have h3 := (cv_pos (fun t h => Nat.le_trans (hgA _ _ t (by omega) h) hnl) (by omega) h9).1; have h4 := hyc1 h3; omega⟩) (htn := (tkI_ok (fun t h => Nat.le_trans (hgA _ _ t (by omega) h) hnl) 20).2.2.2.2)) (cwV 2 hts gX4_lookAtAll_X4_note rfl rfl rfl yd_X4_note ⟨Nat.le_of_ble_eq_true rfl, Nat.le_of_ble_eq_true rfl⟩) hK hP hD hS [0, 1, 2, 3] (by decide) rfl rfl rfl rfl hl.1 rfl (Nat.le_of_ble_eq_true rfl) dX4_lookAtAll_63 ⟨Nat.zero_le _, Nat.zero_le _⟩ (fun _ => rfl) (fun (u : Nat × (Nat → Nat) × (Nat → Nat) × Nat × Nat × Nat) => [(o4, .inr (4, [.ref oc, .ref o, .ref o5, .ref s4, .ref l4, .int (nI u.1), .int (nI u.2.2.2.1), .int (nI u.2.2.2.2.1), .int (nI u.2.2.2.2.2)])), (s4, aN cI 200 u.2.1), (l4, aN cI 200 u.2.2.1), (o5, .inr (5, [.ref oc, .ref o, .ref s5, .int (nI v), .int (nI ((tkF (slN rc nl w (q + 1)) (q + 1) 20).2.2.2)), .int (nI ((tkF (slN rc nl w (q + 1)) (q + 1) 20).1)), .int (nI ((tkF (slN rc nl w (q + 1)) (q + 1) 20).2.2.1)), .int (nI (toN z g v nl rc w (q + 1))), .int (svI (tkF (slN rc nl w (q + 1)) (q + 1) 20).2.2.2 (q + 1) (toN z g v nl rc w (q + 1)))])), (s5, aN cI 20 stu_57), (o, .inr (2, [.ref oc, .ref q0, .ref ra, .int (nI ll), .int (nI lo), .int (nI lt)])), (q0, .inr (3, [.ref q1, .int (nI n1), .int (nI n2)])), (q1, aN cI 26 pt), (ra, aN cI 400 rc), (oc, .inr (0, [.ref a1, .ref a2, .int (nI nl), .int (nI nv)])), (a1, aN cI 640 g), (a2, aN cI 80 z)]) (fun _ => rfl) (fun u H locs hp_63 hP hD hS => ?_)
                obtain ⟨ctu_63, sau_63, liu_63, bsu_63, btu_63, blu_63⟩ := u
                have hP : va_P D vwCl [(o4, .inr (4, [.ref oc, .ref o, .ref o5, .ref s4, .ref l4, .int (nI ctu_63), .int (nI bsu_63), .int (nI btu_63), .int (nI blu_63)])), (s4, aN cI 200 sau_63), (l4, aN cI 200 liu_63), (o5, .inr (5, [.ref oc, .ref o, .ref s5, .int (nI v), .int (nI ((tkF (slN rc nl w (q + 1)) (q + 1) 20).2.2.2)), .int (nI ((tkF (slN rc nl w (q + 1)) (q + 1) 20).1)), .int (nI ((tkF (slN rc nl w (q + 1)) (q + 1) 20).2.2.1)), .int (nI (toN z g v nl rc w (q + 1))), .int (svI (tkF (slN rc nl w (q + 1)) (q + 1) 20).2.2.2 (q + 1) (toN z g v nl rc w (q + 1)))])), (s5, aN cI 20 stu_57), (o, .inr (2, [.ref oc, .ref q0, .ref ra, .int (nI ll), .int (nI lo), .int (nI lt)])), (q0, .inr (3, [.ref q1, .int (nI n1), .int (nI n2)])), (q1, aN cI 26 pt), (ra, aN cI 400 rc), (oc, .inr (0, [.ref a1, .ref a2, .int (nI nl), .int (nI nv)])), (a1, aN cI 640 g), (a2, aN cI 80 z)] H := hP
                have hD : va_D A [(o4, .inr (4, [.ref oc, .ref o, .ref o5, .ref s4, .ref l4, .int (nI ctu_63), .int (nI bsu_63), .int (nI btu_63), .int (nI blu_63)])), (s4, aN cI 200 sau_63), (l4, aN cI 200 liu_63), (o5, .inr (5, [.ref oc, .ref o, .ref s5, .int (nI v), .int (nI ((tkF (slN rc nl w (q + 1)) (q + 1) 20).2.2.2)), .int (nI ((tkF (slN rc nl w (q + 1)) (q + 1) 20).1)), .int (nI ((tkF (slN rc nl w (q + 1)) (q + 1) 20).2.2.1)), .int (nI (toN z g v nl rc w (q + 1))), .int (svI (tkF (slN rc nl w (q + 1)) (q + 1) 20).2.2.2 (q + 1) (toN z g v nl rc w (q + 1)))])), (s5, aN cI 20 stu_57), (o, .inr (2, [.ref oc, .ref q0, .ref ra, .int (nI ll), .int (nI lo), .int (nI lt)])), (q0, .inr (3, [.ref q1, .int (nI n1), .int (nI n2)])), (q1, aN cI 26 pt), (ra, aN cI 400 rc), (oc, .inr (0, [.ref a1, .ref a2, .int (nI nl), .int (nI nv)])), (a1, aN cI 640 g), (a2, aN cI 80 z)] := hD
                try dsimp only at hp_63
                refine lv_iinc (v := nI (w + 1)) (lv' := [(3, .int (nI (w + 1))), (0, .ref o4), (1, .int (nI v)), (2, .int (nI (q + 1)))]) hx hb dX4_lookAtAll_66 hl (k := 3) rfl ((nI_succ _).symm) (by decide) rfl (fun ls hl => ?_)
                refine lv_goto (tgt := 25) hx hb dX4_lookAtAll_69 (by decide) ?_
                have X9 : cvO z g v nl rc (q + 1) w = cdL (cvI z g v nl rc w (q + 1)) (cvL nl rc w (q + 1)) w (q + 1) := if_pos c_47
                have X8 : psOK (allL (cvO z g v nl rc) nl q ++ rowL (cvO z g v nl rc (q + 1)) (w + 1)) ctu_63 sau_63 liu_63 bsu_63 btu_63 blu_63 := by
                  show psOK (_ ++ (_ ++ _)) _ _ _ _ _ _
                  rw [X9, ← List.append_assoc]
                  exact hp_63
                have X7 := ps_len hyp hp_63
                exact ih_25 (w + 1) ctu_63 bsu_63 btu_63 blu_63 sau_63 liu_63 _ _ _ _ _ _ _ (by omega) (by omega) (by rcases X7 with h | ⟨h, h2⟩; omega; have h3 := (cv_pos (fun t h => Nat.le_trans (hgA _ _ t (by omega) h) hnl) (by omega) h2).1; have h4 := hyc1 h3; omega) (fun h9 => by have := hyc1 h9; omega) X8 _ _ hP hD hS ls (lv_sub hl [1, 2, 3, 0] rfl)
        exact loop_25 (nl + 2) 0 xct xbs xbt xbl xsa xli xva xtc xts xtn xtd xsv xst (by omega) (by omega) hxc2 (fun h9 => by have := hxc1 h9; omega) (by rw [show rowL (cvO z g v nl rc (q + 1)) 0 = [] from rfl, List.append_nil]; exact hxp) _ _ hP hD hS ls (lv_sub hl [1, 2, 3, 0] rfl)
  exact loop_12 (nl + 2) 0 0 0 bt bl sa li va tc ts tn td sv st (by omega) (by omega) (by omega) (by omega) (psOK_nil hsa hli _ _) _ _ hP hD hS ls (lv_sub hl [1, 2, 0] rfl)
