theorem yd_X2_signFits : yX2_signFits.cls = RX2 ∧ yX2_signFits.cls ≠ "java/lang/invoke/MethodHandle" ∧ yX2_signFits.cls ≠ "java/lang/invoke/VarHandle" ∧ (parseMethodDescriptor yX2_signFits.desc).map (fun d => d.parameters.length) = some 3 := by decide +kernel
set_option maxHeartbeats 4000000 in
set_option maxRecDepth 100000 in
theorem k_X2_signFits (l : Launch) (D : va_G) (cI cZ : ClassId) (o q0 q1 ra oc ll lo lt n1 n2 : Nat) (pt : Nat → Nat) (L : List (Nat × Nat)) (way a b : Nat) (hpm : pmC n1 n2 pt L) (hw : way ≤ 2) (ha : a ≤ 126) (hb2 : b ≤ 126) : Met l yX2_signFits wsX2_signFits ({ frames := 2, cells := 0, slots := 0, locals := 44 }) (mPc [.ref o, .int (nI way), .int (nI a), .int (nI b)] D cI cZ [(o, .inr (2, [.ref oc, .ref q0, .ref ra, .int (nI ll), .int (nI lo), .int (nI lt)])), (q0, .inr (3, [.ref q1, .int (nI n1), .int (nI n2)])), (q1, aN cI 26 pt)]) (mQi D (mA [(o, .inr (2, [.ref oc, .ref q0, .ref ra, .int (nI ll), .int (nI lo), .int (nI lt)])), (q0, .inr (3, [.ref q1, .int (nI n1), .int (nI n2)])), (q1, aN cI 26 pt)]) (fun (r : Int32) (u : Nat × Nat × (Nat → Nat)) => r = bI ((stX way L a b).1) ∧ pmC u.1 u.2.1 u.2.2 (stX way L a b).2) (fun (u : Nat × Nat × (Nat → Nat)) => [(o, .inr (2, [.ref oc, .ref q0, .ref ra, .int (nI ll), .int (nI lo), .int (nI lt)])), (q0, .inr (3, [.ref q1, .int (nI u.1), .int (nI u.2.1)])), (q1, aN cI 26 u.2.2)])) 0 0 (mA [(o, .inr (2, [.ref oc, .ref q0, .ref ra, .int (nI ll), .int (nI lo), .int (nI lt)])), (q0, .inr (3, [.ref q1, .int (nI n1), .int (nI n2)])), (q1, aN cI 26 pt)]) := by
  refine Met.ofW (cc := cX2_signFits) (maxL := 4) (ret := (some .boolean)) (by decide) rfl ?_
  intro p e s m args below meth c s₁ BB hml hv
  obtain ⟨hargs, hP, hD0, hK⟩ := hv
  have hx := BB.exec
  have hb := BB.bytes
  have hr := BB.returns
  have hts := atoms_spec (ws := wsX2_signFits) BB.pre
  have hown : s.vm.findClass RX2 = some m.cls := findClass_of_methodNamed BB.named
  have hlocks := BB.notSynchronized
  have hcf : CallFix p m c cX2_signFits 4 s args wsX2_signFits RX2 := ⟨hx, hb, hml, hown, hts⟩
  obtain ⟨A, hAe⟩ : ∃ A, A = mA [(o, .inr (2, [.ref oc, .ref q0, .ref ra, .int (nI ll), .int (nI lo), .int (nI lt)])), (q0, .inr (3, [.ref q1, .int (nI n1), .int (nI n2)])), (q1, aN cI 26 pt)] := ⟨_, rfl⟩
  have hD : va_D A [(o, .inr (2, [.ref oc, .ref q0, .ref ra, .int (nI ll), .int (nI lo), .int (nI lt)])), (q0, .inr (3, [.ref q1, .int (nI n1), .int (nI n2)])), (q1, aN cI 26 pt)] := ⟨hD0.1, fun k q h => by rw [hAe]; exact ⟨k, q.2, h⟩⟩
  have hS : va_S A s.heap s.heap [] := va_S.rf
  rw [← hAe]
  rw [hargs, lg_entry_eq, ← hargs]
  have hl := lv_entry ([.ref o, .int (nI way), .int (nI a), .int (nI b)]) (n := 4) (Nat.le_of_ble_eq_true rfl)
  generalize (lg_sl ([.ref o, .int (nI way), .int (nI a), .int (nI b)]) ++ List.replicate (4 - (lg_sl ([.ref o, .int (nI way), .int (nI a), .int (nI b)])).length) Slot.unset).toArray = ls at hl ⊢
  have hl : lv_has ls 4 [(0, .ref o), (1, .int (nI way)), (2, .int (nI a)), (3, .int (nI b))] := hl
  obtain ⟨Q, hQ⟩ : ∃ Q, Q = MQ below (mQi D A (fun (r : Int32) (u : Nat × Nat × (Nat → Nat)) => r = bI ((stX way L a b).1) ∧ pmC u.1 u.2.1 u.2.2 (stX way L a b).2) (fun (u : Nat × Nat × (Nat → Nat)) => [(o, .inr (2, [.ref oc, .ref q0, .ref ra, .int (nI ll), .int (nI lo), .int (nI lt)])), (q0, .inr (3, [.ref q1, .int (nI u.1), .int (nI u.2.1)])), (q1, aN cI 26 u.2.2)])) args s 0 0 A := ⟨_, rfl⟩
  rw [← hQ]
  have mn_73 := hK.2.2 ("SameAgain$Likeness", 73, ⟨"SameAgain", "isName", "(I)Z"⟩, "SameAgain") (by decide +kernel)
  have in_X7 := hts (.initialized RX7) (by decide +kernel)
  have st_X7_isName := hts (.static yX7_isName) (by decide +kernel)
  have mn_81 := hK.2.2 ("SameAgain$Likeness", 81, ⟨"SameAgain", "isNumber", "(I)Z"⟩, "SameAgain") (by decide +kernel)
  have st_X7_isNumber := hts (.static yX7_isNumber) (by decide +kernel)
  have i_X2 : ∀ w ∈ u_ws RX2 TX2 6, w ∈ wsX2_signFits := by decide +kernel
  have f_12 := hts (.fieldLink RX2 12 "SameAgain$Likeness" "pairing" "LSameAgain$Pairing;") (by decide +kernel)
  refine lv_iload_n hx hb dX2_signFits_0 rfl (lv_at hl 1 rfl) ?_
  refine m_if_ne (tgt := 15) hx hb dX2_signFits_1 (by decide) (by omega) (fun c_1 => ?_) (fun c_1 => ?_)
  · refine lv_iload_n hx hb dX2_signFits_15 rfl (lv_at hl 2 rfl) ?_
    refine m_rdSN (As := [.int (nI a)]) (rest := []) (wc := []) hcf (k_X7_isName (l := l) (D := D) (cI := cI) (cZ := cZ) (a := a) (ha := by omega)) ⟨va_cnB 1 hts gX2_signFits_X7_isName_n73 rfl rfl rfl mn_73 in_X7 yd_X7_isName.2 ⟨Nat.le_of_ble_eq_true rfl, Nat.le_of_ble_eq_true rfl⟩, st_X7_isName, trivial⟩ (m_preS hK hP hD [] (by decide) rfl) rfl hl.1 rfl (Nat.le_of_ble_eq_true rfl) dX2_signFits_16 ⟨Nat.zero_le _, Nat.zero_le _⟩ ?_
    refine m_ifB_eq (tgt := 32) hx hb dX2_signFits_19 (by decide) (fun c_19 => ?_) (fun c_19 => ?_)
    · refine lv_iload_n hx hb dX2_signFits_32 rfl (lv_at hl 1 rfl) ?_
      refine lv_iconst (v := nI 2) hx hb dX2_signFits_33 (by decide) ?_
      refine m_cmp_ne (tgt := 49) hx hb dX2_signFits_34 (by decide) (by omega) (by omega) (fun c_34 => ?_) (fun c_34 => ?_)
      · refine lv_iload_n hx hb dX2_signFits_49 rfl (lv_at hl 2 rfl) ?_
        refine lv_iload_n hx hb dX2_signFits_50 rfl (lv_at hl 3 rfl) ?_
        refine m_cmp_ne (tgt := 58) hx hb dX2_signFits_51 (by decide) (by omega) (by omega) (fun c_51 => ?_) (fun c_51 => ?_)
        · refine lv_iconst (v := nI 0) hx hb dX2_signFits_58 (by decide) ?_
          rw [hQ]
          have E9 : stX way L a b = (decide (a = b), L) := stX_0 (Or.inr c_19) (by first | exact Or.inl c_34 | exact Or.inr c_41)
          exact m_zwr hx hb hr hlocks (n1, n2, pt) (nI_01 (by omega)) (⟨by rw [E9]; exact b_zero c_51, by rw [E9]; exact hpm⟩) hP hS dX2_signFits_59
        · refine lv_iconst (v := nI 1) hx hb dX2_signFits_54 (by decide) ?_
          refine lv_goto (tgt := 59) hx hb dX2_signFits_55 (by decide) ?_
          rw [hQ]
          have E9 : stX way L a b = (decide (a = b), L) := stX_0 (Or.inr c_19) (by first | exact Or.inl c_34 | exact Or.inr c_41)
          exact m_zwr hx hb hr hlocks (n1, n2, pt) (nI_01 (by omega)) (⟨by rw [E9]; exact b_one c_51, by rw [E9]; exact hpm⟩) hP hS dX2_signFits_59
      · refine lv_iload_n hx hb dX2_signFits_37 rfl (lv_at hl 2 rfl) ?_
        refine m_rdSN (As := [.int (nI a)]) (rest := []) (wc := []) hcf (k_X7_isNumber (l := l) (D := D) (cI := cI) (cZ := cZ) (a := a) (ha := by omega)) ⟨va_cnB 1 hts gX2_signFits_X7_isNumber_n81 rfl rfl rfl mn_81 in_X7 yd_X7_isNumber.2 ⟨Nat.le_of_ble_eq_true rfl, Nat.le_of_ble_eq_true rfl⟩, st_X7_isNumber, trivial⟩ (m_preS hK hP hD [] (by decide) rfl) rfl hl.1 rfl (Nat.le_of_ble_eq_true rfl) dX2_signFits_38 ⟨Nat.zero_le _, Nat.zero_le _⟩ ?_
        refine m_ifB_eq (tgt := 49) hx hb dX2_signFits_41 (by decide) (fun c_41 => ?_) (fun c_41 => ?_)
        · refine lv_iload_n hx hb dX2_signFits_49 rfl (lv_at hl 2 rfl) ?_
          refine lv_iload_n hx hb dX2_signFits_50 rfl (lv_at hl 3 rfl) ?_
          refine m_cmp_ne (tgt := 58) hx hb dX2_signFits_51 (by decide) (by omega) (by omega) (fun c_51 => ?_) (fun c_51 => ?_)
          · refine lv_iconst (v := nI 0) hx hb dX2_signFits_58 (by decide) ?_
            rw [hQ]
            have E9 : stX way L a b = (decide (a = b), L) := stX_0 (Or.inr c_19) (by first | exact Or.inl c_34 | exact Or.inr c_41)
            exact m_zwr hx hb hr hlocks (n1, n2, pt) (nI_01 (by omega)) (⟨by rw [E9]; exact b_zero c_51, by rw [E9]; exact hpm⟩) hP hS dX2_signFits_59
          · refine lv_iconst (v := nI 1) hx hb dX2_signFits_54 (by decide) ?_
            refine lv_goto (tgt := 59) hx hb dX2_signFits_55 (by decide) ?_
            rw [hQ]
            have E9 : stX way L a b = (decide (a = b), L) := stX_0 (Or.inr c_19) (by first | exact Or.inl c_34 | exact Or.inr c_41)
            exact m_zwr hx hb hr hlocks (n1, n2, pt) (nI_01 (by omega)) (⟨by rw [E9]; exact b_one c_51, by rw [E9]; exact hpm⟩) hP hS dX2_signFits_59
        · refine lv_iload_n hx hb dX2_signFits_44 rfl (lv_at hl 3 rfl) ?_
          refine m_rdSN (As := [.int (nI b)]) (rest := []) (wc := []) hcf (k_X7_isNumber (l := l) (D := D) (cI := cI) (cZ := cZ) (a := b) (ha := by omega)) ⟨va_cnB 1 hts gX2_signFits_X7_isNumber_n81 rfl rfl rfl mn_81 in_X7 yd_X7_isNumber.2 ⟨Nat.le_of_ble_eq_true rfl, Nat.le_of_ble_eq_true rfl⟩, st_X7_isNumber, trivial⟩ (m_preS hK hP hD [] (by decide) rfl) rfl hl.1 rfl (Nat.le_of_ble_eq_true rfl) dX2_signFits_45 ⟨Nat.zero_le _, Nat.zero_le _⟩ ?_
          rw [hQ]
          have E9 : stX way L a b = (nuB b, L) := stX_2 c_19 c_34 c_41
          exact m_zwr hx hb hr hlocks (n1, n2, pt) (bI_01 _) (⟨by rw [E9], by rw [E9]; exact hpm⟩) hP hS dX2_signFits_48
    · refine lv_aload_n hx hb dX2_signFits_22 rfl (lv_at hl 0 rfl) ?_
      refine va_get (D := D) (ci := 2) (v := .ref q0) (C := RX2) (T := TX2) (N := 6) hx hb hts i_X2 hown hK.1 hP 0 rfl rfl 1 (by decide) f_12 (fun _ h9 => h9) rfl dX2_signFits_23 ?_
      refine lv_iload_n hx hb dX2_signFits_26 rfl (lv_at hl 2 rfl) ?_
      refine lv_iload_n hx hb dX2_signFits_27 rfl (lv_at hl 3 rfl) ?_
      refine m_wrV (As := [.int (nI a), .int (nI b)]) (rest := []) (wc := [(q0, .inr (3, [.ref q1, .int (nI n1), .int (nI n2)])), (q1, aN cI 26 pt)]) hcf (k_X3_join (l := l) (D := D) (cI := cI) (cZ := cZ) (a := a) (b := b) (o := q0) (q1 := q1) (n1 := n1) (n2 := n2) (pt := pt) (L := L) (hpm := hpm) (ha := ha) (hb2 := hb2)) (cwV 2 hts gX2_signFits_X3_join rfl rfl rfl yd_X3_join ⟨Nat.le_of_ble_eq_true rfl, Nat.le_of_ble_eq_true rfl⟩) hK hP hD hS [1, 2] (by decide) rfl rfl rfl rfl hl.1 rfl (Nat.le_of_ble_eq_true rfl) dX2_signFits_28 ⟨Nat.zero_le _, Nat.zero_le _⟩ (fun _ => rfl) (fun (u : Nat × Nat × (Nat → Nat)) => [(o, .inr (2, [.ref oc, .ref q0, .ref ra, .int (nI ll), .int (nI lo), .int (nI lt)])), (q0, .inr (3, [.ref q1, .int (nI u.1), .int (nI u.2.1)])), (q1, aN cI 26 u.2.2)]) (fun _ => rfl) (fun r u H locs hp_28 hP hD hS => ?_)
      obtain ⟨n1u_28, n2u_28, ptu_28⟩ := u
      have hP : va_P D vwCl [(o, .inr (2, [.ref oc, .ref q0, .ref ra, .int (nI ll), .int (nI lo), .int (nI lt)])), (q0, .inr (3, [.ref q1, .int (nI n1u_28), .int (nI n2u_28)])), (q1, aN cI 26 ptu_28)] H := hP
      have hD : va_D A [(o, .inr (2, [.ref oc, .ref q0, .ref ra, .int (nI ll), .int (nI lo), .int (nI lt)])), (q0, .inr (3, [.ref q1, .int (nI n1u_28), .int (nI n2u_28)])), (q1, aN cI 26 ptu_28)] := hD
      try dsimp only at hp_28
      obtain ⟨hr_hp_28, hp_28⟩ := hp_28
      rw [hr_hp_28]
      rw [hQ]
      have E9 : stX way L a b = (jnB L a b, jnL L a b) := stX_1 c_1 c_19
      exact m_zwr hx hb hr hlocks (_, _, _) (bI_01 _) (⟨by rw [E9], by rw [E9]; exact hp_28⟩) hP hS dX2_signFits_31
  · refine lv_iload_n hx hb dX2_signFits_4 rfl (lv_at hl 2 rfl) ?_
    refine lv_iload_n hx hb dX2_signFits_5 rfl (lv_at hl 3 rfl) ?_
    refine m_cmp_ne (tgt := 13) hx hb dX2_signFits_6 (by decide) (by omega) (by omega) (fun c_6 => ?_) (fun c_6 => ?_)
    · refine lv_iconst (v := nI 0) hx hb dX2_signFits_13 (by decide) ?_
      rw [hQ]
      have E9 : stX way L a b = (decide (a = b), L) := stX_0 (Or.inl c_1) (Or.inl (by omega))
      exact m_zwr hx hb hr hlocks (n1, n2, pt) (nI_01 (by omega)) (⟨by rw [E9]; exact b_zero c_6, by rw [E9]; exact hpm⟩) hP hS dX2_signFits_14
    · refine lv_iconst (v := nI 1) hx hb dX2_signFits_9 (by decide) ?_
      refine lv_goto (tgt := 14) hx hb dX2_signFits_10 (by decide) ?_
      rw [hQ]
      have E9 : stX way L a b = (decide (a = b), L) := stX_0 (Or.inl c_1) (Or.inl (by omega))
      exact m_zwr hx hb hr hlocks (n1, n2, pt) (nI_01 (by omega)) (⟨by rw [E9]; exact b_one c_6, by rw [E9]; exact hpm⟩) hP hS dX2_signFits_14

theorem yd_X2_lineFits : yX2_lineFits.cls = RX2 ∧ yX2_lineFits.cls ≠ "java/lang/invoke/MethodHandle" ∧ yX2_lineFits.cls ≠ "java/lang/invoke/VarHandle" ∧ (parseMethodDescriptor yX2_lineFits.desc).map (fun d => d.parameters.length) = some 5 := by decide +kernel
set_option maxHeartbeats 4000000 in
set_option maxRecDepth 100000 in
theorem k_X2_lineFits (l : Launch) (D : va_G) (cI cZ : ClassId) (o q0 q1 ra oc a1 a2 ll lo lt n1 n2 nl nv : Nat) (pt rc z g : Nat → Nat) (L : List (Nat × Nat)) (v way one other : Nat) (x : Int32) (hnl : nl ≤ 20) (hnv : nv ≤ 4) (hz : ∀ j, z j ≤ 8) (hg : ∀ j, g j ≤ 126) (hpm : pmC n1 n2 pt L) (hw : way ≤ 2) (hv : v < nv) (h1 : one < nl) (h2 : other < nl) : Met l yX2_lineFits wsX2_lineFits ({ frames := 3, cells := 0, slots := 0, locals := 67 }) (mPc [.ref o, .int (nI v), .int (nI way), .int (nI one), .int (nI other), .int x] D cI cZ [(o, .inr (2, [.ref oc, .ref q0, .ref ra, .int (nI ll), .int (nI lo), .int (nI lt)])), (q0, .inr (3, [.ref q1, .int (nI n1), .int (nI n2)])), (q1, aN cI 26 pt), (ra, aN cI 400 rc), (oc, .inr (0, [.ref a1, .ref a2, .int (nI nl), .int (nI nv)])), (a1, aN cI 640 g), (a2, aN cI 80 z)]) (mQi D (mA [(o, .inr (2, [.ref oc, .ref q0, .ref ra, .int (nI ll), .int (nI lo), .int (nI lt)])), (q0, .inr (3, [.ref q1, .int (nI n1), .int (nI n2)])), (q1, aN cI 26 pt), (ra, aN cI 400 rc), (oc, .inr (0, [.ref a1, .ref a2, .int (nI nl), .int (nI nv)])), (a1, aN cI 640 g), (a2, aN cI 80 z)]) (fun (r : Int32) (u : Nat × Nat × (Nat → Nat)) => r = bI ((lfX way z g (v * 20 + one) (v * 20 + other) (fun pq => decide (nI pq = x)) L).1) ∧ pmC u.1 u.2.1 u.2.2 (lfX way z g (v * 20 + one) (v * 20 + other) (fun pq => decide (nI pq = x)) L).2) (fun (u : Nat × Nat × (Nat → Nat)) => [(o, .inr (2, [.ref oc, .ref q0, .ref ra, .int (nI ll), .int (nI lo), .int (nI lt)])), (q0, .inr (3, [.ref q1, .int (nI u.1), .int (nI u.2.1)])), (q1, aN cI 26 u.2.2), (ra, aN cI 400 rc), (oc, .inr (0, [.ref a1, .ref a2, .int (nI nl), .int (nI nv)])), (a1, aN cI 640 g), (a2, aN cI 80 z)])) 0 0 (mA [(o, .inr (2, [.ref oc, .ref q0, .ref ra, .int (nI ll), .int (nI lo), .int (nI lt)])), (q0, .inr (3, [.ref q1, .int (nI n1), .int (nI n2)])), (q1, aN cI 26 pt), (ra, aN cI 400 rc), (oc, .inr (0, [.ref a1, .ref a2, .int (nI nl), .int (nI nv)])), (a1, aN cI 640 g), (a2, aN cI 80 z)]) := by
  refine Met.ofW (cc := cX2_lineFits) (maxL := 10) (ret := (some .boolean)) (by decide) rfl ?_
  intro p e s m args below meth c s₁ BB hml hv
  obtain ⟨hargs, hP, hD0, hK⟩ := hv
  have hx := BB.exec
  have hb := BB.bytes
  have hr := BB.returns
  have hts := atoms_spec (ws := wsX2_lineFits) BB.pre
  have hown : s.vm.findClass RX2 = some m.cls := findClass_of_methodNamed BB.named
  have hlocks := BB.notSynchronized
  have hcf : CallFix p m c cX2_lineFits 10 s args wsX2_lineFits RX2 := ⟨hx, hb, hml, hown, hts⟩
  obtain ⟨A, hAe⟩ : ∃ A, A = mA [(o, .inr (2, [.ref oc, .ref q0, .ref ra, .int (nI ll), .int (nI lo), .int (nI lt)])), (q0, .inr (3, [.ref q1, .int (nI n1), .int (nI n2)])), (q1, aN cI 26 pt), (ra, aN cI 400 rc), (oc, .inr (0, [.ref a1, .ref a2, .int (nI nl), .int (nI nv)])), (a1, aN cI 640 g), (a2, aN cI 80 z)] := ⟨_, rfl⟩
  have hD : va_D A [(o, .inr (2, [.ref oc, .ref q0, .ref ra, .int (nI ll), .int (nI lo), .int (nI lt)])), (q0, .inr (3, [.ref q1, .int (nI n1), .int (nI n2)])), (q1, aN cI 26 pt), (ra, aN cI 400 rc), (oc, .inr (0, [.ref a1, .ref a2, .int (nI nl), .int (nI nv)])), (a1, aN cI 640 g), (a2, aN cI 80 z)] := ⟨hD0.1, fun k q h => by rw [hAe]; exact ⟨k, q.2, h⟩⟩
  have hS : va_S A s.heap s.heap [] := va_S.rf
  rw [← hAe]
  rw [hargs, lg_entry_eq, ← hargs]
  have hl := lv_entry ([.ref o, .int (nI v), .int (nI way), .int (nI one), .int (nI other), .int x]) (n := 10) (Nat.le_of_ble_eq_true rfl)
  generalize (lg_sl ([.ref o, .int (nI v), .int (nI way), .int (nI one), .int (nI other), .int x]) ++ List.replicate (10 - (lg_sl ([.ref o, .int (nI v), .int (nI way), .int (nI one), .int (nI other), .int x])).length) Slot.unset).toArray = ls at hl ⊢
  have hl : lv_has ls 10 [(0, .ref o), (1, .int (nI v)), (2, .int (nI way)), (3, .int (nI one)), (4, .int (nI other)), (5, .int x)] := hl
  obtain ⟨Q, hQ⟩ : ∃ Q, Q = MQ below (mQi D A (fun (r : Int32) (u : Nat × Nat × (Nat → Nat)) => r = bI ((lfX way z g (v * 20 + one) (v * 20 + other) (fun pq => decide (nI pq = x)) L).1) ∧ pmC u.1 u.2.1 u.2.2 (lfX way z g (v * 20 + one) (v * 20 + other) (fun pq => decide (nI pq = x)) L).2) (fun (u : Nat × Nat × (Nat → Nat)) => [(o, .inr (2, [.ref oc, .ref q0, .ref ra, .int (nI ll), .int (nI lo), .int (nI lt)])), (q0, .inr (3, [.ref q1, .int (nI u.1), .int (nI u.2.1)])), (q1, aN cI 26 u.2.2), (ra, aN cI 400 rc), (oc, .inr (0, [.ref a1, .ref a2, .int (nI nl), .int (nI nv)])), (a1, aN cI 640 g), (a2, aN cI 80 z)])) args s 0 0 A := ⟨_, rfl⟩
  rw [← hQ]
  have i_X2 : ∀ w ∈ u_ws RX2 TX2 6, w ∈ wsX2_lineFits := by decide +kernel
  have f_32 := hts (.fieldLink RX2 32 "SameAgain$Likeness" "code" "LSameAgain$Code;") (by decide +kernel)
  have hz1 := hz (v * 20 + one)
  have hz2 := hz (v * 20 + other)
  refine lv_aload_n hx hb dX2_lineFits_0 rfl (lv_at hl 0 rfl) ?_
  refine va_get (D := D) (ci := 2) (v := .ref oc) (C := RX2) (T := TX2) (N := 6) hx hb hts i_X2 hown hK.1 hP 0 rfl rfl 0 (by decide) f_32 (fun _ h9 => h9) rfl dX2_lineFits_1 ?_
  refine lv_iload_n hx hb dX2_lineFits_4 rfl (lv_at hl 1 rfl) ?_
  refine lv_iload_n hx hb dX2_lineFits_5 rfl (lv_at hl 3 rfl) ?_
  refine m_rdV (As := [.int (nI v), .int (nI one)]) (rest := []) (wc := [(oc, .inr (0, [.ref a1, .ref a2, .int (nI nl), .int (nI nv)])), (a1, aN cI 640 g), (a2, aN cI 80 z)]) hcf (k_X0_sizeOf (l := l) (D := D) (cI := cI) (cZ := cZ) (v := v) (ln := one) (o := oc) (a1 := a1) (a2 := a2) (nl := nl) (nv := nv) (g := g) (z := z) (hnl := hnl) (hnv := hnv) (hv := hv) (hln := h1)) (cwV 2 hts gX2_lineFits_X0_sizeOf rfl rfl rfl yd_X0_sizeOf ⟨Nat.le_of_ble_eq_true rfl, Nat.le_of_ble_eq_true rfl⟩) (m_preV hK hP hD [4, 5, 6] (by decide) rfl rfl rfl) rfl hl.1 rfl (Nat.le_of_ble_eq_true rfl) dX2_lineFits_6 ⟨Nat.zero_le _, Nat.zero_le _⟩ ?_
  refine lv_istore (lv' := [(6, .int (nI (z (v * 20 + one)))), (0, .ref o), (1, .int (nI v)), (2, .int (nI way)), (3, .int (nI one)), (4, .int (nI other)), (5, .int x)]) hx hb dX2_lineFits_9 hl (by decide) rfl (fun ls hl => ?_)
  refine lv_aload_n hx hb dX2_lineFits_11 rfl (lv_at hl 1 rfl) ?_
  refine va_get (D := D) (ci := 2) (v := .ref oc) (C := RX2) (T := TX2) (N := 6) hx hb hts i_X2 hown hK.1 hP 0 rfl rfl 0 (by decide) f_32 (fun _ h9 => h9) rfl dX2_lineFits_12 ?_
  refine lv_iload_n hx hb dX2_lineFits_15 rfl (lv_at hl 2 rfl) ?_
  refine lv_iload hx hb dX2_lineFits_16 (lv_at hl 5 rfl) ?_
  refine m_rdV (As := [.int (nI v), .int (nI other)]) (rest := []) (wc := [(oc, .inr (0, [.ref a1, .ref a2, .int (nI nl), .int (nI nv)])), (a1, aN cI 640 g), (a2, aN cI 80 z)]) hcf (k_X0_sizeOf (l := l) (D := D) (cI := cI) (cZ := cZ) (v := v) (ln := other) (o := oc) (a1 := a1) (a2 := a2) (nl := nl) (nv := nv) (g := g) (z := z) (hnl := hnl) (hnv := hnv) (hv := hv) (hln := h2)) (cwV 2 hts gX2_lineFits_X0_sizeOf rfl rfl rfl yd_X0_sizeOf ⟨Nat.le_of_ble_eq_true rfl, Nat.le_of_ble_eq_true rfl⟩) (m_preV hK hP hD [4, 5, 6] (by decide) rfl rfl rfl) rfl hl.1 rfl (Nat.le_of_ble_eq_true rfl) dX2_lineFits_18 ⟨Nat.zero_le _, Nat.zero_le _⟩ ?_
  refine lv_iload hx hb dX2_lineFits_21 (lv_at hl 0 rfl) ?_
  refine m_cmp_eq (tgt := 28) hx hb dX2_lineFits_23 (by decide) (by omega) (by omega) (fun c_23 => ?_) (fun c_23 => ?_)
  · refine lv_iconst (v := nI 0) hx hb dX2_lineFits_28 (by decide) ?_
    refine lv_istore (lv' := [(7, .int (nI 0)), (6, .int (nI (z (v * 20 + one)))), (0, .ref o), (1, .int (nI v)), (2, .int (nI way)), (3, .int (nI one)), (4, .int (nI other)), (5, .int x)]) hx hb dX2_lineFits_29 hl (by decide) rfl (fun ls hl => ?_)
    have loop_31 : ∀ (fu : Nat) (pp m1 m2 : Nat) (mt : Nat → Nat) (hfu : z (v * 20 + one) - pp < fu)  (hp : pp ≤ z (v * 20 + one)) (hq : (lnX way (sgN z g (v * 20 + one)) (sgN z g (v * 20 + other)) (fun pq => decide (nI pq = x)) L pp).1 = true) (hpm2 : pmC m1 m2 mt (lnX way (sgN z g (v * 20 + one)) (sgN z g (v * 20 + other)) (fun pq => decide (nI pq = x)) L pp).2) (H : Heap) (locs : List Loc) (hP : va_P D vwCl [(o, .inr (2, [.ref oc, .ref q0, .ref ra, .int (nI ll), .int (nI lo), .int (nI lt)])), (q0, .inr (3, [.ref q1, .int (nI m1), .int (nI m2)])), (q1, aN cI 26 mt), (ra, aN cI 400 rc), (oc, .inr (0, [.ref a1, .ref a2, .int (nI nl), .int (nI nv)])), (a1, aN cI 640 g), (a2, aN cI 80 z)] H) (hD : va_D A [(o, .inr (2, [.ref oc, .ref q0, .ref ra, .int (nI ll), .int (nI lo), .int (nI lt)])), (q0, .inr (3, [.ref q1, .int (nI m1), .int (nI m2)])), (q1, aN cI 26 mt), (ra, aN cI 400 rc), (oc, .inr (0, [.ref a1, .ref a2, .int (nI nl), .int (nI nv)])), (a1, aN cI 640 g), (a2, aN cI 80 z)]) (hS : va_S A s.heap H locs) (ls : Array Slot) (hl : lv_has ls 10 [(0, .ref o), (1, .int (nI v)), (2, .int (nI way)), (3, .int (nI one)), (4, .int (nI other)), (5, .int x), (6, .int (nI (z (v * 20 + one)))), (7, .int (nI pp))]), W p l e (headSpec wsX2_lineFits { frames := 3, cells := 0, slots := 0, locals := 67 }).room s m args below meth c H locs 0 0 Q (F0 m 31 ls []) := by
      intro fu
      induction fu with
      | zero => intro pp m1 m2 mt hfu; exact absurd hfu (Nat.not_lt_zero _)
      | succ fu ih_31 =>
        intro pp m1 m2 mt hfu hp hq hpm2 H locs hP hD hS ls hl
        refine lv_iload hx hb dX2_lineFits_31 (lv_at hl 7 rfl) ?_
        refine lv_iload hx hb dX2_lineFits_33 (lv_at hl 6 rfl) ?_
        refine m_cmp_ge (tgt := 92) hx hb dX2_lineFits_35 (by decide) (by omega) (by omega) (fun c_35 => ?_) (fun c_35 => ?_)
        · refine lv_iconst (v := nI 1) hx hb dX2_lineFits_92 (by decide) ?_
          rw [hQ]
          have e9 : pp = z (v * 20 + one) := by omega
          have E9 : lfX way z g (v * 20 + one) (v * 20 + other) (fun pq => decide (nI pq = x)) L = lnX way (sgN z g (v * 20 + one)) (sgN z g (v * 20 + other)) (fun pq => decide (nI pq = x)) L pp := by unfold lfX; rw [if_pos c_23, e9]
          exact m_zwr hx hb hr hlocks (m1, m2, mt) (nI_01 (by omega)) (⟨by rw [E9, hq]; rfl, by rw [E9]; exact hpm2⟩) hP hS dX2_lineFits_93
        · refine lv_aload_n hx hb dX2_lineFits_38 rfl (lv_at hl 0 rfl) ?_
          refine va_get (D := D) (ci := 2) (v := .ref oc) (C := RX2) (T := TX2) (N := 6) hx hb hts i_X2 hown hK.1 hP 0 rfl rfl 0 (by decide) f_32 (fun _ h9 => h9) rfl dX2_lineFits_39 ?_
          refine lv_iload_n hx hb dX2_lineFits_42 rfl (lv_at hl 1 rfl) ?_
          refine lv_iload_n hx hb dX2_lineFits_43 rfl (lv_at hl 3 rfl) ?_
          refine lv_iload hx hb dX2_lineFits_44 (lv_at hl 7 rfl) ?_
          refine m_rdV (As := [.int (nI v), .int (nI one), .int (nI pp)]) (rest := []) (wc := [(oc, .inr (0, [.ref a1, .ref a2, .int (nI nl), .int (nI nv)])), (a1, aN cI 640 g), (a2, aN cI 80 z)]) hcf (k_X0_signAt (l := l) (D := D) (cI := cI) (cZ := cZ) (v := v) (ln := one) (k := pp) (o := oc) (a1 := a1) (a2 := a2) (nl := nl) (nv := nv) (g := g) (z := z) (hnl := hnl) (hnv := hnv) (hz := hz) (hg := hg) (hv := hv) (hln := h1) (hk := by omega)) (cwV 3 hts gX2_lineFits_X0_signAt rfl rfl rfl yd_X0_signAt ⟨Nat.le_of_ble_eq_true rfl, Nat.le_of_ble_eq_true rfl⟩) (m_preV hK hP hD [4, 5, 6] (by decide) rfl rfl rfl) rfl hl.1 rfl (Nat.le_of_ble_eq_true rfl) dX2_lineFits_46 ⟨Nat.zero_le _, Nat.zero_le _⟩ ?_
          refine lv_istore (lv' := [(8, .int (nI (sgN z g (v * 20 + one) pp))), (0, .ref o), (1, .int (nI v)), (2, .int (nI way)), (3, .int (nI one)), (4, .int (nI other)), (5, .int x), (6, .int (nI (z (v * 20 + one)))), (7, .int (nI pp))]) hx hb dX2_lineFits_49 hl (by decide) rfl (fun ls hl => ?_)
          refine lv_aload_n hx hb dX2_lineFits_51 rfl (lv_at hl 1 rfl) ?_
          refine va_get (D := D) (ci := 2) (v := .ref oc) (C := RX2) (T := TX2) (N := 6) hx hb hts i_X2 hown hK.1 hP 0 rfl rfl 0 (by decide) f_32 (fun _ h9 => h9) rfl dX2_lineFits_52 ?_
          refine lv_iload_n hx hb dX2_lineFits_55 rfl (lv_at hl 2 rfl) ?_
          refine lv_iload hx hb dX2_lineFits_56 (lv_at hl 5 rfl) ?_
          refine lv_iload hx hb dX2_lineFits_58 (lv_at hl 8 rfl) ?_
          refine m_rdV (As := [.int (nI v), .int (nI other), .int (nI pp)]) (rest := []) (wc := [(oc, .inr (0, [.ref a1, .ref a2, .int (nI nl), .int (nI nv)])), (a1, aN cI 640 g), (a2, aN cI 80 z)]) hcf (k_X0_signAt (l := l) (D := D) (cI := cI) (cZ := cZ) (v := v) (ln := other) (k := pp) (o := oc) (a1 := a1) (a2 := a2) (nl := nl) (nv := nv) (g := g) (z := z) (hnl := hnl) (hnv := hnv) (hz := hz) (hg := hg) (hv := hv) (hln := h2) (hk := by omega)) (cwV 3 hts gX2_lineFits_X0_signAt rfl rfl rfl yd_X0_signAt ⟨Nat.le_of_ble_eq_true rfl, Nat.le_of_ble_eq_true rfl⟩) (m_preV hK hP hD [4, 5, 6] (by decide) rfl rfl rfl) rfl hl.1 rfl (Nat.le_of_ble_eq_true rfl) dX2_lineFits_60 ⟨Nat.zero_le _, Nat.zero_le _⟩ ?_
          refine lv_istore (lv' := [(9, .int (nI (sgN z g (v * 20 + other) pp))), (8, .int (nI (sgN z g (v * 20 + one) pp))), (0, .ref o), (1, .int (nI v)), (2, .int (nI way)), (3, .int (nI one)), (4, .int (nI other)), (5, .int x), (6, .int (nI (z (v * 20 + one)))), (7, .int (nI pp))]) hx hb dX2_lineFits_63 hl (by decide) rfl (fun ls hl => ?_)
          refine lv_iload hx hb dX2_lineFits_65 (lv_at hl 9 rfl) ?_
          refine lv_iload hx hb dX2_lineFits_67 (lv_at hl 7 rfl) ?_
          refine lv_icmp_eq (tgt := 86) hx hb dX2_lineFits_69 (by decide) (fun c_69 => ?_) (fun c_69 => ?_)
          · refine lv_iinc (v := nI (pp + 1)) (lv' := [(7, .int (nI (pp + 1))), (9, .int (nI (sgN z g (v * 20 + other) pp))), (8, .int (nI (sgN z g (v * 20 + one) pp))), (0, .ref o), (1, .int (nI v)), (2, .int (nI way)), (3, .int (nI one)), (4, .int (nI other)), (5, .int x), (6, .int (nI (z (v * 20 + one))))]) hx hb dX2_lineFits_86 hl (k := 9) rfl ((nI_succ _).symm) (by decide) rfl (fun ls hl => ?_)
            refine lv_goto (tgt := 31) hx hb dX2_lineFits_89 (by decide) ?_
            exact ih_31 (pp + 1) m1 m2 mt (by omega) (by omega) (by rw [lnX_k (decide_eq_true c_69)]; exact hq) (by rw [lnX_k (decide_eq_true c_69)]; exact hpm2) _ _ hP hD hS ls (lv_sub hl [3, 4, 5, 6, 7, 8, 9, 0] rfl)
          · refine lv_aload_n hx hb dX2_lineFits_72 rfl (lv_at hl 2 rfl) ?_
            refine lv_iload_n hx hb dX2_lineFits_73 rfl (lv_at hl 4 rfl) ?_
            refine lv_iload hx hb dX2_lineFits_74 (lv_at hl 1 rfl) ?_
            refine lv_iload hx hb dX2_lineFits_76 (lv_at hl 0 rfl) ?_
            refine m_wrV (As := [.int (nI way), .int (nI (sgN z g (v * 20 + one) pp)), .int (nI (sgN z g (v * 20 + other) pp))]) (rest := []) (wc := [(o, .inr (2, [.ref oc, .ref q0, .ref ra, .int (nI ll), .int (nI lo), .int (nI lt)])), (q0, .inr (3, [.ref q1, .int (nI m1), .int (nI m2)])), (q1, aN cI 26 mt)]) hcf (k_X2_signFits (l := l) (D := D) (cI := cI) (cZ := cZ) (way := way) (a := sgN z g (v * 20 + one) pp) (b := sgN z g (v * 20 + other) pp) (o := o) (oc := oc) (q0 := q0) (ra := ra) (ll := ll) (lo := lo) (lt := lt) (q1 := q1) (n1 := m1) (n2 := m2) (pt := mt) (L := (lnX way (sgN z g (v * 20 + one)) (sgN z g (v * 20 + other)) (fun pq => decide (nI pq = x)) L pp).2) (hpm := hpm2) (hw := hw) (ha := sgN_le hg _ _) (hb2 := sgN_le hg _ _)) (cwV 3 hts gX2_lineFits_X2_signFits rfl rfl rfl yd_X2_signFits ⟨Nat.le_of_ble_eq_true rfl, Nat.le_of_ble_eq_true rfl⟩) hK hP hD hS [0, 1, 2] (by decide) rfl rfl rfl rfl hl.1 rfl (Nat.le_of_ble_eq_true rfl) dX2_lineFits_78 ⟨Nat.zero_le _, Nat.zero_le _⟩ (fun _ => rfl) (fun (u : Nat × Nat × (Nat → Nat)) => [(o, .inr (2, [.ref oc, .ref q0, .ref ra, .int (nI ll), .int (nI lo), .int (nI lt)])), (q0, .inr (3, [.ref q1, .int (nI u.1), .int (nI u.2.1)])), (q1, aN cI 26 u.2.2), (ra, aN cI 400 rc), (oc, .inr (0, [.ref a1, .ref a2, .int (nI nl), .int (nI nv)])), (a1, aN cI 640 g), (a2, aN cI 80 z)]) (fun _ => rfl) (fun r u H locs hp_78 hP hD hS => ?_)
            obtain ⟨n1u_78, n2u_78, ptu_78⟩ := u
            have hP : va_P D vwCl [(o, .inr (2, [.ref oc, .ref q0, .ref ra, .int (nI ll), .int (nI lo), .int (nI lt)])), (q0, .inr (3, [.ref q1, .int (nI n1u_78), .int (nI n2u_78)])), (q1, aN cI 26 ptu_78), (ra, aN cI 400 rc), (oc, .inr (0, [.ref a1, .ref a2, .int (nI nl), .int (nI nv)])), (a1, aN cI 640 g), (a2, aN cI 80 z)] H := hP
            have hD : va_D A [(o, .inr (2, [.ref oc, .ref q0, .ref ra, .int (nI ll), .int (nI lo), .int (nI lt)])), (q0, .inr (3, [.ref q1, .int (nI n1u_78), .int (nI n2u_78)])), (q1, aN cI 26 ptu_78), (ra, aN cI 400 rc), (oc, .inr (0, [.ref a1, .ref a2, .int (nI nl), .int (nI nv)])), (a1, aN cI 640 g), (a2, aN cI 80 z)] := hD
            try dsimp only at hp_78
            obtain ⟨hr_hp_78, hp_78⟩ := hp_78
            rw [hr_hp_78]
            refine m_ifB_ne (tgt := 86) hx hb dX2_lineFits_81 (by decide) (fun c_81 => ?_) (fun c_81 => ?_)
            · refine lv_iinc (v := nI (pp + 1)) (lv' := [(7, .int (nI (pp + 1))), (9, .int (nI (sgN z g (v * 20 + other) pp))), (8, .int (nI (sgN z g (v * 20 + one) pp))), (0, .ref o), (1, .int (nI v)), (2, .int (nI way)), (3, .int (nI one)), (4, .int (nI other)), (5, .int x), (6, .int (nI (z (v * 20 + one))))]) hx hb dX2_lineFits_86 hl (k := 9) rfl ((nI_succ _).symm) (by decide) rfl (fun ls hl => ?_)
              refine lv_goto (tgt := 31) hx hb dX2_lineFits_89 (by decide) ?_
              exact ih_31 (pp + 1) n1u_78 n2u_78 ptu_78 (by omega) (by omega) (by rw [lnX_s hq (decide_eq_false c_69)]; exact c_81) (by rw [lnX_s hq (decide_eq_false c_69)]; exact hp_78) _ _ hP hD hS ls (lv_sub hl [3, 4, 5, 6, 7, 8, 9, 0] rfl)
            · refine lv_iconst (v := nI 0) hx hb dX2_lineFits_84 (by decide) ?_
              rw [hQ]
              have E8 := lnX_s hq (decide_eq_false c_69)
              have E7 : (lnX way (sgN z g (v * 20 + one)) (sgN z g (v * 20 + other)) (fun pq => decide (nI pq = x)) L (pp + 1)).1 = false := by rw [E8]; exact c_81
              have E9 : lfX way z g (v * 20 + one) (v * 20 + other) (fun pq => decide (nI pq = x)) L = stX way (lnX way (sgN z g (v * 20 + one)) (sgN z g (v * 20 + other)) (fun pq => decide (nI pq = x)) L pp).2 (sgN z g (v * 20 + one) pp) (sgN z g (v * 20 + other) pp) := by
                rw [← E8]
                have h9 := lnX_stop E7 (z (v * 20 + one) - (pp + 1))
                rw [show pp + 1 + (z (v * 20 + one) - (pp + 1)) = z (v * 20 + one) by omega] at h9
                unfold lfX
                rw [if_pos c_23]
                exact h9
              exact m_zwr hx hb hr hlocks (_, _, _) (nI_01 (by omega)) (⟨by rw [E9, c_81]; rfl, by rw [E9]; exact hp_78⟩) hP hS dX2_lineFits_85
    exact loop_31 (z (v * 20 + one) + 1) 0 n1 n2 pt (by omega) (by omega) rfl hpm _ _ hP hD hS ls (lv_sub hl [2, 3, 4, 5, 6, 7, 1, 0] rfl)
  · refine lv_iconst (v := nI 0) hx hb dX2_lineFits_26 (by decide) ?_
    rw [hQ]
    have E9 : lfX way z g (v * 20 + one) (v * 20 + other) (fun pq => decide (nI pq = x)) L = (false, L) := if_neg c_23
    exact m_zwr hx hb hr hlocks (n1, n2, pt) (nI_01 (by omega)) (⟨by rw [E9]; rfl, by rw [E9]; exact hpm⟩) hP hS dX2_lineFits_27
