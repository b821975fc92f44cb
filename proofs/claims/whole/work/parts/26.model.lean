theorem yd_X8_goBeside : yX8_goBeside.cls = RX8 ∧ yX8_goBeside.cls ≠ "java/lang/invoke/MethodHandle" ∧ yX8_goBeside.cls ≠ "java/lang/invoke/VarHandle" ∧ (parseMethodDescriptor yX8_goBeside.desc).map (fun d => d.parameters.length) = some 2 := by decide +kernel
set_option maxHeartbeats 4000000 in
set_option maxRecDepth 100000 in
theorem k_X8_goBeside (l : Launch) (D : va_G) (cI cZ : ClassId) (mo ps mpa nl nv msz mcd mbe mba : Nat) (ol : Int32) (op os svn ms1 ms2 ms3 ms4 mfa mim mik : Nat) (be ba : Nat → Nat) (L : List (Nat × Nat)) (a b : Nat) (hpm : pmM be ba L) (hna : nmB a = true) (hnb : nmB b = true) (hbe : ∀ j, be j ≤ 126) (hba : ∀ j, ba j ≤ 126) : Met l yX8_goBeside wsX8_goBeside ({ frames := 0, cells := 0, slots := 0, locals := 0 }) (mPc [.ref mo, .int (nI a), .int (nI b)] D cI cZ [(mo, .inr (8, [.int (nI ps), .ref mpa, .int (nI nl), .int (nI nv), .ref msz, .ref mcd, .ref mbe, .ref mba, .int ol, .int (nI op), .int (nI os), .int (nI svn), .ref ms1, .ref ms2, .ref ms3, .ref ms4, .ref mfa, .ref mim, .ref mik])), (mbe, aN cI 26 be), (mba, aN cI 26 ba)]) (mQi D (mA [(mo, .inr (8, [.int (nI ps), .ref mpa, .int (nI nl), .int (nI nv), .ref msz, .ref mcd, .ref mbe, .ref mba, .int ol, .int (nI op), .int (nI os), .int (nI svn), .ref ms1, .ref ms2, .ref ms3, .ref ms4, .ref mfa, .ref mim, .ref mik])), (mbe, aN cI 26 be), (mba, aN cI 26 ba)]) (fun (r : Int32) (u : (Nat → Nat) × (Nat → Nat)) => r = bI (okp L a b) ∧ (okp L a b = true → pmM u.1 u.2 ((a, b) :: L)) ∧ (∀ j, u.1 j ≤ 126) ∧ (∀ j, u.2 j ≤ 126)) (fun (u : (Nat → Nat) × (Nat → Nat)) => [(mo, .inr (8, [.int (nI ps), .ref mpa, .int (nI nl), .int (nI nv), .ref msz, .ref mcd, .ref mbe, .ref mba, .int ol, .int (nI op), .int (nI os), .int (nI svn), .ref ms1, .ref ms2, .ref ms3, .ref ms4, .ref mfa, .ref mim, .ref mik])), (mbe, aN cI 26 u.1), (mba, aN cI 26 u.2)])) 0 0 (mA [(mo, .inr (8, [.int (nI ps), .ref mpa, .int (nI nl), .int (nI nv), .ref msz, .ref mcd, .ref mbe, .ref mba, .int ol, .int (nI op), .int (nI os), .int (nI svn), .ref ms1, .ref ms2, .ref ms3, .ref ms4, .ref mfa, .ref mim, .ref mik])), (mbe, aN cI 26 be), (mba, aN cI 26 ba)]) := by
  refine Met.ofW (cc := cX8_goBeside) (maxL := 5) (ret := (some .boolean)) (by decide) rfl ?_
  intro p e s m args below meth c s₁ BB hml hv
  obtain ⟨hargs, hP, hD0, hK⟩ := hv
  have hx := BB.exec
  have hb := BB.bytes
  have hr := BB.returns
  have hts := atoms_spec (ws := wsX8_goBeside) BB.pre
  have hown : s.vm.findClass RX8 = some m.cls := findClass_of_methodNamed BB.named
  have hlocks := BB.notSynchronized
  have hcf : CallFix p m c cX8_goBeside 5 s args wsX8_goBeside RX8 := ⟨hx, hb, hml, hown, hts⟩
  obtain ⟨A, hAe⟩ : ∃ A, A = mA [(mo, .inr (8, [.int (nI ps), .ref mpa, .int (nI nl), .int (nI nv), .ref msz, .ref mcd, .ref mbe, .ref mba, .int ol, .int (nI op), .int (nI os), .int (nI svn), .ref ms1, .ref ms2, .ref ms3, .ref ms4, .ref mfa, .ref mim, .ref mik])), (mbe, aN cI 26 be), (mba, aN cI 26 ba)] := ⟨_, rfl⟩
  have hD : va_D A [(mo, .inr (8, [.int (nI ps), .ref mpa, .int (nI nl), .int (nI nv), .ref msz, .ref mcd, .ref mbe, .ref mba, .int ol, .int (nI op), .int (nI os), .int (nI svn), .ref ms1, .ref ms2, .ref ms3, .ref ms4, .ref mfa, .ref mim, .ref mik])), (mbe, aN cI 26 be), (mba, aN cI 26 ba)] := ⟨hD0.1, fun k q h => by rw [hAe]; exact ⟨k, q.2, h⟩⟩
  have hS : va_S A s.heap s.heap [] := va_S.rf
  rw [← hAe]
  rw [hargs, lg_entry_eq, ← hargs]
  have hl := lv_entry ([.ref mo, .int (nI a), .int (nI b)]) (n := 5) (Nat.le_of_ble_eq_true rfl)
  generalize (lg_sl ([.ref mo, .int (nI a), .int (nI b)]) ++ List.replicate (5 - (lg_sl ([.ref mo, .int (nI a), .int (nI b)])).length) Slot.unset).toArray = ls at hl ⊢
  have hl : lv_has ls 5 [(0, .ref mo), (1, .int (nI a)), (2, .int (nI b))] := hl
  obtain ⟨Q, hQ⟩ : ∃ Q, Q = MQ below (mQi D A (fun (r : Int32) (u : (Nat → Nat) × (Nat → Nat)) => r = bI (okp L a b) ∧ (okp L a b = true → pmM u.1 u.2 ((a, b) :: L)) ∧ (∀ j, u.1 j ≤ 126) ∧ (∀ j, u.2 j ≤ 126)) (fun (u : (Nat → Nat) × (Nat → Nat)) => [(mo, .inr (8, [.int (nI ps), .ref mpa, .int (nI nl), .int (nI nv), .ref msz, .ref mcd, .ref mbe, .ref mba, .int ol, .int (nI op), .int (nI os), .int (nI svn), .ref ms1, .ref ms2, .ref ms3, .ref ms4, .ref mfa, .ref mim, .ref mik])), (mbe, aN cI 26 u.1), (mba, aN cI 26 u.2)])) args s 0 0 A := ⟨_, rfl⟩
  rw [← hQ]
  have i_X8 : ∀ w ∈ u_ws RX8 TX8 19, w ∈ wsX8_goBeside := by decide +kernel
  have f_19 := hts (.fieldLink RX8 19 "SameAgainModel" "beside" "[I") (by decide +kernel)
  have f_22 := hts (.fieldLink RX8 22 "SameAgainModel" "back" "[I") (by decide +kernel)
  have ia := nmB_iff.mp hna
  have ib := nmB_iff.mp hnb
  refine lv_aload_n hx hb dX8_goBeside_0 rfl (lv_at hl 0 rfl) ?_
  refine va_get (D := D) (ci := 8) (v := .ref mbe) (C := RX8) (T := TX8) (N := 19) hx hb hts i_X8 hown hK.1 hP 0 rfl rfl 6 (by decide) f_19 (fun _ h9 => h9) rfl dX8_goBeside_1 ?_
  refine lv_iload_n hx hb dX8_goBeside_4 rfl (lv_at hl 1 rfl) ?_
  refine lv_bipush (v := nI 97) hx hb dX8_goBeside_5 (by decide) ?_
  refine m_sub hx hb (by omega) dX8_goBeside_7 ?_
  refine m_ald hx hb hK hP 1 rfl (by decide) (by omega) dX8_goBeside_8 ?_
  have hv_8 := hbe (a - 97)
  refine lv_istore_n (lv' := [(3, .int (nI (be (a - 97)))), (0, .ref mo), (1, .int (nI a)), (2, .int (nI b))]) hx hb dX8_goBeside_9 rfl hl (by decide) rfl (fun ls hl => ?_)
  refine lv_aload_n hx hb dX8_goBeside_10 rfl (lv_at hl 1 rfl) ?_
  refine va_get (D := D) (ci := 8) (v := .ref mba) (C := RX8) (T := TX8) (N := 19) hx hb hts i_X8 hown hK.1 hP 0 rfl rfl 7 (by decide) f_22 (fun _ h9 => h9) rfl dX8_goBeside_11 ?_
  refine lv_iload_n hx hb dX8_goBeside_14 rfl (lv_at hl 3 rfl) ?_
  refine lv_bipush (v := nI 97) hx hb dX8_goBeside_15 (by decide) ?_
  refine m_sub hx hb (by omega) dX8_goBeside_17 ?_
  refine m_ald hx hb hK hP 2 rfl (by decide) (by omega) dX8_goBeside_18 ?_
  have hv_18 := hba (b - 97)
  refine lv_istore (lv' := [(4, .int (nI (ba (b - 97)))), (3, .int (nI (be (a - 97)))), (0, .ref mo), (1, .int (nI a)), (2, .int (nI b))]) hx hb dX8_goBeside_19 hl (by decide) rfl (fun ls hl => ?_)
  refine lv_aload_n hx hb dX8_goBeside_21 rfl (lv_at hl 2 rfl) ?_
  refine va_get (D := D) (ci := 8) (v := .ref mbe) (C := RX8) (T := TX8) (N := 19) hx hb hts i_X8 hown hK.1 hP 0 rfl rfl 6 (by decide) f_19 (fun _ h9 => h9) rfl dX8_goBeside_22 ?_
  refine lv_iload_n hx hb dX8_goBeside_25 rfl (lv_at hl 3 rfl) ?_
  refine lv_bipush (v := nI 97) hx hb dX8_goBeside_26 (by decide) ?_
  refine m_sub hx hb (by omega) dX8_goBeside_28 ?_
  refine lv_iload_n hx hb dX8_goBeside_29 rfl (lv_at hl 4 rfl) ?_
  refine m_ast hx hb hK hP hD hS 1 rfl (by decide) (by omega) dX8_goBeside_30 (ws' := [(mo, .inr (8, [.int (nI ps), .ref mpa, .int (nI nl), .int (nI nv), .ref msz, .ref mcd, .ref mbe, .ref mba, .int ol, .int (nI op), .int (nI os), .int (nI svn), .ref ms1, .ref ms2, .ref ms3, .ref ms4, .ref mfa, .ref mim, .ref mik])), (mbe, aN cI 26 (upN be (a - 97) b)), (mba, aN cI 26 ba)]) rfl (fun H locs hP hD hS => ?_)
  refine lv_aload_n hx hb dX8_goBeside_31 rfl (lv_at hl 2 rfl) ?_
  refine va_get (D := D) (ci := 8) (v := .ref mba) (C := RX8) (T := TX8) (N := 19) hx hb hts i_X8 hown hK.1 hP 0 rfl rfl 7 (by decide) f_22 (fun _ h9 => h9) rfl dX8_goBeside_32 ?_
  refine lv_iload_n hx hb dX8_goBeside_35 rfl (lv_at hl 4 rfl) ?_
  refine lv_bipush (v := nI 97) hx hb dX8_goBeside_36 (by decide) ?_
  refine m_sub hx hb (by omega) dX8_goBeside_38 ?_
  refine lv_iload_n hx hb dX8_goBeside_39 rfl (lv_at hl 3 rfl) ?_
  refine m_ast hx hb hK hP hD hS 2 rfl (by decide) (by omega) dX8_goBeside_40 (ws' := [(mo, .inr (8, [.int (nI ps), .ref mpa, .int (nI nl), .int (nI nv), .ref msz, .ref mcd, .ref mbe, .ref mba, .int ol, .int (nI op), .int (nI os), .int (nI svn), .ref ms1, .ref ms2, .ref ms3, .ref ms4, .ref mfa, .ref mim, .ref mik])), (mbe, aN cI 26 (upN be (a - 97) b)), (mba, aN cI 26 (upN ba (b - 97) a))]) rfl (fun H locs hP hD hS => ?_)
  refine lv_iload_n hx hb dX8_goBeside_41 rfl (lv_at hl 1 rfl) ?_
  refine m_if_eq (tgt := 50) hx hb dX8_goBeside_42 (by decide) (by omega) (fun c_42 => ?_) (fun c_42 => ?_)
  · refine lv_iload hx hb dX8_goBeside_50 (lv_at hl 0 rfl) ?_
    refine m_if_eq (tgt := 61) hx hb dX8_goBeside_52 (by decide) (by omega) (fun c_52 => ?_) (fun c_52 => ?_)
    · refine lv_iconst (v := nI 1) hx hb dX8_goBeside_61 (by decide) ?_
      refine lv_goto (tgt := 66) hx hb dX8_goBeside_62 (by decide) ?_
      rw [hQ]
      have K9 : okp L a b = true := (pmM_ok hpm ia ib).mpr ⟨by first | exact Or.inl c_42 | exact Or.inr c_47, by first | exact Or.inl c_52 | exact Or.inr c_58⟩
      exact m_zwr hx hb hr hlocks (upN be (a - 97) b, upN ba (b - 97) a) (nI_01 (by omega)) (⟨bb_one K9, fun _ => pmM_new hpm ia ib K9, upN_le hbe (by omega), upN_le hba (by omega)⟩) hP hS dX8_goBeside_66
    · refine lv_iload hx hb dX8_goBeside_55 (lv_at hl 0 rfl) ?_
      refine lv_iload_n hx hb dX8_goBeside_57 rfl (lv_at hl 3 rfl) ?_
      refine m_cmp_ne (tgt := 65) hx hb dX8_goBeside_58 (by decide) (by omega) (by omega) (fun c_58 => ?_) (fun c_58 => ?_)
      · refine lv_iconst (v := nI 0) hx hb dX8_goBeside_65 (by decide) ?_
        rw [hQ]
        have K9 : okp L a b = false := by
          rw [Bool.eq_false_iff]
          intro h
          have h9 := (pmM_ok hpm ia ib).mp h
          omega
        exact m_zwr hx hb hr hlocks (upN be (a - 97) b, upN ba (b - 97) a) (nI_01 (by omega)) (⟨bb_zero K9, fun h => by (rw [K9] at h; cases h), upN_le hbe (by omega), upN_le hba (by omega)⟩) hP hS dX8_goBeside_66
      · refine lv_iconst (v := nI 1) hx hb dX8_goBeside_61 (by decide) ?_
        refine lv_goto (tgt := 66) hx hb dX8_goBeside_62 (by decide) ?_
        rw [hQ]
        have K9 : okp L a b = true := (pmM_ok hpm ia ib).mpr ⟨by first | exact Or.inl c_42 | exact Or.inr c_47, by first | exact Or.inl c_52 | exact Or.inr c_58⟩
        exact m_zwr hx hb hr hlocks (upN be (a - 97) b, upN ba (b - 97) a) (nI_01 (by omega)) (⟨bb_one K9, fun _ => pmM_new hpm ia ib K9, upN_le hbe (by omega), upN_le hba (by omega)⟩) hP hS dX8_goBeside_66
  · refine lv_iload_n hx hb dX8_goBeside_45 rfl (lv_at hl 1 rfl) ?_
    refine lv_iload_n hx hb dX8_goBeside_46 rfl (lv_at hl 4 rfl) ?_
    refine m_cmp_ne (tgt := 65) hx hb dX8_goBeside_47 (by decide) (by omega) (by omega) (fun c_47 => ?_) (fun c_47 => ?_)
    · refine lv_iconst (v := nI 0) hx hb dX8_goBeside_65 (by decide) ?_
      rw [hQ]
      have K9 : okp L a b = false := by
        rw [Bool.eq_false_iff]
        intro h
        have h9 := (pmM_ok hpm ia ib).mp h
        omega
      exact m_zwr hx hb hr hlocks (upN be (a - 97) b, upN ba (b - 97) a) (nI_01 (by omega)) (⟨bb_zero K9, fun h => by (rw [K9] at h; cases h), upN_le hbe (by omega), upN_le hba (by omega)⟩) hP hS dX8_goBeside_66
    · refine lv_iload hx hb dX8_goBeside_50 (lv_at hl 0 rfl) ?_
      refine m_if_eq (tgt := 61) hx hb dX8_goBeside_52 (by decide) (by omega) (fun c_52 => ?_) (fun c_52 => ?_)
      · refine lv_iconst (v := nI 1) hx hb dX8_goBeside_61 (by decide) ?_
        refine lv_goto (tgt := 66) hx hb dX8_goBeside_62 (by decide) ?_
        rw [hQ]
        have K9 : okp L a b = true := (pmM_ok hpm ia ib).mpr ⟨by first | exact Or.inl c_42 | exact Or.inr c_47, by first | exact Or.inl c_52 | exact Or.inr c_58⟩
        exact m_zwr hx hb hr hlocks (upN be (a - 97) b, upN ba (b - 97) a) (nI_01 (by omega)) (⟨bb_one K9, fun _ => pmM_new hpm ia ib K9, upN_le hbe (by omega), upN_le hba (by omega)⟩) hP hS dX8_goBeside_66
      · refine lv_iload hx hb dX8_goBeside_55 (lv_at hl 0 rfl) ?_
        refine lv_iload_n hx hb dX8_goBeside_57 rfl (lv_at hl 3 rfl) ?_
        refine m_cmp_ne (tgt := 65) hx hb dX8_goBeside_58 (by decide) (by omega) (by omega) (fun c_58 => ?_) (fun c_58 => ?_)
        · refine lv_iconst (v := nI 0) hx hb dX8_goBeside_65 (by decide) ?_
          rw [hQ]
          have K9 : okp L a b = false := by
            rw [Bool.eq_false_iff]
            intro h
            have h9 := (pmM_ok hpm ia ib).mp h
            omega
          exact m_zwr hx hb hr hlocks (upN be (a - 97) b, upN ba (b - 97) a) (nI_01 (by omega)) (⟨bb_zero K9, fun h => by (rw [K9] at h; cases h), upN_le hbe (by omega), upN_le hba (by omega)⟩) hP hS dX8_goBeside_66
        · refine lv_iconst (v := nI 1) hx hb dX8_goBeside_61 (by decide) ?_
          refine lv_goto (tgt := 66) hx hb dX8_goBeside_62 (by decide) ?_
          rw [hQ]
          have K9 : okp L a b = true := (pmM_ok hpm ia ib).mpr ⟨by first | exact Or.inl c_42 | exact Or.inr c_47, by first | exact Or.inl c_52 | exact Or.inr c_58⟩
          exact m_zwr hx hb hr hlocks (upN be (a - 97) b, upN ba (b - 97) a) (nI_01 (by omega)) (⟨bb_one K9, fun _ => pmM_new hpm ia ib K9, upN_le hbe (by omega), upN_le hba (by omega)⟩) hP hS dX8_goBeside_66

theorem yd_X8_areAlike : yX8_areAlike.cls = RX8 ∧ yX8_areAlike.cls ≠ "java/lang/invoke/MethodHandle" ∧ yX8_areAlike.cls ≠ "java/lang/invoke/VarHandle" ∧ (parseMethodDescriptor yX8_areAlike.desc).map (fun d => d.parameters.length) = some 3 := by decide +kernel
set_option maxHeartbeats 4000000 in
set_option maxRecDepth 100000 in
theorem k_X8_areAlike (l : Launch) (D : va_G) (cI cZ : ClassId) (mo ps mpa nl nv msz mcd mbe mba : Nat) (ol : Int32) (op os svn ms1 ms2 ms3 ms4 mfa mim mik : Nat) (be ba : Nat → Nat) (L : List (Nat × Nat)) (way a b : Nat) (hpm : pmM be ba L) (hw : way ≤ 2) (ha : a ≤ 126) (hb2 : b ≤ 126) (hbe : ∀ j, be j ≤ 126) (hba : ∀ j, ba j ≤ 126) : Met l yX8_areAlike wsX8_areAlike ({ frames := 2, cells := 0, slots := 0, locals := 42 }) (mPc [.ref mo, .int (nI way), .int (nI a), .int (nI b)] D cI cZ [(mo, .inr (8, [.int (nI ps), .ref mpa, .int (nI nl), .int (nI nv), .ref msz, .ref mcd, .ref mbe, .ref mba, .int ol, .int (nI op), .int (nI os), .int (nI svn), .ref ms1, .ref ms2, .ref ms3, .ref ms4, .ref mfa, .ref mim, .ref mik])), (mbe, aN cI 26 be), (mba, aN cI 26 ba)]) (mQi D (mA [(mo, .inr (8, [.int (nI ps), .ref mpa, .int (nI nl), .int (nI nv), .ref msz, .ref mcd, .ref mbe, .ref mba, .int ol, .int (nI op), .int (nI os), .int (nI svn), .ref ms1, .ref ms2, .ref ms3, .ref ms4, .ref mfa, .ref mim, .ref mik])), (mbe, aN cI 26 be), (mba, aN cI 26 ba)]) (fun (r : Int32) (u : (Nat → Nat) × (Nat → Nat)) => r = bI ((stX way L a b).1) ∧ ((stX way L a b).1 = true → pmM u.1 u.2 (stX way L a b).2) ∧ (∀ j, u.1 j ≤ 126) ∧ (∀ j, u.2 j ≤ 126)) (fun (u : (Nat → Nat) × (Nat → Nat)) => [(mo, .inr (8, [.int (nI ps), .ref mpa, .int (nI nl), .int (nI nv), .ref msz, .ref mcd, .ref mbe, .ref mba, .int ol, .int (nI op), .int (nI os), .int (nI svn), .ref ms1, .ref ms2, .ref ms3, .ref ms4, .ref mfa, .ref mim, .ref mik])), (mbe, aN cI 26 u.1), (mba, aN cI 26 u.2)])) 0 0 (mA [(mo, .inr (8, [.int (nI ps), .ref mpa, .int (nI nl), .int (nI nv), .ref msz, .ref mcd, .ref mbe, .ref mba, .int ol, .int (nI op), .int (nI os), .int (nI svn), .ref ms1, .ref ms2, .ref ms3, .ref ms4, .ref mfa, .ref mim, .ref mik])), (mbe, aN cI 26 be), (mba, aN cI 26 ba)]) := by
  refine Met.ofW (cc := cX8_areAlike) (maxL := 4) (ret := (some .boolean)) (by decide) rfl ?_
  intro p e s m args below meth c s₁ BB hml hv
  obtain ⟨hargs, hP, hD0, hK⟩ := hv
  have hx := BB.exec
  have hb := BB.bytes
  have hr := BB.returns
  have hts := atoms_spec (ws := wsX8_areAlike) BB.pre
  have hown : s.vm.findClass RX8 = some m.cls := findClass_of_methodNamed BB.named
  have hlocks := BB.notSynchronized
  have hcf : CallFix p m c cX8_areAlike 4 s args wsX8_areAlike RX8 := ⟨hx, hb, hml, hown, hts⟩
  obtain ⟨A, hAe⟩ : ∃ A, A = mA [(mo, .inr (8, [.int (nI ps), .ref mpa, .int (nI nl), .int (nI nv), .ref msz, .ref mcd, .ref mbe, .ref mba, .int ol, .int (nI op), .int (nI os), .int (nI svn), .ref ms1, .ref ms2, .ref ms3, .ref ms4, .ref mfa, .ref mim, .ref mik])), (mbe, aN cI 26 be), (mba, aN cI 26 ba)] := ⟨_, rfl⟩
  have hD : va_D A [(mo, .inr (8, [.int (nI ps), .ref mpa, .int (nI nl), .int (nI nv), .ref msz, .ref mcd, .ref mbe, .ref mba, .int ol, .int (nI op), .int (nI os), .int (nI svn), .ref ms1, .ref ms2, .ref ms3, .ref ms4, .ref mfa, .ref mim, .ref mik])), (mbe, aN cI 26 be), (mba, aN cI 26 ba)] := ⟨hD0.1, fun k q h => by rw [hAe]; exact ⟨k, q.2, h⟩⟩
  have hS : va_S A s.heap s.heap [] := va_S.rf
  rw [← hAe]
  rw [hargs, lg_entry_eq, ← hargs]
  have hl := lv_entry ([.ref mo, .int (nI way), .int (nI a), .int (nI b)]) (n := 4) (Nat.le_of_ble_eq_true rfl)
  generalize (lg_sl ([.ref mo, .int (nI way), .int (nI a), .int (nI b)]) ++ List.replicate (4 - (lg_sl ([.ref mo, .int (nI way), .int (nI a), .int (nI b)])).length) Slot.unset).toArray = ls at hl ⊢
  have hl : lv_has ls 4 [(0, .ref mo), (1, .int (nI way)), (2, .int (nI a)), (3, .int (nI b))] := hl
  obtain ⟨Q, hQ⟩ : ∃ Q, Q = MQ below (mQi D A (fun (r : Int32) (u : (Nat → Nat) × (Nat → Nat)) => r = bI ((stX way L a b).1) ∧ ((stX way L a b).1 = true → pmM u.1 u.2 (stX way L a b).2) ∧ (∀ j, u.1 j ≤ 126) ∧ (∀ j, u.2 j ≤ 126)) (fun (u : (Nat → Nat) × (Nat → Nat)) => [(mo, .inr (8, [.int (nI ps), .ref mpa, .int (nI nl), .int (nI nv), .ref msz, .ref mcd, .ref mbe, .ref mba, .int ol, .int (nI op), .int (nI os), .int (nI svn), .ref ms1, .ref ms2, .ref ms3, .ref ms4, .ref mfa, .ref mim, .ref mik])), (mbe, aN cI 26 u.1), (mba, aN cI 26 u.2)])) args s 0 0 A := ⟨_, rfl⟩
  rw [← hQ]
  refine lv_iload_n hx hb dX8_areAlike_0 rfl (lv_at hl 2 rfl) ?_
  refine lv_iload_n hx hb dX8_areAlike_1 rfl (lv_at hl 3 rfl) ?_
  refine m_cmp_ne (tgt := 18) hx hb dX8_areAlike_2 (by decide) (by omega) (by omega) (fun c_2 => ?_) (fun c_2 => ?_)
  · refine lv_iload_n hx hb dX8_areAlike_18 rfl (lv_at hl 1 rfl) ?_
    refine m_if_le (tgt := 43) hx hb dX8_areAlike_19 (by decide) (by omega) (fun c_19 => ?_) (fun c_19 => ?_)
    · refine lv_iload_n hx hb dX8_areAlike_43 rfl (lv_at hl 1 rfl) ?_
      refine lv_iconst (v := nI 2) hx hb dX8_areAlike_44 (by decide) ?_
      refine m_cmp_ne (tgt := 66) hx hb dX8_areAlike_45 (by decide) (by omega) (by omega) (fun c_45 => ?_) (fun c_45 => ?_)
      · refine lv_iconst (v := nI 0) hx hb dX8_areAlike_66 (by decide) ?_
        rw [hQ]
        have E9 : (stX way L a b).1 = false := stX_no (by first | exact Or.inl c_2 | exact Or.inr ⟨c_6, c_13⟩) (by first | exact Or.inl c_19 | exact Or.inr (Or.inl c_26) | exact Or.inr (Or.inr c_33)) (by first | exact Or.inl c_45 | exact Or.inr (Or.inl c_52) | exact Or.inr (Or.inr c_59))
        exact m_zwr hx hb hr hlocks (be, ba) (nI_01 (by omega)) (⟨by rw [E9]; rfl, fun h => by (rw [E9] at h; cases h), hbe, hba⟩) hP hS dX8_areAlike_67
      · refine lv_iload_n hx hb dX8_areAlike_48 rfl (lv_at hl 2 rfl) ?_
        refine m_rdS (As := [.int (nI a)]) (rest := []) (wc := []) hcf (k_X8_isNumber (l := l) (D := D) (cI := cI) (cZ := cZ) (a := a) (ha := by omega)) (va_cwS 1 hts gX8_areAlike_X8_isNumber rfl rfl rfl yd_X8_isNumber.2 ⟨Nat.le_of_ble_eq_true rfl, Nat.le_of_ble_eq_true rfl⟩) (m_preS hK hP hD [] (by decide) rfl) rfl hl.1 rfl (Nat.le_of_ble_eq_true rfl) dX8_areAlike_49 ⟨Nat.zero_le _, Nat.zero_le _⟩ ?_
        refine m_ifB_eq (tgt := 66) hx hb dX8_areAlike_52 (by decide) (fun c_52 => ?_) (fun c_52 => ?_)
        · refine lv_iconst (v := nI 0) hx hb dX8_areAlike_66 (by decide) ?_
          rw [hQ]
          have E9 : (stX way L a b).1 = false := stX_no (by first | exact Or.inl c_2 | exact Or.inr ⟨c_6, c_13⟩) (by first | exact Or.inl c_19 | exact Or.inr (Or.inl c_26) | exact Or.inr (Or.inr c_33)) (by first | exact Or.inl c_45 | exact Or.inr (Or.inl c_52) | exact Or.inr (Or.inr c_59))
          exact m_zwr hx hb hr hlocks (be, ba) (nI_01 (by omega)) (⟨by rw [E9]; rfl, fun h => by (rw [E9] at h; cases h), hbe, hba⟩) hP hS dX8_areAlike_67
        · refine lv_iload_n hx hb dX8_areAlike_55 rfl (lv_at hl 3 rfl) ?_
          refine m_rdS (As := [.int (nI b)]) (rest := []) (wc := []) hcf (k_X8_isNumber (l := l) (D := D) (cI := cI) (cZ := cZ) (a := b) (ha := by omega)) (va_cwS 1 hts gX8_areAlike_X8_isNumber rfl rfl rfl yd_X8_isNumber.2 ⟨Nat.le_of_ble_eq_true rfl, Nat.le_of_ble_eq_true rfl⟩) (m_preS hK hP hD [] (by decide) rfl) rfl hl.1 rfl (Nat.le_of_ble_eq_true rfl) dX8_areAlike_56 ⟨Nat.zero_le _, Nat.zero_le _⟩ ?_
          refine m_ifB_eq (tgt := 66) hx hb dX8_areAlike_59 (by decide) (fun c_59 => ?_) (fun c_59 => ?_)
          · refine lv_iconst (v := nI 0) hx hb dX8_areAlike_66 (by decide) ?_
            rw [hQ]
            have E9 : (stX way L a b).1 = false := stX_no (by first | exact Or.inl c_2 | exact Or.inr ⟨c_6, c_13⟩) (by first | exact Or.inl c_19 | exact Or.inr (Or.inl c_26) | exact Or.inr (Or.inr c_33)) (by first | exact Or.inl c_45 | exact Or.inr (Or.inl c_52) | exact Or.inr (Or.inr c_59))
            exact m_zwr hx hb hr hlocks (be, ba) (nI_01 (by omega)) (⟨by rw [E9]; rfl, fun h => by (rw [E9] at h; cases h), hbe, hba⟩) hP hS dX8_areAlike_67
          · refine lv_iconst (v := nI 1) hx hb dX8_areAlike_62 (by decide) ?_
            refine lv_goto (tgt := 67) hx hb dX8_areAlike_63 (by decide) ?_
            rw [hQ]
            have E9 : stX way L a b = (true, L) := by rw [stX_2 (nu_nm c_52) c_45 c_52, c_59]
            exact m_zwr hx hb hr hlocks (be, ba) (nI_01 (by omega)) (⟨by rw [E9]; rfl, fun _ => by rw [E9]; exact hpm, hbe, hba⟩) hP hS dX8_areAlike_67
    · refine lv_iload_n hx hb dX8_areAlike_22 rfl (lv_at hl 2 rfl) ?_
      refine m_rdS (As := [.int (nI a)]) (rest := []) (wc := []) hcf (k_X8_isName (l := l) (D := D) (cI := cI) (cZ := cZ) (a := a) (ha := by omega)) (va_cwS 1 hts gX8_areAlike_X8_isName rfl rfl rfl yd_X8_isName.2 ⟨Nat.le_of_ble_eq_true rfl, Nat.le_of_ble_eq_true rfl⟩) (m_preS hK hP hD [] (by decide) rfl) rfl hl.1 rfl (Nat.le_of_ble_eq_true rfl) dX8_areAlike_23 ⟨Nat.zero_le _, Nat.zero_le _⟩ ?_
      refine m_ifB_eq (tgt := 43) hx hb dX8_areAlike_26 (by decide) (fun c_26 => ?_) (fun c_26 => ?_)
      · refine lv_iload_n hx hb dX8_areAlike_43 rfl (lv_at hl 1 rfl) ?_
        refine lv_iconst (v := nI 2) hx hb dX8_areAlike_44 (by decide) ?_
        refine m_cmp_ne (tgt := 66) hx hb dX8_areAlike_45 (by decide) (by omega) (by omega) (fun c_45 => ?_) (fun c_45 => ?_)
        · refine lv_iconst (v := nI 0) hx hb dX8_areAlike_66 (by decide) ?_
          rw [hQ]
          have E9 : (stX way L a b).1 = false := stX_no (by first | exact Or.inl c_2 | exact Or.inr ⟨c_6, c_13⟩) (by first | exact Or.inl c_19 | exact Or.inr (Or.inl c_26) | exact Or.inr (Or.inr c_33)) (by first | exact Or.inl c_45 | exact Or.inr (Or.inl c_52) | exact Or.inr (Or.inr c_59))
          exact m_zwr hx hb hr hlocks (be, ba) (nI_01 (by omega)) (⟨by rw [E9]; rfl, fun h => by (rw [E9] at h; cases h), hbe, hba⟩) hP hS dX8_areAlike_67
        · refine lv_iload_n hx hb dX8_areAlike_48 rfl (lv_at hl 2 rfl) ?_
          refine m_rdS (As := [.int (nI a)]) (rest := []) (wc := []) hcf (k_X8_isNumber (l := l) (D := D) (cI := cI) (cZ := cZ) (a := a) (ha := by omega)) (va_cwS 1 hts gX8_areAlike_X8_isNumber rfl rfl rfl yd_X8_isNumber.2 ⟨Nat.le_of_ble_eq_true rfl, Nat.le_of_ble_eq_true rfl⟩) (m_preS hK hP hD [] (by decide) rfl) rfl hl.1 rfl (Nat.le_of_ble_eq_true rfl) dX8_areAlike_49 ⟨Nat.zero_le _, Nat.zero_le _⟩ ?_
          refine m_ifB_eq (tgt := 66) hx hb dX8_areAlike_52 (by decide) (fun c_52 => ?_) (fun c_52 => ?_)
          · refine lv_iconst (v := nI 0) hx hb dX8_areAlike_66 (by decide) ?_
            rw [hQ]
            have E9 : (stX way L a b).1 = false := stX_no (by first | exact Or.inl c_2 | exact Or.inr ⟨c_6, c_13⟩) (by first | exact Or.inl c_19 | exact Or.inr (Or.inl c_26) | exact Or.inr (Or.inr c_33)) (by first | exact Or.inl c_45 | exact Or.inr (Or.inl c_52) | exact Or.inr (Or.inr c_59))
            exact m_zwr hx hb hr hlocks (be, ba) (nI_01 (by omega)) (⟨by rw [E9]; rfl, fun h => by (rw [E9] at h; cases h), hbe, hba⟩) hP hS dX8_areAlike_67
          · refine lv_iload_n hx hb dX8_areAlike_55 rfl (lv_at hl 3 rfl) ?_
            refine m_rdS (As := [.int (nI b)]) (rest := []) (wc := []) hcf (k_X8_isNumber (l := l) (D := D) (cI := cI) (cZ := cZ) (a := b) (ha := by omega)) (va_cwS 1 hts gX8_areAlike_X8_isNumber rfl rfl rfl yd_X8_isNumber.2 ⟨Nat.le_of_ble_eq_true rfl, Nat.le_of_ble_eq_true rfl⟩) (m_preS hK hP hD [] (by decide) rfl) rfl hl.1 rfl (Nat.le_of_ble_eq_true rfl) dX8_areAlike_56 ⟨Nat.zero_le _, Nat.zero_le _⟩ ?_
            refine m_ifB_eq (tgt := 66) hx hb dX8_areAlike_59 (by decide) (fun c_59 => ?_) (fun c_59 => ?_)
            · refine lv_iconst (v := nI 0) hx hb dX8_areAlike_66 (by decide) ?_
              rw [hQ]
              have E9 : (stX way L a b).1 = false := stX_no (by first | exact Or.inl c_2 | exact Or.inr ⟨c_6, c_13⟩) (by first | exact Or.inl c_19 | exact Or.inr (Or.inl c_26) | exact Or.inr (Or.inr c_33)) (by first | exact Or.inl c_45 | exact Or.inr (Or.inl c_52) | exact Or.inr (Or.inr c_59))
              exact m_zwr hx hb hr hlocks (be, ba) (nI_01 (by omega)) (⟨by rw [E9]; rfl, fun h => by (rw [E9] at h; cases h), hbe, hba⟩) hP hS dX8_areAlike_67
            · refine lv_iconst (v := nI 1) hx hb dX8_areAlike_62 (by decide) ?_
              refine lv_goto (tgt := 67) hx hb dX8_areAlike_63 (by decide) ?_
              rw [hQ]
              have E9 : stX way L a b = (true, L) := by rw [stX_2 (nu_nm c_52) c_45 c_52, c_59]
              exact m_zwr hx hb hr hlocks (be, ba) (nI_01 (by omega)) (⟨by rw [E9]; rfl, fun _ => by rw [E9]; exact hpm, hbe, hba⟩) hP hS dX8_areAlike_67
      · refine lv_iload_n hx hb dX8_areAlike_29 rfl (lv_at hl 3 rfl) ?_
        refine m_rdS (As := [.int (nI b)]) (rest := []) (wc := []) hcf (k_X8_isName (l := l) (D := D) (cI := cI) (cZ := cZ) (a := b) (ha := by omega)) (va_cwS 1 hts gX8_areAlike_X8_isName rfl rfl rfl yd_X8_isName.2 ⟨Nat.le_of_ble_eq_true rfl, Nat.le_of_ble_eq_true rfl⟩) (m_preS hK hP hD [] (by decide) rfl) rfl hl.1 rfl (Nat.le_of_ble_eq_true rfl) dX8_areAlike_30 ⟨Nat.zero_le _, Nat.zero_le _⟩ ?_
        refine m_ifB_eq (tgt := 43) hx hb dX8_areAlike_33 (by decide) (fun c_33 => ?_) (fun c_33 => ?_)
        · refine lv_iload_n hx hb dX8_areAlike_43 rfl (lv_at hl 1 rfl) ?_
          refine lv_iconst (v := nI 2) hx hb dX8_areAlike_44 (by decide) ?_
          refine m_cmp_ne (tgt := 66) hx hb dX8_areAlike_45 (by decide) (by omega) (by omega) (fun c_45 => ?_) (fun c_45 => ?_)
          · refine lv_iconst (v := nI 0) hx hb dX8_areAlike_66 (by decide) ?_
            rw [hQ]
            have E9 : (stX way L a b).1 = false := stX_no (by first | exact Or.inl c_2 | exact Or.inr ⟨c_6, c_13⟩) (by first | exact Or.inl c_19 | exact Or.inr (Or.inl c_26) | exact Or.inr (Or.inr c_33)) (by first | exact Or.inl c_45 | exact Or.inr (Or.inl c_52) | exact Or.inr (Or.inr c_59))
            exact m_zwr hx hb hr hlocks (be, ba) (nI_01 (by omega)) (⟨by rw [E9]; rfl, fun h => by (rw [E9] at h; cases h), hbe, hba⟩) hP hS dX8_areAlike_67
          · refine lv_iload_n hx hb dX8_areAlike_48 rfl (lv_at hl 2 rfl) ?_
            refine m_rdS (As := [.int (nI a)]) (rest := []) (wc := []) hcf (k_X8_isNumber (l := l) (D := D) (cI := cI) (cZ := cZ) (a := a) (ha := by omega)) (va_cwS 1 hts gX8_areAlike_X8_isNumber rfl rfl rfl yd_X8_isNumber.2 ⟨Nat.le_of_ble_eq_true rfl, Nat.le_of_ble_eq_true rfl⟩) (m_preS hK hP hD [] (by decide) rfl) rfl hl.1 rfl (Nat.le_of_ble_eq_true rfl) dX8_areAlike_49 ⟨Nat.zero_le _, Nat.zero_le _⟩ ?_
            refine m_ifB_eq (tgt := 66) hx hb dX8_areAlike_52 (by decide) (fun c_52 => ?_) (fun c_52 => ?_)
            · refine lv_iconst (v := nI 0) hx hb dX8_areAlike_66 (by decide) ?_
              rw [hQ]
              have E9 : (stX way L a b).1 = false := stX_no (by first | exact Or.inl c_2 | exact Or.inr ⟨c_6, c_13⟩) (by first | exact Or.inl c_19 | exact Or.inr (Or.inl c_26) | exact Or.inr (Or.inr c_33)) (by first | exact Or.inl c_45 | exact Or.inr (Or.inl c_52) | exact Or.inr (Or.inr c_59))
              exact m_zwr hx hb hr hlocks (be, ba) (nI_01 (by omega)) (⟨by rw [E9]; rfl, fun h => by (rw [E9] at h; cases h), hbe, hba⟩) hP hS dX8_areAlike_67
            · refine lv_iload_n hx hb dX8_areAlike_55 rfl (lv_at hl 3 rfl) ?_
              refine m_rdS (As := [.int (nI b)]) (rest := []) (wc := []) hcf (k_X8_isNumber (l := l) (D := D) (cI := cI) (cZ := cZ) (a := b) (ha := by omega)) (va_cwS 1 hts gX8_areAlike_X8_isNumber rfl rfl rfl yd_X8_isNumber.2 ⟨Nat.le_of_ble_eq_true rfl, Nat.le_of_ble_eq_true rfl⟩) (m_preS hK hP hD [] (by decide) rfl) rfl hl.1 rfl (Nat.le_of_ble_eq_true rfl) dX8_areAlike_56 ⟨Nat.zero_le _, Nat.zero_le _⟩ ?_
              refine m_ifB_eq (tgt := 66) hx hb dX8_areAlike_59 (by decide) (fun c_59 => ?_) (fun c_59 => ?_)
              · refine lv_iconst (v := nI 0) hx hb dX8_areAlike_66 (by decide) ?_
                rw [hQ]
                have E9 : (stX way L a b).1 = false := stX_no (by first | exact Or.inl c_2 | exact Or.inr ⟨c_6, c_13⟩) (by first | exact Or.inl c_19 | exact Or.inr (Or.inl c_26) | exact Or.inr (Or.inr c_33)) (by first | exact Or.inl c_45 | exact Or.inr (Or.inl c_52) | exact Or.inr (Or.inr c_59))
                exact m_zwr hx hb hr hlocks (be, ba) (nI_01 (by omega)) (⟨by rw [E9]; rfl, fun h => by (rw [E9] at h; cases h), hbe, hba⟩) hP hS dX8_areAlike_67
              · refine lv_iconst (v := nI 1) hx hb dX8_areAlike_62 (by decide) ?_
                refine lv_goto (tgt := 67) hx hb dX8_areAlike_63 (by decide) ?_
                rw [hQ]
                have E9 : stX way L a b = (true, L) := by rw [stX_2 (nu_nm c_52) c_45 c_52, c_59]
                exact m_zwr hx hb hr hlocks (be, ba) (nI_01 (by omega)) (⟨by rw [E9]; rfl, fun _ => by rw [E9]; exact hpm, hbe, hba⟩) hP hS dX8_areAlike_67
        · refine lv_aload_n hx hb dX8_areAlike_36 rfl (lv_at hl 0 rfl) ?_
          refine lv_iload_n hx hb dX8_areAlike_37 rfl (lv_at hl 2 rfl) ?_
          refine lv_iload_n hx hb dX8_areAlike_38 rfl (lv_at hl 3 rfl) ?_
          refine m_wrV (As := [.int (nI a), .int (nI b)]) (rest := []) (wc := [(mo, .inr (8, [.int (nI ps), .ref mpa, .int (nI nl), .int (nI nv), .ref msz, .ref mcd, .ref mbe, .ref mba, .int ol, .int (nI op), .int (nI os), .int (nI svn), .ref ms1, .ref ms2, .ref ms3, .ref ms4, .ref mfa, .ref mim, .ref mik])), (mbe, aN cI 26 be), (mba, aN cI 26 ba)]) hcf (k_X8_goBeside (l := l) (D := D) (cI := cI) (cZ := cZ) (a := a) (b := b) (mo := mo) (ps := ps) (mpa := mpa) (nl := nl) (nv := nv) (msz := msz) (mcd := mcd) (mbe := mbe) (mba := mba) (ol := ol) (op := op) (os := os) (svn := svn) (ms1 := ms1) (ms2 := ms2) (ms3 := ms3) (ms4 := ms4) (mfa := mfa) (mim := mim) (mik := mik) (be := be) (ba := ba) (L := L) (hpm := hpm) (hna := by omega) (hnb := by omega) (hbe := hbe) (hba := hba)) (cwV 2 hts gX8_areAlike_X8_goBeside rfl rfl rfl yd_X8_goBeside ⟨Nat.le_of_ble_eq_true rfl, Nat.le_of_ble_eq_true rfl⟩) hK hP hD hS [0, 1, 2] (by decide) rfl rfl rfl rfl hl.1 rfl (Nat.le_of_ble_eq_true rfl) dX8_areAlike_39 ⟨Nat.zero_le _, Nat.zero_le _⟩ (fun _ => rfl) (fun (u : (Nat → Nat) × (Nat → Nat)) => [(mo, .inr (8, [.int (nI ps), .ref mpa, .int (nI nl), .int (nI nv), .ref msz, .ref mcd, .ref mbe, .ref mba, .int ol, .int (nI op), .int (nI os), .int (nI svn), .ref ms1, .ref ms2, .ref ms3, .ref ms4, .ref mfa, .ref mim, .ref mik])), (mbe, aN cI 26 u.1), (mba, aN cI 26 u.2)]) (fun _ => rfl) (fun r u H locs hp_39 hP hD hS => ?_)
          obtain ⟨beu_39, bau_39⟩ := u
          have hP : va_P D vwCl [(mo, .inr (8, [.int (nI ps), .ref mpa, .int (nI nl), .int (nI nv), .ref msz, .ref mcd, .ref mbe, .ref mba, .int ol, .int (nI op), .int (nI os), .int (nI svn), .ref ms1, .ref ms2, .ref ms3, .ref ms4, .ref mfa, .ref mim, .ref mik])), (mbe, aN cI 26 beu_39), (mba, aN cI 26 bau_39)] H := hP
          have hD : va_D A [(mo, .inr (8, [.int (nI ps), .ref mpa, .int (nI nl), .int (nI nv), .ref msz, .ref mcd, .ref mbe, .ref mba, .int ol, .int (nI op), .int (nI os), .int (nI svn), .ref ms1, .ref ms2, .ref ms3, .ref ms4, .ref mfa, .ref mim, .ref mik])), (mbe, aN cI 26 beu_39), (mba, aN cI 26 bau_39)] := hD
          try dsimp only at hp_39
          obtain ⟨hr_hp_39, hp_39⟩ := hp_39
          rw [hr_hp_39]
          rw [hQ]
          have E9 : stX way L a b = (jnB L a b, jnL L a b) := stX_1 (by omega) c_26
          have E8 : jnB L a b = okp L a b := by unfold jnB; rw [c_26, c_33]; rfl
          exact m_zwr hx hb hr hlocks (beu_39, bau_39) (bI_01 _) (⟨by rw [E9, E8], fun h => by rw [E9] at h ⊢; rw [jnL_t h]; rw [E8] at h; exact hp_39.1 h, hp_39.2.1, hp_39.2.2⟩) hP hS dX8_areAlike_42
  · refine lv_iload_n hx hb dX8_areAlike_5 rfl (lv_at hl 1 rfl) ?_
    refine m_if_eq (tgt := 16) hx hb dX8_areAlike_6 (by decide) (by omega) (fun c_6 => ?_) (fun c_6 => ?_)
    · refine lv_iconst (v := nI 1) hx hb dX8_areAlike_16 (by decide) ?_
      rw [hQ]
      have E9 : stX way L a b = (true, L) := stX_eq c_2 (by first | exact Or.inl c_6 | exact Or.inr c_13)
      exact m_zwr hx hb hr hlocks (be, ba) (nI_01 (by omega)) (⟨by rw [E9]; rfl, fun _ => by rw [E9]; exact hpm, hbe, hba⟩) hP hS dX8_areAlike_17
    · refine lv_iload_n hx hb dX8_areAlike_9 rfl (lv_at hl 2 rfl) ?_
      refine m_rdS (As := [.int (nI a)]) (rest := []) (wc := []) hcf (k_X8_isName (l := l) (D := D) (cI := cI) (cZ := cZ) (a := a) (ha := by omega)) (va_cwS 1 hts gX8_areAlike_X8_isName rfl rfl rfl yd_X8_isName.2 ⟨Nat.le_of_ble_eq_true rfl, Nat.le_of_ble_eq_true rfl⟩) (m_preS hK hP hD [] (by decide) rfl) rfl hl.1 rfl (Nat.le_of_ble_eq_true rfl) dX8_areAlike_10 ⟨Nat.zero_le _, Nat.zero_le _⟩ ?_
      refine m_ifB_ne (tgt := 18) hx hb dX8_areAlike_13 (by decide) (fun c_13 => ?_) (fun c_13 => ?_)
      · refine lv_iload_n hx hb dX8_areAlike_18 rfl (lv_at hl 1 rfl) ?_
        refine m_if_le (tgt := 43) hx hb dX8_areAlike_19 (by decide) (by omega) (fun c_19 => ?_) (fun c_19 => ?_)
        · refine lv_iload_n hx hb dX8_areAlike_43 rfl (lv_at hl 1 rfl) ?_
          refine lv_iconst (v := nI 2) hx hb dX8_areAlike_44 (by decide) ?_
          refine m_cmp_ne (tgt := 66) hx hb dX8_areAlike_45 (by decide) (by omega) (by omega) (fun c_45 => ?_) (fun c_45 => ?_)
          · refine lv_iconst (v := nI 0) hx hb dX8_areAlike_66 (by decide) ?_
            rw [hQ]
            have E9 : (stX way L a b).1 = false := stX_no (by first | exact Or.inl c_2 | exact Or.inr ⟨c_6, c_13⟩) (by first | exact Or.inl c_19 | exact Or.inr (Or.inl c_26) | exact Or.inr (Or.inr c_33)) (by first | exact Or.inl c_45 | exact Or.inr (Or.inl c_52) | exact Or.inr (Or.inr c_59))
            exact m_zwr hx hb hr hlocks (be, ba) (nI_01 (by omega)) (⟨by rw [E9]; rfl, fun h => by (rw [E9] at h; cases h), hbe, hba⟩) hP hS dX8_areAlike_67
          · refine lv_iload_n hx hb dX8_areAlike_48 rfl (lv_at hl 2 rfl) ?_
            refine m_rdS (As := [.int (nI a)]) (rest := []) (wc := []) hcf (k_X8_isNumber (l := l) (D := D) (cI := cI) (cZ := cZ) (a := a) (ha := by omega)) (va_cwS 1 hts gX8_areAlike_X8_isNumber rfl rfl rfl yd_X8_isNumber.2 ⟨Nat.le_of_ble_eq_true rfl, Nat.le_of_ble_eq_true rfl⟩) (m_preS hK hP hD [] (by decide) rfl) rfl hl.1 rfl (Nat.le_of_ble_eq_true rfl) dX8_areAlike_49 ⟨Nat.zero_le _, Nat.zero_le _⟩ ?_
            refine m_ifB_eq (tgt := 66) hx hb dX8_areAlike_52 (by decide) (fun c_52 => ?_) (fun c_52 => ?_)
            · refine lv_iconst (v := nI 0) hx hb dX8_areAlike_66 (by decide) ?_
              rw [hQ]
              have E9 : (stX way L a b).1 = false := stX_no (by first | exact Or.inl c_2 | exact Or.inr ⟨c_6, c_13⟩) (by first | exact Or.inl c_19 | exact Or.inr (Or.inl c_26) | exact Or.inr (Or.inr c_33)) (by first | exact Or.inl c_45 | exact Or.inr (Or.inl c_52) | exact Or.inr (Or.inr c_59))
              exact m_zwr hx hb hr hlocks (be, ba) (nI_01 (by omega)) (⟨by rw [E9]; rfl, fun h => by (rw [E9] at h; cases h), hbe, hba⟩) hP hS dX8_areAlike_67
            · refine lv_iload_n hx hb dX8_areAlike_55 rfl (lv_at hl 3 rfl) ?_
              refine m_rdS (As := [.int (nI b)]) (rest := []) (wc := []) hcf (k_X8_isNumber (l := l) (D := D) (cI := cI) (cZ := cZ) (a := b) (ha := by omega)) (va_cwS 1 hts gX8_areAlike_X8_isNumber rfl rfl rfl yd_X8_isNumber.2 ⟨Nat.le_of_ble_eq_true rfl, Nat.le_of_ble_eq_true rfl⟩) (m_preS hK hP hD [] (by decide) rfl) rfl hl.1 rfl (Nat.le_of_ble_eq_true rfl) dX8_areAlike_56 ⟨Nat.zero_le _, Nat.zero_le _⟩ ?_
              refine m_ifB_eq (tgt := 66) hx hb dX8_areAlike_59 (by decide) (fun c_59 => ?_) (fun c_59 => ?_)
              · refine lv_iconst (v := nI 0) hx hb dX8_areAlike_66 (by decide) ?_
                rw [hQ]
                have E9 : (stX way L a b).1 = false := stX_no (by first | exact Or.inl c_2 | exact Or.inr ⟨c_6, c_13⟩) (by first | exact Or.inl c_19 | exact Or.inr (Or.inl c_26) | exact Or.inr (Or.inr c_33)) (by first | exact Or.inl c_45 | exact Or.inr (Or.inl c_52) | exact Or.inr (Or.inr c_59))
                exact m_zwr hx hb hr hlocks (be, ba) (nI_01 (by omega)) (⟨by rw [E9]; rfl, fun h => by (rw [E9] at h; cases h), hbe, hba⟩) hP hS dX8_areAlike_67
              · refine lv_iconst (v := nI 1) hx hb dX8_areAlike_62 (by decide) ?_
                refine lv_goto (tgt := 67) hx hb dX8_areAlike_63 (by decide) ?_
                rw [hQ]
                have E9 : stX way L a b = (true, L) := by rw [stX_2 (nu_nm c_52) c_45 c_52, c_59]
                exact m_zwr hx hb hr hlocks (be, ba) (nI_01 (by omega)) (⟨by rw [E9]; rfl, fun _ => by rw [E9]; exact hpm, hbe, hba⟩) hP hS dX8_areAlike_67
        · refine lv_iload_n hx hb dX8_areAlike_22 rfl (lv_at hl 2 rfl) ?_
          refine m_rdS (As := [.int (nI a)]) (rest := []) (wc := []) hcf (k_X8_isName (l := l) (D := D) (cI := cI) (cZ := cZ) (a := a) (ha := by omega)) (va_cwS 1 hts gX8_areAlike_X8_isName rfl rfl rfl yd_X8_isName.2 ⟨Nat.le_of_ble_eq_true rfl, Nat.le_of_ble_eq_true rfl⟩) (m_preS hK hP hD [] (by decide) rfl) rfl hl.1 rfl (Nat.le_of_ble_eq_true rfl) dX8_areAlike_23 ⟨Nat.zero_le _, Nat.zero_le _⟩ ?_
          refine m_ifB_eq (tgt := 43) hx hb dX8_areAlike_26 (by decide) (fun c_26 => ?_) (fun c_26 => ?_)
          · refine lv_iload_n hx hb dX8_areAlike_43 rfl (lv_at hl 1 rfl) ?_
            refine lv_iconst (v := nI 2) hx hb dX8_areAlike_44 (by decide) ?_
            refine m_cmp_ne (tgt := 66) hx hb dX8_areAlike_45 (by decide) (by omega) (by omega) (fun c_45 => ?_) (fun c_45 => ?_)
            · refine lv_iconst (v := nI 0) hx hb dX8_areAlike_66 (by decide) ?_
              rw [hQ]
              have E9 : (stX way L a b).1 = false := stX_no (by first | exact Or.inl c_2 | exact Or.inr ⟨c_6, c_13⟩) (by first | exact Or.inl c_19 | exact Or.inr (Or.inl c_26) | exact Or.inr (Or.inr c_33)) (by first | exact Or.inl c_45 | exact Or.inr (Or.inl c_52) | exact Or.inr (Or.inr c_59))
              exact m_zwr hx hb hr hlocks (be, ba) (nI_01 (by omega)) (⟨by rw [E9]; rfl, fun h => by (rw [E9] at h; cases h), hbe, hba⟩) hP hS dX8_areAlike_67
            · refine lv_iload_n hx hb dX8_areAlike_48 rfl (lv_at hl 2 rfl) ?_
              refine m_rdS (As := [.int (nI a)]) (rest := []) (wc := []) hcf (k_X8_isNumber (l := l) (D := D) (cI := cI) (cZ := cZ) (a := a) (ha := by omega)) (va_cwS 1 hts gX8_areAlike_X8_isNumber rfl rfl rfl yd_X8_isNumber.2 ⟨Nat.le_of_ble_eq_true rfl, Nat.le_of_ble_eq_true rfl⟩) (m_preS hK hP hD [] (by decide) rfl) rfl hl.1 rfl (Nat.le_of_ble_eq_true rfl) dX8_areAlike_49 ⟨Nat.zero_le _, Nat.zero_le _⟩ ?_
              refine m_ifB_eq (tgt := 66) hx hb dX8_areAlike_52 (by decide) (fun c_52 => ?_) (fun c_52 => ?_)
              · refine lv_iconst (v := nI 0) hx hb dX8_areAlike_66 (by decide) ?_
                rw [hQ]
                have E9 : (stX way L a b).1 = false := stX_no (by first | exact Or.inl c_2 | exact Or.inr ⟨c_6, c_13⟩) (by first | exact Or.inl c_19 | exact Or.inr (Or.inl c_26) | exact Or.inr (Or.inr c_33)) (by first | exact Or.inl c_45 | exact Or.inr (Or.inl c_52) | exact Or.inr (Or.inr c_59))
                exact m_zwr hx hb hr hlocks (be, ba) (nI_01 (by omega)) (⟨by rw [E9]; rfl, fun h => by (rw [E9] at h; cases h), hbe, hba⟩) hP hS dX8_areAlike_67
              · refine lv_iload_n hx hb dX8_areAlike_55 rfl (lv_at hl 3 rfl) ?_
                refine m_rdS (As := [.int (nI b)]) (rest := []) (wc := []) hcf (k_X8_isNumber (l := l) (D := D) (cI := cI) (cZ := cZ) (a := b) (ha := by omega)) (va_cwS 1 hts gX8_areAlike_X8_isNumber rfl rfl rfl yd_X8_isNumber.2 ⟨Nat.le_of_ble_eq_true rfl, Nat.le_of_ble_eq_true rfl⟩) (m_preS hK hP hD [] (by decide) rfl) rfl hl.1 rfl (Nat.le_of_ble_eq_true rfl) dX8_areAlike_56 ⟨Nat.zero_le _, Nat.zero_le _⟩ ?_
                refine m_ifB_eq (tgt := 66) hx hb dX8_areAlike_59 (by decide) (fun c_59 => ?_) (fun c_59 => ?_)
                · refine lv_iconst (v := nI 0) hx hb dX8_areAlike_66 (by decide) ?_
                  rw [hQ]
                  have E9 : (stX way L a b).1 = false := stX_no (by first | exact Or.inl c_2 | exact Or.inr ⟨c_6, c_13⟩) (by first | exact Or.inl c_19 | exact Or.inr (Or.inl c_26) | exact Or.inr (Or.inr c_33)) (by first | exact Or.inl c_45 | exact Or.inr (Or.inl c_52) | exact Or.inr (Or.inr c_59))
                  exact m_zwr hx hb hr hlocks (be, ba) (nI_01 (by omega)) (⟨by rw [E9]; rfl, fun h => by (rw [E9] at h; cases h), hbe, hba⟩) hP hS dX8_areAlike_67
                · refine lv_iconst (v := nI 1) hx hb dX8_areAlike_62 (by decide) ?_
                  refine lv_goto (tgt := 67) hx hb dX8_areAlike_63 (by decide) ?_
                  rw [hQ]
                  have E9 : stX way L a b = (true, L) := by rw [stX_2 (nu_nm c_52) c_45 c_52, c_59]
                  exact m_zwr hx hb hr hlocks (be, ba) (nI_01 (by omega)) (⟨by rw [E9]; rfl, fun _ => by rw [E9]; exact hpm, hbe, hba⟩) hP hS dX8_areAlike_67
          · refine lv_iload_n hx hb dX8_areAlike_29 rfl (lv_at hl 3 rfl) ?_
            refine m_rdS (As := [.int (nI b)]) (rest := []) (wc := []) hcf (k_X8_isName (l := l) (D := D) (cI := cI) (cZ := cZ) (a := b) (ha := by omega)) (va_cwS 1 hts gX8_areAlike_X8_isName rfl rfl rfl yd_X8_isName.2 ⟨Nat.le_of_ble_eq_true rfl, Nat.le_of_ble_eq_true rfl⟩) (m_preS hK hP hD [] (by decide) rfl) rfl hl.1 rfl (Nat.le_of_ble_eq_true rfl) dX8_areAlike_30 ⟨Nat.zero_le _, Nat.zero_le _⟩ ?_
            refine m_ifB_eq (tgt := 43) hx hb dX8_areAlike_33 (by decide) (fun c_33 => ?_) (fun c_33 => ?_)
            · refine lv_iload_n hx hb dX8_areAlike_43 rfl (lv_at hl 1 rfl) ?_
              refine lv_iconst (v := nI 2) hx hb dX8_areAlike_44 (by decide) ?_
              refine m_cmp_ne (tgt := 66) hx hb dX8_areAlike_45 (by decide) (by omega) (by omega) (fun c_45 => ?_) (fun c_45 => ?_)
              · refine lv_iconst (v := nI 0) hx hb dX8_areAlike_66 (by decide) ?_
                rw [hQ]
                have E9 : (stX way L a b).1 = false := stX_no (by first | exact Or.inl c_2 | exact Or.inr ⟨c_6, c_13⟩) (by first | exact Or.inl c_19 | exact Or.inr (Or.inl c_26) | exact Or.inr (Or.inr c_33)) (by first | exact Or.inl c_45 | exact Or.inr (Or.inl c_52) | exact Or.inr (Or.inr c_59))
                exact m_zwr hx hb hr hlocks (be, ba) (nI_01 (by omega)) (⟨by rw [E9]; rfl, fun h => by (rw [E9] at h; cases h), hbe, hba⟩) hP hS dX8_areAlike_67
              · refine lv_iload_n hx hb dX8_areAlike_48 rfl (lv_at hl 2 rfl) ?_
                refine m_rdS (As := [.int (nI a)]) (rest := []) (wc := []) hcf (k_X8_isNumber (l := l) (D := D) (cI := cI) (cZ := cZ) (a := a) (ha := by omega)) (va_cwS 1 hts gX8_areAlike_X8_isNumber rfl rfl rfl yd_X8_isNumber.2 ⟨Nat.le_of_ble_eq_true rfl, Nat.le_of_ble_eq_true rfl⟩) (m_preS hK hP hD [] (by decide) rfl) rfl hl.1 rfl (Nat.le_of_ble_eq_true rfl) dX8_areAlike_49 ⟨Nat.zero_le _, Nat.zero_le _⟩ ?_
                refine m_ifB_eq (tgt := 66) hx hb dX8_areAlike_52 (by decide) (fun c_52 => ?_) (fun c_52 => ?_)
                · refine lv_iconst (v := nI 0) hx hb dX8_areAlike_66 (by decide) ?_
                  rw [hQ]
                  have E9 : (stX way L a b).1 = false := stX_no (by first | exact Or.inl c_2 | exact Or.inr ⟨c_6, c_13⟩) (by first | exact Or.inl c_19 | exact Or.inr (Or.inl c_26) | exact Or.inr (Or.inr c_33)) (by first | exact Or.inl c_45 | exact Or.inr (Or.inl c_52) | exact Or.inr (Or.inr c_59))
                  exact m_zwr hx hb hr hlocks (be, ba) (nI_01 (by omega)) (⟨by rw [E9]; rfl, fun h => by (rw [E9] at h; cases h), hbe, hba⟩) hP hS dX8_areAlike_67
                · refine lv_iload_n hx hb dX8_areAlike_55 rfl (lv_at hl 3 rfl) ?_
                  refine m_rdS (As := [.int (nI b)]) (rest := []) (wc := []) hcf (k_X8_isNumber (l := l) (D := D) (cI := cI) (cZ := cZ) (a := b) (ha := by omega)) (va_cwS 1 hts gX8_areAlike_X8_isNumber rfl rfl rfl yd_X8_isNumber.2 ⟨Nat.le_of_ble_eq_true rfl, Nat.le_of_ble_eq_true rfl⟩) (m_preS hK hP hD [] (by decide) rfl) rfl hl.1 rfl (Nat.le_of_ble_eq_true rfl) dX8_areAlike_56 ⟨Nat.zero_le _, Nat.zero_le _⟩ ?_
                  refine m_ifB_eq (tgt := 66) hx hb dX8_areAlike_59 (by decide) (fun c_59 => ?_) (fun c_59 => ?_)
                  · refine lv_iconst (v := nI 0) hx hb dX8_areAlike_66 (by decide) ?_
                    rw [hQ]
                    have E9 : (stX way L a b).1 = false := stX_no (by first | exact Or.inl c_2 | exact Or.inr ⟨c_6, c_13⟩) (by first | exact Or.inl c_19 | exact Or.inr (Or.inl c_26) | exact Or.inr (Or.inr c_33)) (by first | exact Or.inl c_45 | exact Or.inr (Or.inl c_52) | exact Or.inr (Or.inr c_59))
                    exact m_zwr hx hb hr hlocks (be, ba) (nI_01 (by omega)) (⟨by rw [E9]; rfl, fun h => by (rw [E9] at h; cases h), hbe, hba⟩) hP hS dX8_areAlike_67
                  · refine lv_iconst (v := nI 1) hx hb dX8_areAlike_62 (by decide) ?_
                    refine lv_goto (tgt := 67) hx hb dX8_areAlike_63 (by decide) ?_
                    rw [hQ]
                    have E9 : stX way L a b = (true, L) := by rw [stX_2 (nu_nm c_52) c_45 c_52, c_59]
                    exact m_zwr hx hb hr hlocks (be, ba) (nI_01 (by omega)) (⟨by rw [E9]; rfl, fun _ => by rw [E9]; exact hpm, hbe, hba⟩) hP hS dX8_areAlike_67
            · refine lv_aload_n hx hb dX8_areAlike_36 rfl (lv_at hl 0 rfl) ?_
              refine lv_iload_n hx hb dX8_areAlike_37 rfl (lv_at hl 2 rfl) ?_
              refine lv_iload_n hx hb dX8_areAlike_38 rfl (lv_at hl 3 rfl) ?_
              refine m_wrV (As := [.int (nI a), .int (nI b)]) (rest := []) (wc := [(mo, .inr (8, [.int (nI ps), .ref mpa, .int (nI nl), .int (nI nv), .ref msz, .ref mcd, .ref mbe, .ref mba, .int ol, .int (nI op), .int (nI os), .int (nI svn), .ref ms1, .ref ms2, .ref ms3, .ref ms4, .ref mfa, .ref mim, .ref mik])), (mbe, aN cI 26 be), (mba, aN cI 26 ba)]) hcf (k_X8_goBeside (l := l) (D := D) (cI := cI) (cZ := cZ) (a := a) (b := b) (mo := mo) (ps := ps) (mpa := mpa) (nl := nl) (nv := nv) (msz := msz) (mcd := mcd) (mbe := mbe) (mba := mba) (ol := ol) (op := op) (os := os) (svn := svn) (ms1 := ms1) (ms2 := ms2) (ms3 := ms3) (ms4 := ms4) (mfa := mfa) (mim := mim) (mik := mik) (be := be) (ba := ba) (L := L) (hpm := hpm) (hna := by omega) (hnb := by omega) (hbe := hbe) (hba := hba)) (cwV 2 hts gX8_areAlike_X8_goBeside rfl rfl rfl yd_X8_goBeside ⟨Nat.le_of_ble_eq_true rfl, Nat.le_of_ble_eq_true rfl⟩) hK hP hD hS [0, 1, 2] (by decide) rfl rfl rfl rfl hl.1 rfl (Nat.le_of_ble_eq_true rfl) dX8_areAlike_39 ⟨Nat.zero_le _, Nat.zero_le _⟩ (fun _ => rfl) (fun (u : (Nat → Nat) × (Nat → Nat)) => [(mo, .inr (8, [.int (nI ps), .ref mpa, .int (nI nl), .int (nI nv), .ref msz, .ref mcd, .ref mbe, .ref mba, .int ol, .int (nI op), .int (nI os), .int (nI svn), .ref ms1, .ref ms2, .ref ms3, .ref ms4, .ref mfa, .ref mim, .ref mik])), (mbe, aN cI 26 u.1), (mba, aN cI 26 u.2)]) (fun _ => rfl) (fun r u H locs hp_39 hP hD hS => ?_)
              obtain ⟨beu_39, bau_39⟩ := u
              have hP : va_P D vwCl [(mo, .inr (8, [.int (nI ps), .ref mpa, .int (nI nl), .int (nI nv), .ref msz, .ref mcd, .ref mbe, .ref mba, .int ol, .int (nI op), .int (nI os), .int (nI svn), .ref ms1, .ref ms2, .ref ms3, .ref ms4, .ref mfa, .ref mim, .ref mik])), (mbe, aN cI 26 beu_39), (mba, aN cI 26 bau_39)] H := hP
              have hD : va_D A [(mo, .inr (8, [.int (nI ps), .ref mpa, .int (nI nl), .int (nI nv), .ref msz, .ref mcd, .ref mbe, .ref mba, .int ol, .int (nI op), .int (nI os), .int (nI svn), .ref ms1, .ref ms2, .ref ms3, .ref ms4, .ref mfa, .ref mim, .ref mik])), (mbe, aN cI 26 beu_39), (mba, aN cI 26 bau_39)] := hD
              try dsimp only at hp_39
              obtain ⟨hr_hp_39, hp_39⟩ := hp_39
              rw [hr_hp_39]
              rw [hQ]
              have E9 : stX way L a b = (jnB L a b, jnL L a b) := stX_1 (by omega) c_26
              have E8 : jnB L a b = okp L a b := by unfold jnB; rw [c_26, c_33]; rfl
              exact m_zwr hx hb hr hlocks (beu_39, bau_39) (bI_01 _) (⟨by rw [E9, E8], fun h => by rw [E9] at h ⊢; rw [jnL_t h]; rw [E8] at h; exact hp_39.1 h, hp_39.2.1, hp_39.2.2⟩) hP hS dX8_areAlike_42
      · refine lv_iconst (v := nI 1) hx hb dX8_areAlike_16 (by decide) ?_
        rw [hQ]
        have E9 : stX way L a b = (true, L) := stX_eq c_2 (by first | exact Or.inl c_6 | exact Or.inr c_13)
        exact m_zwr hx hb hr hlocks (be, ba) (nI_01 (by omega)) (⟨by rw [E9]; rfl, fun _ => by rw [E9]; exact hpm, hbe, hba⟩) hP hS dX8_areAlike_17

theorem yd_X8_isThere : yX8_isThere.cls = RX8 ∧ yX8_isThere.cls ≠ "java/lang/invoke/MethodHandle" ∧ yX8_isThere.cls ≠ "java/lang/invoke/VarHandle" ∧ (parseMethodDescriptor yX8_isThere.desc).map (fun d => d.parameters.length) = some 2 := by decide +kernel
set_option maxHeartbeats 4000000 in
set_option maxRecDepth 100000 in
theorem k_X8_isThere (l : Launch) (D : va_G) (cI cZ : ClassId) (mo ps mpa nl nv msz mcd mbe mba : Nat) (ol : Int32) (op os svn ms1 ms2 ms3 ms4 mfa mim mik : Nat) (sta n : Nat) (hnl : nl ≤ 20) (h1 : sta ≤ 40) (hn : n ≤ 40) : Met l yX8_isThere wsX8_isThere ({ frames := 0, cells := 0, slots := 0, locals := 0 }) (mPc [.ref mo, .int (nI sta), .int (nI n)] D cI cZ [(mo, .inr (8, [.int (nI ps), .ref mpa, .int (nI nl), .int (nI nv), .ref msz, .ref mcd, .ref mbe, .ref mba, .int ol, .int (nI op), .int (nI os), .int (nI svn), .ref ms1, .ref ms2, .ref ms3, .ref ms4, .ref mfa, .ref mim, .ref mik]))]) (QcRead (bI (decide (sta + n ≤ nl)))) 0 0 (fun _ => False) := by
  refine Met.ofW (cc := cX8_isThere) (maxL := 3) (ret := (some .boolean)) (by decide) rfl ?_
  intro p e s m args below meth c s₁ BB hml hv
  obtain ⟨hargs, hP, hD0, hK⟩ := hv
  have hx := BB.exec
  have hb := BB.bytes
  have hr := BB.returns
  have hts := atoms_spec (ws := wsX8_isThere) BB.pre
  have hown : s.vm.findClass RX8 = some m.cls := findClass_of_methodNamed BB.named
  have hlocks := BB.notSynchronized
  have hcf : CallFix p m c cX8_isThere 3 s args wsX8_isThere RX8 := ⟨hx, hb, hml, hown, hts⟩
  have hD := hD0
  rw [hargs, lg_entry_eq, ← hargs]
  have hl := lv_entry ([.ref mo, .int (nI sta), .int (nI n)]) (n := 3) (Nat.le_of_ble_eq_true rfl)
  generalize (lg_sl ([.ref mo, .int (nI sta), .int (nI n)]) ++ List.replicate (3 - (lg_sl ([.ref mo, .int (nI sta), .int (nI n)])).length) Slot.unset).toArray = ls at hl ⊢
  have hl : lv_has ls 3 [(0, .ref mo), (1, .int (nI sta)), (2, .int (nI n))] := hl
  obtain ⟨Q, hQ⟩ : ∃ Q, Q = MQ below (QcRead (bI (decide (sta + n ≤ nl)))) args s 0 0 (fun _ => False) := ⟨_, rfl⟩
  rw [← hQ]
  have i_X8 : ∀ w ∈ u_ws RX8 TX8 19, w ∈ wsX8_isThere := by decide +kernel
  have f_58 := hts (.fieldLink RX8 58 "SameAgainModel" "lines" "I") (by decide +kernel)
  refine lv_iload_n hx hb dX8_isThere_0 rfl (lv_at hl 1 rfl) ?_
  refine lv_iload_n hx hb dX8_isThere_1 rfl (lv_at hl 2 rfl) ?_
  refine m_add hx hb dX8_isThere_2 ?_
  refine lv_aload_n hx hb dX8_isThere_3 rfl (lv_at hl 0 rfl) ?_
  refine va_get (D := D) (ci := 8) (v := .int (nI nl)) (C := RX8) (T := TX8) (N := 19) hx hb hts i_X8 hown hK.1 hP 0 rfl rfl 2 (by decide) f_58 (fun _ h9 => h9) rfl dX8_isThere_4 ?_
  refine m_cmp_gt (tgt := 14) hx hb dX8_isThere_7 (by decide) (by omega) (by omega) (fun c_7 => ?_) (fun c_7 => ?_)
  · refine lv_iconst (v := nI 0) hx hb dX8_isThere_14 (by decide) ?_
    rw [hQ]
    exact m_zrd hx hb hr hlocks (b_zero (by omega)) dX8_isThere_15
  · refine lv_iconst (v := nI 1) hx hb dX8_isThere_10 (by decide) ?_
    refine lv_goto (tgt := 15) hx hb dX8_isThere_11 (by decide) ?_
    rw [hQ]
    exact m_zrd hx hb hr hlocks (b_one (by omega)) dX8_isThere_15

theorem yd_X8_rowsAlike : yX8_rowsAlike.cls = RX8 ∧ yX8_rowsAlike.cls ≠ "java/lang/invoke/MethodHandle" ∧ yX8_rowsAlike.cls ≠ "java/lang/invoke/VarHandle" ∧ (parseMethodDescriptor yX8_rowsAlike.desc).map (fun d => d.parameters.length) = some 5 := by decide +kernel
set_option maxHeartbeats 4000000 in
set_option maxRecDepth 100000 in
theorem k_X8_rowsAlike (l : Launch) (D : va_G) (cI cZ : ClassId) (mo ps mpa nl nv msz mcd mbe mba : Nat) (ol : Int32) (op os svn ms1 ms2 ms3 ms4 mfa mim mik : Nat) (be ba : Nat → Nat) (z g : Nat → Nat) (v way one oth n : Nat) (hnl : nl ≤ 20) (hnv : nv ≤ 4) (hz : ∀ j, z j ≤ 8) (hg : ∀ j, g j ≤ 126) (hbe : ∀ j, be j ≤ 126) (hba : ∀ j, ba j ≤ 126) (hw : way ≤ 2) (hv : v < 4) (h1 : one ≤ 20) (h2 : oth ≤ 20) (hn : n ≤ 21) (hop : op ≤ 100) (hos : os ≤ 126) : Met l yX8_rowsAlike wsX8_rowsAlike ({ frames := 3, cells := 0, slots := 0, locals := 65 }) (mPc [.ref mo, .int (nI v), .int (nI way), .int (nI one), .int (nI oth), .int (nI n)] D cI cZ [(mo, .inr (8, [.int (nI ps), .ref mpa, .int (nI nl), .int (nI nv), .ref msz, .ref mcd, .ref mbe, .ref mba, .int ol, .int (nI op), .int (nI os), .int (nI svn), .ref ms1, .ref ms2, .ref ms3, .ref ms4, .ref mfa, .ref mim, .ref mik])), (mbe, aN cI 26 be), (mba, aN cI 26 ba), (msz, aN cI 80 z), (mcd, aN cI 640 g)]) (mQi D (mA [(mo, .inr (8, [.int (nI ps), .ref mpa, .int (nI nl), .int (nI nv), .ref msz, .ref mcd, .ref mbe, .ref mba, .int ol, .int (nI op), .int (nI os), .int (nI svn), .ref ms1, .ref ms2, .ref ms3, .ref ms4, .ref mfa, .ref mim, .ref mik])), (mbe, aN cI 26 be), (mba, aN cI 26 ba), (msz, aN cI 80 z), (mcd, aN cI 640 g)]) (fun (r : Int32) (u : (Nat → Nat) × (Nat → Nat)) => r = bI (rmB way z g v nl one oth n ol op os) ∧ (rmB way z g v nl one oth n ol op os = true → pmM u.1 u.2 (rwM way z g v one oth ol op os n).2) ∧ (∀ j, u.1 j ≤ 126) ∧ (∀ j, u.2 j ≤ 126)) (fun (u : (Nat → Nat) × (Nat → Nat)) => [(mo, .inr (8, [.int (nI ps), .ref mpa, .int (nI nl), .int (nI nv), .ref msz, .ref mcd, .ref mbe, .ref mba, .int ol, .int (nI op), .int (nI os), .int (nI svn), .ref ms1, .ref ms2, .ref ms3, .ref ms4, .ref mfa, .ref mim, .ref mik])), (mbe, aN cI 26 u.1), (mba, aN cI 26 u.2), (msz, aN cI 80 z), (mcd, aN cI 640 g)])) 0 0 (mA [(mo, .inr (8, [.int (nI ps), .ref mpa, .int (nI nl), .int (nI nv), .ref msz, .ref mcd, .ref mbe, .ref mba, .int ol, .int (nI op), .int (nI os), .int (nI svn), .ref ms1, .ref ms2, .ref ms3, .ref ms4, .ref mfa, .ref mim, .ref mik])), (mbe, aN cI 26 be), (mba, aN cI 26 ba), (msz, aN cI 80 z), (mcd, aN cI 640 g)]) := by
  refine Met.ofW (cc := cX8_rowsAlike) (maxL := 9) (ret := (some .boolean)) (by decide) rfl ?_
  intro p e s m args below meth c s₁ BB hml hv
  obtain ⟨hargs, hP, hD0, hK⟩ := hv
  have hx := BB.exec
  have hb := BB.bytes
  have hr := BB.returns
  have hts := atoms_spec (ws := wsX8_rowsAlike) BB.pre
  have hown : s.vm.findClass RX8 = some m.cls := findClass_of_methodNamed BB.named
  have hlocks := BB.notSynchronized
  have hcf : CallFix p m c cX8_rowsAlike 9 s args wsX8_rowsAlike RX8 := ⟨hx, hb, hml, hown, hts⟩
  obtain ⟨A, hAe⟩ : ∃ A, A = mA [(mo, .inr (8, [.int (nI ps), .ref mpa, .int (nI nl), .int (nI nv), .ref msz, .ref mcd, .ref mbe, .ref mba, .int ol, .int (nI op), .int (nI os), .int (nI svn), .ref ms1, .ref ms2, .ref ms3, .ref ms4, .ref mfa, .ref mim, .ref mik])), (mbe, aN cI 26 be), (mba, aN cI 26 ba), (msz, aN cI 80 z), (mcd, aN cI 640 g)] := ⟨_, rfl⟩
  have hD : va_D A [(mo, .inr (8, [.int (nI ps), .ref mpa, .int (nI nl), .int (nI nv), .ref msz, .ref mcd, .ref mbe, .ref mba, .int ol, .int (nI op), .int (nI os), .int (nI svn), .ref ms1, .ref ms2, .ref ms3, .ref ms4, .ref mfa, .ref mim, .ref mik])), (mbe, aN cI 26 be), (mba, aN cI 26 ba), (msz, aN cI 80 z), (mcd, aN cI 640 g)] := ⟨hD0.1, fun k q h => by rw [hAe]; exact ⟨k, q.2, h⟩⟩
  have hS : va_S A s.heap s.heap [] := va_S.rf
  rw [← hAe]
  rw [hargs, lg_entry_eq, ← hargs]
  have hl := lv_entry ([.ref mo, .int (nI v), .int (nI way), .int (nI one), .int (nI oth), .int (nI n)]) (n := 9) (Nat.le_of_ble_eq_true rfl)
  generalize (lg_sl ([.ref mo, .int (nI v), .int (nI way), .int (nI one), .int (nI oth), .int (nI n)]) ++ List.replicate (9 - (lg_sl ([.ref mo, .int (nI v), .int (nI way), .int (nI one), .int (nI oth), .int (nI n)])).length) Slot.unset).toArray = ls at hl ⊢
  have hl : lv_has ls 9 [(0, .ref mo), (1, .int (nI v)), (2, .int (nI way)), (3, .int (nI one)), (4, .int (nI oth)), (5, .int (nI n))] := hl
  obtain ⟨Q, hQ⟩ : ∃ Q, Q = MQ below (mQi D A (fun (r : Int32) (u : (Nat → Nat) × (Nat → Nat)) => r = bI (rmB way z g v nl one oth n ol op os) ∧ (rmB way z g v nl one oth n ol op os = true → pmM u.1 u.2 (rwM way z g v one oth ol op os n).2) ∧ (∀ j, u.1 j ≤ 126) ∧ (∀ j, u.2 j ≤ 126)) (fun (u : (Nat → Nat) × (Nat → Nat)) => [(mo, .inr (8, [.int (nI ps), .ref mpa, .int (nI nl), .int (nI nv), .ref msz, .ref mcd, .ref mbe, .ref mba, .int ol, .int (nI op), .int (nI os), .int (nI svn), .ref ms1, .ref ms2, .ref ms3, .ref ms4, .ref mfa, .ref mim, .ref mik])), (mbe, aN cI 26 u.1), (mba, aN cI 26 u.2), (msz, aN cI 80 z), (mcd, aN cI 640 g)])) args s 0 0 A := ⟨_, rfl⟩
  rw [← hQ]
  have i_X8 : ∀ w ∈ u_ws RX8 TX8 19, w ∈ wsX8_rowsAlike := by decide +kernel
  have f_25 := hts (.fieldLink RX8 25 "SameAgainModel" "otherLine" "I") (by decide +kernel)
  have f_96 := hts (.fieldLink RX8 96 "SameAgainModel" "otherPlace" "I") (by decide +kernel)
  have f_99 := hts (.fieldLink RX8 99 "SameAgainModel" "otherSign" "I") (by decide +kernel)
  have f_19 := hts (.fieldLink RX8 19 "SameAgainModel" "beside" "[I") (by decide +kernel)
  have f_22 := hts (.fieldLink RX8 22 "SameAgainModel" "back" "[I") (by decide +kernel)
  refine lv_aload_n hx hb dX8_rowsAlike_0 rfl (lv_at hl 0 rfl) ?_
  refine lv_iload_n hx hb dX8_rowsAlike_1 rfl (lv_at hl 3 rfl) ?_
  refine lv_iload hx hb dX8_rowsAlike_2 (lv_at hl 5 rfl) ?_
  refine m_rdV (As := [.int (nI one), .int (nI n)]) (rest := []) (wc := [(mo, .inr (8, [.int (nI ps), .ref mpa, .int (nI nl), .int (nI nv), .ref msz, .ref mcd, .ref mbe, .ref mba, .int ol, .int (nI op), .int (nI os), .int (nI svn), .ref ms1, .ref ms2, .ref ms3, .ref ms4, .ref mfa, .ref mim, .ref mik]))]) hcf (k_X8_isThere (l := l) (D := D) (cI := cI) (cZ := cZ) (sta := one) (n := n) (mo := mo) (ps := ps) (mpa := mpa) (nl := nl) (nv := nv) (msz := msz) (mcd := mcd) (mbe := mbe) (mba := mba) (ol := ol) (op := op) (os := os) (svn := svn) (ms1 := ms1) (ms2 := ms2) (ms3 := ms3) (ms4 := ms4) (mfa := mfa) (mim := mim) (mik := mik) (hnl := hnl) (h1 := by omega) (hn := by omega)) (cwV 2 hts gX8_rowsAlike_X8_isThere rfl rfl rfl yd_X8_isThere ⟨Nat.le_of_ble_eq_true rfl, Nat.le_of_ble_eq_true rfl⟩) (m_preV hK hP hD [0] (by decide) rfl rfl rfl) rfl hl.1 rfl (Nat.le_of_ble_eq_true rfl) dX8_rowsAlike_4 ⟨Nat.zero_le _, Nat.zero_le _⟩ ?_
  refine m_ifB_eq (tgt := 21) hx hb dX8_rowsAlike_7 (by decide) (fun c_7 => ?_) (fun c_7 => ?_)
  · refine lv_iconst (v := nI 0) hx hb dX8_rowsAlike_21 (by decide) ?_
    rw [hQ]
    have K9 : rmB way z g v nl one oth n ol op os = false := by unfold rmB; first | (rw [c_7]; rfl) | (rw [c_18, Bool.and_false]; rfl)
    exact m_zwr hx hb hr hlocks (be, ba) (nI_01 (by omega)) (⟨bb_zero K9, fun h => by (rw [K9] at h; cases h), hbe, hba⟩) hP hS dX8_rowsAlike_22
  · have i7 := of_decide_eq_true c_7
    refine lv_aload_n hx hb dX8_rowsAlike_10 rfl (lv_at hl 0 rfl) ?_
    refine lv_iload hx hb dX8_rowsAlike_11 (lv_at hl 4 rfl) ?_
    refine lv_iload hx hb dX8_rowsAlike_13 (lv_at hl 5 rfl) ?_
    refine m_rdV (As := [.int (nI oth), .int (nI n)]) (rest := []) (wc := [(mo, .inr (8, [.int (nI ps), .ref mpa, .int (nI nl), .int (nI nv), .ref msz, .ref mcd, .ref mbe, .ref mba, .int ol, .int (nI op), .int (nI os), .int (nI svn), .ref ms1, .ref ms2, .ref ms3, .ref ms4, .ref mfa, .ref mim, .ref mik]))]) hcf (k_X8_isThere (l := l) (D := D) (cI := cI) (cZ := cZ) (sta := oth) (n := n) (mo := mo) (ps := ps) (mpa := mpa) (nl := nl) (nv := nv) (msz := msz) (mcd := mcd) (mbe := mbe) (mba := mba) (ol := ol) (op := op) (os := os) (svn := svn) (ms1 := ms1) (ms2 := ms2) (ms3 := ms3) (ms4 := ms4) (mfa := mfa) (mim := mim) (mik := mik) (hnl := hnl) (h1 := by omega) (hn := by omega)) (cwV 2 hts gX8_rowsAlike_X8_isThere rfl rfl rfl yd_X8_isThere ⟨Nat.le_of_ble_eq_true rfl, Nat.le_of_ble_eq_true rfl⟩) (m_preV hK hP hD [0] (by decide) rfl rfl rfl) rfl hl.1 rfl (Nat.le_of_ble_eq_true rfl) dX8_rowsAlike_15 ⟨Nat.zero_le _, Nat.zero_le _⟩ ?_
    refine m_ifB_ne (tgt := 23) hx hb dX8_rowsAlike_18 (by decide) (fun c_18 => ?_) (fun c_18 => ?_)
    · have i18 := of_decide_eq_true c_18
      refine lv_iconst (v := nI 0) hx hb dX8_rowsAlike_23 (by decide) ?_
      refine lv_istore (lv' := [(6, .int (nI 0)), (0, .ref mo), (1, .int (nI v)), (2, .int (nI way)), (3, .int (nI one)), (4, .int (nI oth)), (5, .int (nI n))]) hx hb dX8_rowsAlike_24 hl (by decide) rfl (fun ls hl => ?_)
      have loop_26 : ∀ (fu : Nat) (i : Nat) (b1 b2 : Nat → Nat) (hfu : 26 - i < fu)  (hi : i ≤ 26) (hb1 : ∀ j, b1 j ≤ 126) (hb3 : ∀ j, b2 j ≤ 126) (hc1 : ∀ j, j < i → b1 j = 0) (hc2 : ∀ j, j < i → b2 j = 0) (H : Heap) (locs : List Loc) (hP : va_P D vwCl [(mo, .inr (8, [.int (nI ps), .ref mpa, .int (nI nl), .int (nI nv), .ref msz, .ref mcd, .ref mbe, .ref mba, .int ol, .int (nI op), .int (nI os), .int (nI svn), .ref ms1, .ref ms2, .ref ms3, .ref ms4, .ref mfa, .ref mim, .ref mik])), (mbe, aN cI 26 b1), (mba, aN cI 26 b2), (msz, aN cI 80 z), (mcd, aN cI 640 g)] H) (hD : va_D A [(mo, .inr (8, [.int (nI ps), .ref mpa, .int (nI nl), .int (nI nv), .ref msz, .ref mcd, .ref mbe, .ref mba, .int ol, .int (nI op), .int (nI os), .int (nI svn), .ref ms1, .ref ms2, .ref ms3, .ref ms4, .ref mfa, .ref mim, .ref mik])), (mbe, aN cI 26 b1), (mba, aN cI 26 b2), (msz, aN cI 80 z), (mcd, aN cI 640 g)]) (hS : va_S A s.heap H locs) (ls : Array Slot) (hl : lv_has ls 9 [(0, .ref mo), (1, .int (nI v)), (2, .int (nI way)), (3, .int (nI one)), (4, .int (nI oth)), (5, .int (nI n)), (6, .int (nI i))]), W p l e (headSpec wsX8_rowsAlike { frames := 3, cells := 0, slots := 0, locals := 65 }).room s m args below meth c H locs 0 0 Q (F0 m 26 ls []) := by
        intro fu
        induction fu with
        | zero => intro i b1 b2 hfu; exact absurd hfu (Nat.not_lt_zero _)
        | succ fu ih_26 =>
          intro i b1 b2 hfu hi hb1 hb3 hc1 hc2 H locs hP hD hS ls hl
          refine lv_iload hx hb dX8_rowsAlike_26 (lv_at hl 6 rfl) ?_
          refine lv_bipush (v := nI 26) hx hb dX8_rowsAlike_28 (by decide) ?_
          refine m_cmp_ge (tgt := 55) hx hb dX8_rowsAlike_30 (by decide) (by omega) (by omega) (fun c_30 => ?_) (fun c_30 => ?_)
          · refine lv_iconst (v := nI 0) hx hb dX8_rowsAlike_55 (by decide) ?_
            refine lv_istore (lv' := [(6, .int (nI 0)), (0, .ref mo), (1, .int (nI v)), (2, .int (nI way)), (3, .int (nI one)), (4, .int (nI oth)), (5, .int (nI n))]) hx hb dX8_rowsAlike_56 hl (by decide) rfl (fun ls hl => ?_)
            have loop_58 : ∀ (fu : Nat) (k : Nat) (b3 b4 : Nat → Nat) (hfu : n - k < fu)  (hk : k ≤ n) (hb5 : ∀ j, b3 j ≤ 126) (hb6 : ∀ j, b4 j ≤ 126) (hq : (rwM way z g v one oth ol op os k).1 = true) (hpm : pmM b3 b4 (rwM way z g v one oth ol op os k).2) (H : Heap) (locs : List Loc) (hP : va_P D vwCl [(mo, .inr (8, [.int (nI ps), .ref mpa, .int (nI nl), .int (nI nv), .ref msz, .ref mcd, .ref mbe, .ref mba, .int ol, .int (nI op), .int (nI os), .int (nI svn), .ref ms1, .ref ms2, .ref ms3, .ref ms4, .ref mfa, .ref mim, .ref mik])), (mbe, aN cI 26 b3), (mba, aN cI 26 b4), (msz, aN cI 80 z), (mcd, aN cI 640 g)] H) (hD : va_D A [(mo, .inr (8, [.int (nI ps), .ref mpa, .int (nI nl), .int (nI nv), .ref msz, .ref mcd, .ref mbe, .ref mba, .int ol, .int (nI op), .int (nI os), .int (nI svn), .ref ms1, .ref ms2, .ref ms3, .ref ms4, .ref mfa, .ref mim, .ref mik])), (mbe, aN cI 26 b3), (mba, aN cI 26 b4), (msz, aN cI 80 z), (mcd, aN cI 640 g)]) (hS : va_S A s.heap H locs) (ls : Array Slot) (hl : lv_has ls 9 [(0, .ref mo), (1, .int (nI v)), (2, .int (nI way)), (3, .int (nI one)), (4, .int (nI oth)), (5, .int (nI n)), (6, .int (nI k))]), W p l e (headSpec wsX8_rowsAlike { frames := 3, cells := 0, slots := 0, locals := 65 }).room s m args below meth c H locs 0 0 Q (F0 m 58 ls []) := by
              intro fu
              induction fu with
              | zero => intro k b3 b4 hfu; exact absurd hfu (Nat.not_lt_zero _)
              | succ fu ih_58 =>
                intro k b3 b4 hfu hk hb5 hb6 hq hpm H locs hP hD hS ls hl
                refine lv_iload hx hb dX8_rowsAlike_58 (lv_at hl 6 rfl) ?_
                refine lv_iload hx hb dX8_rowsAlike_60 (lv_at hl 5 rfl) ?_
                refine m_cmp_ge (tgt := 180) hx hb dX8_rowsAlike_62 (by decide) (by omega) (by omega) (fun c_62 => ?_) (fun c_62 => ?_)
                · refine lv_iconst (v := nI 1) hx hb dX8_rowsAlike_180 (by decide) ?_
                  rw [hQ]
                  have e9 : k = n := by omega
                  rw [e9] at hq hpm
                  have K9 : rmB way z g v nl one oth n ol op os = true := by unfold rmB; rw [c_7, c_18, hq]; rfl
                  exact m_zwr hx hb hr hlocks (b3, b4) (nI_01 (by omega)) (⟨bb_one K9, fun _ => hpm, hb5, hb6⟩) hP hS dX8_rowsAlike_181
                · refine lv_aload_n hx hb dX8_rowsAlike_65 rfl (lv_at hl 0 rfl) ?_
                  refine lv_iload_n hx hb dX8_rowsAlike_66 rfl (lv_at hl 1 rfl) ?_
                  refine lv_iload_n hx hb dX8_rowsAlike_67 rfl (lv_at hl 3 rfl) ?_
                  refine lv_iload hx hb dX8_rowsAlike_68 (lv_at hl 6 rfl) ?_
                  refine m_add hx hb dX8_rowsAlike_70 ?_
                  refine m_rdV (As := [.int (nI v), .int (nI (one + k))]) (rest := []) (wc := [(mo, .inr (8, [.int (nI ps), .ref mpa, .int (nI nl), .int (nI nv), .ref msz, .ref mcd, .ref mbe, .ref mba, .int ol, .int (nI op), .int (nI os), .int (nI svn), .ref ms1, .ref ms2, .ref ms3, .ref ms4, .ref mfa, .ref mim, .ref mik])), (msz, aN cI 80 z)]) hcf (k_X8_size (l := l) (D := D) (cI := cI) (cZ := cZ) (v := v) (ln := one + k) (mo := mo) (ps := ps) (mpa := mpa) (nl := nl) (nv := nv) (msz := msz) (mcd := mcd) (mbe := mbe) (mba := mba) (ol := ol) (op := op) (os := os) (svn := svn) (ms1 := ms1) (ms2 := ms2) (ms3 := ms3) (ms4 := ms4) (mfa := mfa) (mim := mim) (mik := mik) (z := z) (hv := hv) (hln := by omega)) (cwV 2 hts gX8_rowsAlike_X8_size rfl rfl rfl yd_X8_size ⟨Nat.le_of_ble_eq_true rfl, Nat.le_of_ble_eq_true rfl⟩) (m_preV hK hP hD [0, 3] (by decide) rfl rfl rfl) rfl hl.1 rfl (Nat.le_of_ble_eq_true rfl) dX8_rowsAlike_71 ⟨Nat.zero_le _, Nat.zero_le _⟩ ?_
                  refine lv_aload_n hx hb dX8_rowsAlike_74 rfl (lv_at hl 0 rfl) ?_
                  refine lv_iload_n hx hb dX8_rowsAlike_75 rfl (lv_at hl 1 rfl) ?_
                  refine lv_iload hx hb dX8_rowsAlike_76 (lv_at hl 4 rfl) ?_
                  refine lv_iload hx hb dX8_rowsAlike_78 (lv_at hl 6 rfl) ?_
                  refine m_add hx hb dX8_rowsAlike_80 ?_
                  have hz8 := hz (v * 20 + (one + k))
                  have hz7 := hz (v * 20 + (oth + k))
                  refine m_rdV (As := [.int (nI v), .int (nI (oth + k))]) (rest := [.int (nI (z (v * 20 + (one + k))))]) (wc := [(mo, .inr (8, [.int (nI ps), .ref mpa, .int (nI nl), .int (nI nv), .ref msz, .ref mcd, .ref mbe, .ref mba, .int ol, .int (nI op), .int (nI os), .int (nI svn), .ref ms1, .ref ms2, .ref ms3, .ref ms4, .ref mfa, .ref mim, .ref mik])), (msz, aN cI 80 z)]) hcf (k_X8_size (l := l) (D := D) (cI := cI) (cZ := cZ) (v := v) (ln := oth + k) (mo := mo) (ps := ps) (mpa := mpa) (nl := nl) (nv := nv) (msz := msz) (mcd := mcd) (mbe := mbe) (mba := mba) (ol := ol) (op := op) (os := os) (svn := svn) (ms1 := ms1) (ms2 := ms2) (ms3 := ms3) (ms4 := ms4) (mfa := mfa) (mim := mim) (mik := mik) (z := z) (hv := hv) (hln := by omega)) (cwV 2 hts gX8_rowsAlike_X8_size rfl rfl rfl yd_X8_size ⟨Nat.le_of_ble_eq_true rfl, Nat.le_of_ble_eq_true rfl⟩) (m_preV hK hP hD [0, 3] (by decide) rfl rfl rfl) rfl hl.1 rfl (Nat.le_of_ble_eq_true rfl) dX8_rowsAlike_81 ⟨Nat.zero_le _, Nat.zero_le _⟩ ?_
                  refine m_cmp_eq (tgt := 89) hx hb dX8_rowsAlike_84 (by decide) (by omega) (by omega) (fun c_84 => ?_) (fun c_84 => ?_)
                  · have hz8 := hz (v * 20 + (one + k))
                    have hz7 := hz (v * 20 + (oth + k))
                    refine lv_iconst (v := nI 0) hx hb dX8_rowsAlike_89 (by decide) ?_
                    refine lv_istore (lv' := [(7, .int (nI 0)), (0, .ref mo), (1, .int (nI v)), (2, .int (nI way)), (3, .int (nI one)), (4, .int (nI oth)), (5, .int (nI n)), (6, .int (nI k))]) hx hb dX8_rowsAlike_90 hl (by decide) rfl (fun ls hl => ?_)
                    have loop_92 : ∀ (fu : Nat) (pp : Nat) (b5 b6 : Nat → Nat) (hfu : z (v * 20 + (one + k)) - pp < fu)  (hp9 : pp ≤ z (v * 20 + (one + k))) (hb7 : ∀ j, b5 j ≤ 126) (hb8 : ∀ j, b6 j ≤ 126) (hq2 : (lnX way (sgN z g (v * 20 + (one + k))) (rpN z g (v * 20 + (oth + k)) k ol op os) (fun _ => false) (rwM way z g v one oth ol op os k).2 pp).1 = true) (hpm2 : pmM b5 b6 (lnX way (sgN z g (v * 20 + (one + k))) (rpN z g (v * 20 + (oth + k)) k ol op os) (fun _ => false) (rwM way z g v one oth ol op os k).2 pp).2) (H : Heap) (locs : List Loc) (hP : va_P D vwCl [(mo, .inr (8, [.int (nI ps), .ref mpa, .int (nI nl), .int (nI nv), .ref msz, .ref mcd, .ref mbe, .ref mba, .int ol, .int (nI op), .int (nI os), .int (nI svn), .ref ms1, .ref ms2, .ref ms3, .ref ms4, .ref mfa, .ref mim, .ref mik])), (mbe, aN cI 26 b5), (mba, aN cI 26 b6), (msz, aN cI 80 z), (mcd, aN cI 640 g)] H) (hD : va_D A [(mo, .inr (8, [.int (nI ps), .ref mpa, .int (nI nl), .int (nI nv), .ref msz, .ref mcd, .ref mbe, .ref mba, .int ol, .int (nI op), .int (nI os), .int (nI svn), .ref ms1, .ref ms2, .ref ms3, .ref ms4, .ref mfa, .ref mim, .ref mik])), (mbe, aN cI 26 b5), (mba, aN cI 26 b6), (msz, aN cI 80 z), (mcd, aN cI 640 g)]) (hS : va_S A s.heap H locs) (ls : Array Slot) (hl : lv_has ls 9 [(0, .ref mo), (1, .int (nI v)), (2, .int (nI way)), (3, .int (nI one)), (4, .int (nI oth)), (5, .int (nI n)), (6, .int (nI k)), (7, .int (nI pp))]), W p l e (headSpec wsX8_rowsAlike { frames := 3, cells := 0, slots := 0, locals := 65 }).room s m args below meth c H locs 0 0 Q (F0 m 92 ls []) := by
                      intro fu
                      induction fu with
                      | zero => intro pp b5 b6 hfu; exact absurd hfu (Nat.not_lt_zero _)
                      | succ fu ih_92 =>
                        intro pp b5 b6 hfu hp9 hb7 hb8 hq2 hpm2 H locs hP hD hS ls hl
                        refine lv_iload hx hb dX8_rowsAlike_92 (lv_at hl 7 rfl) ?_
                        refine lv_aload_n hx hb dX8_rowsAlike_94 rfl (lv_at hl 0 rfl) ?_
                        refine lv_iload_n hx hb dX8_rowsAlike_95 rfl (lv_at hl 1 rfl) ?_
                        refine lv_iload_n hx hb dX8_rowsAlike_96 rfl (lv_at hl 3 rfl) ?_
                        refine lv_iload hx hb dX8_rowsAlike_97 (lv_at hl 6 rfl) ?_
                        refine m_add hx hb dX8_rowsAlike_99 ?_
                        refine m_rdV (As := [.int (nI v), .int (nI (one + k))]) (rest := [.int (nI pp)]) (wc := [(mo, .inr (8, [.int (nI ps), .ref mpa, .int (nI nl), .int (nI nv), .ref msz, .ref mcd, .ref mbe, .ref mba, .int ol, .int (nI op), .int (nI os), .int (nI svn), .ref ms1, .ref ms2, .ref ms3, .ref ms4, .ref mfa, .ref mim, .ref mik])), (msz, aN cI 80 z)]) hcf (k_X8_size (l := l) (D := D) (cI := cI) (cZ := cZ) (v := v) (ln := one + k) (mo := mo) (ps := ps) (mpa := mpa) (nl := nl) (nv := nv) (msz := msz) (mcd := mcd) (mbe := mbe) (mba := mba) (ol := ol) (op := op) (os := os) (svn := svn) (ms1 := ms1) (ms2 := ms2) (ms3 := ms3) (ms4 := ms4) (mfa := mfa) (mim := mim) (mik := mik) (z := z) (hv := hv) (hln := by omega)) (cwV 2 hts gX8_rowsAlike_X8_size rfl rfl rfl yd_X8_size ⟨Nat.le_of_ble_eq_true rfl, Nat.le_of_ble_eq_true rfl⟩) (m_preV hK hP hD [0, 3] (by decide) rfl rfl rfl) rfl hl.1 rfl (Nat.le_of_ble_eq_true rfl) dX8_rowsAlike_100 ⟨Nat.zero_le _, Nat.zero_le _⟩ ?_
                        refine m_cmp_ge (tgt := 174) hx hb dX8_rowsAlike_103 (by decide) (by omega) (by omega) (fun c_103 => ?_) (fun c_103 => ?_)
                        · refine lv_iinc (v := nI (k + 1)) (lv' := [(6, .int (nI (k + 1))), (0, .ref mo), (1, .int (nI v)), (2, .int (nI way)), (3, .int (nI one)), (4, .int (nI oth)), (5, .int (nI n)), (7, .int (nI pp))]) hx hb dX8_rowsAlike_174 hl (k := 6) rfl ((nI_succ _).symm) (by decide) rfl (fun ls hl => ?_)
                          refine lv_goto (tgt := 58) hx hb dX8_rowsAlike_177 (by decide) ?_
                          have e9 : pp = z (v * 20 + (one + k)) := by omega
                          rw [e9] at hq2 hpm2
                          exact ih_58 (k + 1) _ _ (by omega) (by omega) hb7 hb8 (by rw [rwM_s hq c_84]; exact hq2) (by rw [rwM_s hq c_84]; exact hpm2) _ _ hP hD hS ls (lv_sub hl [1, 2, 3, 4, 5, 6, 0] rfl)
                        · refine lv_iload hx hb dX8_rowsAlike_106 (lv_at hl 6 rfl) ?_
                          refine lv_aload_n hx hb dX8_rowsAlike_108 rfl (lv_at hl 0 rfl) ?_
                          refine va_get (D := D) (ci := 8) (v := .int ol) (C := RX8) (T := TX8) (N := 19) hx hb hts i_X8 hown hK.1 hP 0 rfl rfl 8 (by decide) f_25 (fun _ h9 => h9) rfl dX8_rowsAlike_109 ?_
                          refine lv_icmp_ne (tgt := 131) hx hb dX8_rowsAlike_112 (by decide) (fun c_112 => ?_) (fun c_112 => ?_)
                          · refine lv_aload_n hx hb dX8_rowsAlike_131 rfl (lv_at hl 0 rfl) ?_
                            refine lv_iload_n hx hb dX8_rowsAlike_132 rfl (lv_at hl 1 rfl) ?_
                            refine lv_iload hx hb dX8_rowsAlike_133 (lv_at hl 4 rfl) ?_
                            refine lv_iload hx hb dX8_rowsAlike_135 (lv_at hl 6 rfl) ?_
                            refine m_add hx hb dX8_rowsAlike_137 ?_
                            refine lv_iload hx hb dX8_rowsAlike_138 (lv_at hl 7 rfl) ?_
                            refine m_rdV (As := [.int (nI v), .int (nI (oth + k)), .int (nI pp)]) (rest := []) (wc := [(mo, .inr (8, [.int (nI ps), .ref mpa, .int (nI nl), .int (nI nv), .ref msz, .ref mcd, .ref mbe, .ref mba, .int ol, .int (nI op), .int (nI os), .int (nI svn), .ref ms1, .ref ms2, .ref ms3, .ref ms4, .ref mfa, .ref mim, .ref mik])), (mcd, aN cI 640 g)]) hcf (k_X8_signAt (l := l) (D := D) (cI := cI) (cZ := cZ) (v := v) (ln := oth + k) (k := pp) (mo := mo) (ps := ps) (mpa := mpa) (nl := nl) (nv := nv) (msz := msz) (mcd := mcd) (mbe := mbe) (mba := mba) (ol := ol) (op := op) (os := os) (svn := svn) (ms1 := ms1) (ms2 := ms2) (ms3 := ms3) (ms4 := ms4) (mfa := mfa) (mim := mim) (mik := mik) (g := g) (hv := hv) (hln := by omega) (hk := by omega)) (cwV 3 hts gX8_rowsAlike_X8_signAt rfl rfl rfl yd_X8_signAt ⟨Nat.le_of_ble_eq_true rfl, Nat.le_of_ble_eq_true rfl⟩) (m_preV hK hP hD [0, 4] (by decide) rfl rfl rfl) rfl hl.1 rfl (Nat.le_of_ble_eq_true rfl) dX8_rowsAlike_140 ⟨Nat.zero_le _, Nat.zero_le _⟩ ?_
                            refine m_top (y := nI (sgN z g (v * 20 + (oth + k)) pp)) (by rw [sg_g (by omega)]) ?_
                            refine lv_istore (lv' := [(8, .int (nI (sgN z g (v * 20 + (oth + k)) pp))), (0, .ref mo), (1, .int (nI v)), (2, .int (nI way)), (3, .int (nI one)), (4, .int (nI oth)), (5, .int (nI n)), (6, .int (nI k)), (7, .int (nI pp))]) hx hb dX8_rowsAlike_143 hl (by decide) rfl (fun ls hl => ?_)
                            refine lv_aload_n hx hb dX8_rowsAlike_145 rfl (lv_at hl 1 rfl) ?_
                            refine lv_iload_n hx hb dX8_rowsAlike_146 rfl (lv_at hl 3 rfl) ?_
                            refine lv_aload_n hx hb dX8_rowsAlike_147 rfl (lv_at hl 1 rfl) ?_
                            refine lv_iload_n hx hb dX8_rowsAlike_148 rfl (lv_at hl 2 rfl) ?_
                            refine lv_iload_n hx hb dX8_rowsAlike_149 rfl (lv_at hl 4 rfl) ?_
                            refine lv_iload hx hb dX8_rowsAlike_150 (lv_at hl 7 rfl) ?_
                            refine m_add hx hb dX8_rowsAlike_152 ?_
                            refine lv_iload hx hb dX8_rowsAlike_153 (lv_at hl 8 rfl) ?_
                            refine m_rdV (As := [.int (nI v), .int (nI (one + k)), .int (nI pp)]) (rest := [.int (nI way), .ref mo]) (wc := [(mo, .inr (8, [.int (nI ps), .ref mpa, .int (nI nl), .int (nI nv), .ref msz, .ref mcd, .ref mbe, .ref mba, .int ol, .int (nI op), .int (nI os), .int (nI svn), .ref ms1, .ref ms2, .ref ms3, .ref ms4, .ref mfa, .ref mim, .ref mik])), (mcd, aN cI 640 g)]) hcf (k_X8_signAt (l := l) (D := D) (cI := cI) (cZ := cZ) (v := v) (ln := one + k) (k := pp) (mo := mo) (ps := ps) (mpa := mpa) (nl := nl) (nv := nv) (msz := msz) (mcd := mcd) (mbe := mbe) (mba := mba) (ol := ol) (op := op) (os := os) (svn := svn) (ms1 := ms1) (ms2 := ms2) (ms3 := ms3) (ms4 := ms4) (mfa := mfa) (mim := mim) (mik := mik) (g := g) (hv := hv) (hln := by omega) (hk := by omega)) (cwV 3 hts gX8_rowsAlike_X8_signAt rfl rfl rfl yd_X8_signAt ⟨Nat.le_of_ble_eq_true rfl, Nat.le_of_ble_eq_true rfl⟩) (m_preV hK hP hD [0, 4] (by decide) rfl rfl rfl) rfl hl.1 rfl (Nat.le_of_ble_eq_true rfl) dX8_rowsAlike_155 ⟨Nat.zero_le _, Nat.zero_le _⟩ ?_
                            refine m_top (y := nI (sgN z g (v * 20 + (one + k)) pp)) (by rw [sg_g (by omega)]) ?_
                            refine lv_iload hx hb dX8_rowsAlike_158 (lv_at hl 0 rfl) ?_
                            refine m_wrV (As := [.int (nI way), .int (nI (sgN z g (v * 20 + (one + k)) pp)), .int (nI (sgN z g (v * 20 + (oth + k)) pp))]) (rest := []) (wc := [(mo, .inr (8, [.int (nI ps), .ref mpa, .int (nI nl), .int (nI nv), .ref msz, .ref mcd, .ref mbe, .ref mba, .int ol, .int (nI op), .int (nI os), .int (nI svn), .ref ms1, .ref ms2, .ref ms3, .ref ms4, .ref mfa, .ref mim, .ref mik])), (mbe, aN cI 26 b5), (mba, aN cI 26 b6)]) hcf (k_X8_areAlike (l := l) (D := D) (cI := cI) (cZ := cZ) (way := way) (a := sgN z g (v * 20 + (one + k)) pp) (b := sgN z g (v * 20 + (oth + k)) pp) (mo := mo) (ps := ps) (mpa := mpa) (nl := nl) (nv := nv) (msz := msz) (mcd := mcd) (mbe := mbe) (mba := mba) (ol := ol) (op := op) (os := os) (svn := svn) (ms1 := ms1) (ms2 := ms2) (ms3 := ms3) (ms4 := ms4) (mfa := mfa) (mim := mim) (mik := mik) (be := b5) (ba := b6) (L := (lnX way (sgN z g (v * 20 + (one + k))) (rpN z g (v * 20 + (oth + k)) k ol op os) (fun _ => false) (rwM way z g v one oth ol op os k).2 pp).2) (hpm := hpm2) (hw := hw) (ha := sgN_le hg _ _) (hb2 := by first | exact hos | exact sgN_le hg _ _) (hbe := hb7) (hba := hb8)) (cwV 3 hts gX8_rowsAlike_X8_areAlike rfl rfl rfl yd_X8_areAlike ⟨Nat.le_of_ble_eq_true rfl, Nat.le_of_ble_eq_true rfl⟩) hK hP hD hS [0, 1, 2] (by decide) rfl rfl rfl rfl hl.1 rfl (Nat.le_of_ble_eq_true rfl) dX8_rowsAlike_160 ⟨Nat.zero_le _, Nat.zero_le _⟩ (fun _ => rfl) (fun (u : (Nat → Nat) × (Nat → Nat)) => [(mo, .inr (8, [.int (nI ps), .ref mpa, .int (nI nl), .int (nI nv), .ref msz, .ref mcd, .ref mbe, .ref mba, .int ol, .int (nI op), .int (nI os), .int (nI svn), .ref ms1, .ref ms2, .ref ms3, .ref ms4, .ref mfa, .ref mim, .ref mik])), (mbe, aN cI 26 u.1), (mba, aN cI 26 u.2), (msz, aN cI 80 z), (mcd, aN cI 640 g)]) (fun _ => rfl) (fun r u H locs hp_160 hP hD hS => ?_)
                            obtain ⟨beu_160, bau_160⟩ := u
                            have hP : va_P D vwCl [(mo, .inr (8, [.int (nI ps), .ref mpa, .int (nI nl), .int (nI nv), .ref msz, .ref mcd, .ref mbe, .ref mba, .int ol, .int (nI op), .int (nI os), .int (nI svn), .ref ms1, .ref ms2, .ref ms3, .ref ms4, .ref mfa, .ref mim, .ref mik])), (mbe, aN cI 26 beu_160), (mba, aN cI 26 bau_160), (msz, aN cI 80 z), (mcd, aN cI 640 g)] H := hP
                            have hD : va_D A [(mo, .inr (8, [.int (nI ps), .ref mpa, .int (nI nl), .int (nI nv), .ref msz, .ref mcd, .ref mbe, .ref mba, .int ol, .int (nI op), .int (nI os), .int (nI svn), .ref ms1, .ref ms2, .ref ms3, .ref ms4, .ref mfa, .ref mim, .ref mik])), (mbe, aN cI 26 beu_160), (mba, aN cI 26 bau_160), (msz, aN cI 80 z), (mcd, aN cI 640 g)] := hD
                            try dsimp only at hp_160
                            obtain ⟨hr_hp_160, hp_160⟩ := hp_160
                            rw [hr_hp_160]
                            refine m_ifB_ne (tgt := 168) hx hb dX8_rowsAlike_163 (by decide) (fun c_163 => ?_) (fun c_163 => ?_)
                            · refine lv_iinc (v := nI (pp + 1)) (lv' := [(7, .int (nI (pp + 1))), (8, .int (nI (sgN z g (v * 20 + (oth + k)) pp))), (0, .ref mo), (1, .int (nI v)), (2, .int (nI way)), (3, .int (nI one)), (4, .int (nI oth)), (5, .int (nI n)), (6, .int (nI k))]) hx hb dX8_rowsAlike_168 hl (k := 8) rfl ((nI_succ _).symm) (by decide) rfl (fun ls hl => ?_)
                              refine lv_goto (tgt := 92) hx hb dX8_rowsAlike_171 (by decide) ?_
                              have E8 : rpN z g (v * 20 + (oth + k)) k ol op os pp = sgN z g (v * 20 + (oth + k)) pp := if_neg (by first | (intro h; exact c_112 h.1) | (intro h; exact c_121 h.2))
                              have E7 := lnX_s (sk := fun _ => false) hq2 rfl
                              rw [E8] at E7
                              exact ih_92 (pp + 1) _ _ (by omega) (by omega) hp_160.2.1 hp_160.2.2 (by rw [E7]; exact c_163) (by rw [E7]; exact hp_160.1 c_163) _ _ hP hD hS ls (lv_sub hl [2, 3, 4, 5, 6, 7, 8, 0] rfl)
                            · refine lv_iconst (v := nI 0) hx hb dX8_rowsAlike_166 (by decide) ?_
                              rw [hQ]
                              have E8 : rpN z g (v * 20 + (oth + k)) k ol op os pp = sgN z g (v * 20 + (oth + k)) pp := if_neg (by first | (intro h; exact c_112 h.1) | (intro h; exact c_121 h.2))
                              have E7 := lnX_s (sk := fun _ => false) hq2 rfl
                              rw [E8] at E7
                              have E6 : (lnX way (sgN z g (v * 20 + (one + k))) (rpN z g (v * 20 + (oth + k)) k ol op os) (fun _ => false) (rwM way z g v one oth ol op os k).2 (pp + 1)).1 = false := by rw [E7]; exact c_163
                              have E5 := lnX_stop E6 (z (v * 20 + (one + k)) - (pp + 1))
                              rw [show pp + 1 + (z (v * 20 + (one + k)) - (pp + 1)) = z (v * 20 + (one + k)) by omega] at E5
                              have E4 : (rwM way z g v one oth ol op os n).1 = false := rwM_fail (by rw [rwM_s hq c_84, E5]; exact E6) c_62
                              have K9 : rmB way z g v nl one oth n ol op os = false := by unfold rmB; rw [E4, Bool.and_false]
                              exact m_zwr hx hb hr hlocks (beu_160, bau_160) (nI_01 (by omega)) (⟨bb_zero K9, fun h => by (rw [K9] at h; cases h), hp_160.2.1, hp_160.2.2⟩) hP hS dX8_rowsAlike_167
                          · refine lv_iload hx hb dX8_rowsAlike_115 (lv_at hl 7 rfl) ?_
                            refine lv_aload_n hx hb dX8_rowsAlike_117 rfl (lv_at hl 0 rfl) ?_
                            refine va_get (D := D) (ci := 8) (v := .int (nI op)) (C := RX8) (T := TX8) (N := 19) hx hb hts i_X8 hown hK.1 hP 0 rfl rfl 9 (by decide) f_96 (fun _ h9 => h9) rfl dX8_rowsAlike_118 ?_
                            refine m_cmp_ne (tgt := 131) hx hb dX8_rowsAlike_121 (by decide) (by omega) (by omega) (fun c_121 => ?_) (fun c_121 => ?_)
                            · refine lv_aload_n hx hb dX8_rowsAlike_131 rfl (lv_at hl 0 rfl) ?_
                              refine lv_iload_n hx hb dX8_rowsAlike_132 rfl (lv_at hl 1 rfl) ?_
                              refine lv_iload hx hb dX8_rowsAlike_133 (lv_at hl 4 rfl) ?_
                              refine lv_iload hx hb dX8_rowsAlike_135 (lv_at hl 6 rfl) ?_
                              refine m_add hx hb dX8_rowsAlike_137 ?_
                              refine lv_iload hx hb dX8_rowsAlike_138 (lv_at hl 7 rfl) ?_
                              refine m_rdV (As := [.int (nI v), .int (nI (oth + k)), .int (nI pp)]) (rest := []) (wc := [(mo, .inr (8, [.int (nI ps), .ref mpa, .int (nI nl), .int (nI nv), .ref msz, .ref mcd, .ref mbe, .ref mba, .int ol, .int (nI op), .int (nI os), .int (nI svn), .ref ms1, .ref ms2, .ref ms3, .ref ms4, .ref mfa, .ref mim, .ref mik])), (mcd, aN cI 640 g)]) hcf (k_X8_signAt (l := l) (D := D) (cI := cI) (cZ := cZ) (v := v) (ln := oth + k) (k := pp) (mo := mo) (ps := ps) (mpa := mpa) (nl := nl) (nv := nv) (msz := msz) (mcd := mcd) (mbe := mbe) (mba := mba) (ol := ol) (op := op) (os := os) (svn := svn) (ms1 := ms1) (ms2 := ms2) (ms3 := ms3) (ms4 := ms4) (mfa := mfa) (mim := mim) (mik := mik) (g := g) (hv := hv) (hln := by omega) (hk := by omega)) (cwV 3 hts gX8_rowsAlike_X8_signAt rfl rfl rfl yd_X8_signAt ⟨Nat.le_of_ble_eq_true rfl, Nat.le_of_ble_eq_true rfl⟩) (m_preV hK hP hD [0, 4] (by decide) rfl rfl rfl) rfl hl.1 rfl (Nat.le_of_ble_eq_true rfl) dX8_rowsAlike_140 ⟨Nat.zero_le _, Nat.zero_le _⟩ ?_
                              refine m_top (y := nI (sgN z g (v * 20 + (oth + k)) pp)) (by rw [sg_g (by omega)]) ?_
                              refine lv_istore (lv' := [(8, .int (nI (sgN z g (v * 20 + (oth + k)) pp))), (0, .ref mo), (1, .int (nI v)), (2, .int (nI way)), (3, .int (nI one)), (4, .int (nI oth)), (5, .int (nI n)), (6, .int (nI k)), (7, .int (nI pp))]) hx hb dX8_rowsAlike_143 hl (by decide) rfl (fun ls hl => ?_)
                              refine lv_aload_n hx hb dX8_rowsAlike_145 rfl (lv_at hl 1 rfl) ?_
                              refine lv_iload_n hx hb dX8_rowsAlike_146 rfl (lv_at hl 3 rfl) ?_
                              refine lv_aload_n hx hb dX8_rowsAlike_147 rfl (lv_at hl 1 rfl) ?_
                              refine lv_iload_n hx hb dX8_rowsAlike_148 rfl (lv_at hl 2 rfl) ?_
                              refine lv_iload_n hx hb dX8_rowsAlike_149 rfl (lv_at hl 4 rfl) ?_
                              refine lv_iload hx hb dX8_rowsAlike_150 (lv_at hl 7 rfl) ?_
                              refine m_add hx hb dX8_rowsAlike_152 ?_
                              refine lv_iload hx hb dX8_rowsAlike_153 (lv_at hl 8 rfl) ?_
                              refine m_rdV (As := [.int (nI v), .int (nI (one + k)), .int (nI pp)]) (rest := [.int (nI way), .ref mo]) (wc := [(mo, .inr (8, [.int (nI ps), .ref mpa, .int (nI nl), .int (nI nv), .ref msz, .ref mcd, .ref mbe, .ref mba, .int ol, .int (nI op), .int (nI os), .int (nI svn), .ref ms1, .ref ms2, .ref ms3, .ref ms4, .ref mfa, .ref mim, .ref mik])), (mcd, aN cI 640 g)]) hcf (k_X8_signAt (l := l) (D := D) (cI := cI) (cZ := cZ) (v := v) (ln := one + k) (k := pp) (mo := mo) (ps := ps) (mpa := mpa) (nl := nl) (nv := nv) (msz := msz) (mcd := mcd) (mbe := mbe) (mba := mba) (ol := ol) (op := op) (os := os) (svn := svn) (ms1 := ms1) (ms2 := ms2) (ms3 := ms3) (ms4 := ms4) (mfa := mfa) (mim := mim) (mik := mik) (g := g) (hv := hv) (hln := by omega) (hk := by omega)) (cwV 3 hts gX8_rowsAlike_X8_signAt rfl rfl rfl yd_X8_signAt ⟨Nat.le_of_ble_eq_true rfl, Nat.le_of_ble_eq_true rfl⟩) (m_preV hK hP hD [0, 4] (by decide) rfl rfl rfl) rfl hl.1 rfl (Nat.le_of_ble_eq_true rfl) dX8_rowsAlike_155 ⟨Nat.zero_le _, Nat.zero_le _⟩ ?_
                              refine m_top (y := nI (sgN z g (v * 20 + (one + k)) pp)) (by rw [sg_g (by omega)]) ?_
                              refine lv_iload hx hb dX8_rowsAlike_158 (lv_at hl 0 rfl) ?_
                              refine m_wrV (As := [.int (nI way), .int (nI (sgN z g (v * 20 + (one + k)) pp)), .int (nI (sgN z g (v * 20 + (oth + k)) pp))]) (rest := []) (wc := [(mo, .inr (8, [.int (nI ps), .ref mpa, .int (nI nl), .int (nI nv), .ref msz, .ref mcd, .ref mbe, .ref mba, .int ol, .int (nI op), .int (nI os), .int (nI svn), .ref ms1, .ref ms2, .ref ms3, .ref ms4, .ref mfa, .ref mim, .ref mik])), (mbe, aN cI 26 b5), (mba, aN cI 26 b6)]) hcf (k_X8_areAlike (l := l) (D := D) (cI := cI) (cZ := cZ) (way := way) (a := sgN z g (v * 20 + (one + k)) pp) (b := sgN z g (v * 20 + (oth + k)) pp) (mo := mo) (ps := ps) (mpa := mpa) (nl := nl) (nv := nv) (msz := msz) (mcd := mcd) (mbe := mbe) (mba := mba) (ol := ol) (op := op) (os := os) (svn := svn) (ms1 := ms1) (ms2 := ms2) (ms3 := ms3) (ms4 := ms4) (mfa := mfa) (mim := mim) (mik := mik) (be := b5) (ba := b6) (L := (lnX way (sgN z g (v * 20 + (one + k))) (rpN z g (v * 20 + (oth + k)) k ol op os) (fun _ => false) (rwM way z g v one oth ol op os k).2 pp).2) (hpm := hpm2) (hw := hw) (ha := sgN_le hg _ _) (hb2 := by first | exact hos | exact sgN_le hg _ _) (hbe := hb7) (hba := hb8)) (cwV 3 hts gX8_rowsAlike_X8_areAlike rfl rfl rfl yd_X8_areAlike ⟨Nat.le_of_ble_eq_true rfl, Nat.le_of_ble_eq_true rfl⟩) hK hP hD hS [0, 1, 2] (by decide) rfl rfl rfl rfl hl.1 rfl (Nat.le_of_ble_eq_true rfl) dX8_rowsAlike_160 ⟨Nat.zero_le _, Nat.zero_le _⟩ (fun _ => rfl) (fun (u : (Nat → Nat) × (Nat → Nat)) => [(mo, .inr (8, [.int (nI ps), .ref mpa, .int (nI nl), .int (nI nv), .ref msz, .ref mcd, .ref mbe, .ref mba, .int ol, .int (nI op), .int (nI os), .int (nI svn), .ref ms1, .ref ms2, .ref ms3, .ref ms4, .ref mfa, .ref mim, .ref mik])), (mbe, aN cI 26 u.1), (mba, aN cI 26 u.2), (msz, aN cI 80 z), (mcd, aN cI 640 g)]) (fun _ => rfl) (fun r u H locs hp_160 hP hD hS => ?_)
                              obtain ⟨beu_160, bau_160⟩ := u
                              have hP : va_P D vwCl [(mo, .inr (8, [.int (nI ps), .ref mpa, .int (nI nl), .int (nI nv), .ref msz, .ref mcd, .ref mbe, .ref mba, .int ol, .int (nI op), .int (nI os), .int (nI svn), .ref ms1, .ref ms2, .ref ms3, .ref ms4, .ref mfa, .ref mim, .ref mik])), (mbe, aN cI 26 beu_160), (mba, aN cI 26 bau_160), (msz, aN cI 80 z), (mcd, aN cI 640 g)] H := hP
                              have hD : va_D A [(mo, .inr (8, [.int (nI ps), .ref mpa, .int (nI nl), .int (nI nv), .ref msz, .ref mcd, .ref mbe, .ref mba, .int ol, .int (nI op), .int (nI os), .int (nI svn), .ref ms1, .ref ms2, .ref ms3, .ref ms4, .ref mfa, .ref mim, .ref mik])), (mbe, aN cI 26 beu_160), (mba, aN cI 26 bau_160), (msz, aN cI 80 z), (mcd, aN cI 640 g)] := hD
                              try dsimp only at hp_160
                              obtain ⟨hr_hp_160, hp_160⟩ := hp_160
                              rw [hr_hp_160]
                              refine m_ifB_ne (tgt := 168) hx hb dX8_rowsAlike_163 (by decide) (fun c_163 => ?_) (fun c_163 => ?_)
                              · refine lv_iinc (v := nI (pp + 1)) (lv' := [(7, .int (nI (pp + 1))), (8, .int (nI (sgN z g (v * 20 + (oth + k)) pp))), (0, .ref mo), (1, .int (nI v)), (2, .int (nI way)), (3, .int (nI one)), (4, .int (nI oth)), (5, .int (nI n)), (6, .int (nI k))]) hx hb dX8_rowsAlike_168 hl (k := 8) rfl ((nI_succ _).symm) (by decide) rfl (fun ls hl => ?_)
                                refine lv_goto (tgt := 92) hx hb dX8_rowsAlike_171 (by decide) ?_
                                have E8 : rpN z g (v * 20 + (oth + k)) k ol op os pp = sgN z g (v * 20 + (oth + k)) pp := if_neg (by first | (intro h; exact c_112 h.1) | (intro h; exact c_121 h.2))
                                have E7 := lnX_s (sk := fun _ => false) hq2 rfl
                                rw [E8] at E7
                                exact ih_92 (pp + 1) _ _ (by omega) (by omega) hp_160.2.1 hp_160.2.2 (by rw [E7]; exact c_163) (by rw [E7]; exact hp_160.1 c_163) _ _ hP hD hS ls (lv_sub hl [2, 3, 4, 5, 6, 7, 8, 0] rfl)
                              · refine lv_iconst (v := nI 0) hx hb dX8_rowsAlike_166 (by decide) ?_
                                rw [hQ]
                                have E8 : rpN z g (v * 20 + (oth + k)) k ol op os pp = sgN z g (v * 20 + (oth + k)) pp := if_neg (by first | (intro h; exact c_112 h.1) | (intro h; exact c_121 h.2))
                                have E7 := lnX_s (sk := fun _ => false) hq2 rfl
                                rw [E8] at E7
                                have E6 : (lnX way (sgN z g (v * 20 + (one + k))) (rpN z g (v * 20 + (oth + k)) k ol op os) (fun _ => false) (rwM way z g v one oth ol op os k).2 (pp + 1)).1 = false := by rw [E7]; exact c_163
                                have E5 := lnX_stop E6 (z (v * 20 + (one + k)) - (pp + 1))
                                rw [show pp + 1 + (z (v * 20 + (one + k)) - (pp + 1)) = z (v * 20 + (one + k)) by omega] at E5
                                have E4 : (rwM way z g v one oth ol op os n).1 = false := rwM_fail (by rw [rwM_s hq c_84, E5]; exact E6) c_62
                                have K9 : rmB way z g v nl one oth n ol op os = false := by unfold rmB; rw [E4, Bool.and_false]
                                exact m_zwr hx hb hr hlocks (beu_160, bau_160) (nI_01 (by omega)) (⟨bb_zero K9, fun h => by (rw [K9] at h; cases h), hp_160.2.1, hp_160.2.2⟩) hP hS dX8_rowsAlike_167
                            · refine lv_aload_n hx hb dX8_rowsAlike_124 rfl (lv_at hl 0 rfl) ?_
                              refine va_get (D := D) (ci := 8) (v := .int (nI os)) (C := RX8) (T := TX8) (N := 19) hx hb hts i_X8 hown hK.1 hP 0 rfl rfl 10 (by decide) f_99 (fun _ h9 => h9) rfl dX8_rowsAlike_125 ?_
                              refine lv_goto (tgt := 143) hx hb dX8_rowsAlike_128 (by decide) ?_
                              refine lv_istore (lv' := [(8, .int (nI os)), (0, .ref mo), (1, .int (nI v)), (2, .int (nI way)), (3, .int (nI one)), (4, .int (nI oth)), (5, .int (nI n)), (6, .int (nI k)), (7, .int (nI pp))]) hx hb dX8_rowsAlike_143 hl (by decide) rfl (fun ls hl => ?_)
                              refine lv_aload_n hx hb dX8_rowsAlike_145 rfl (lv_at hl 1 rfl) ?_
                              refine lv_iload_n hx hb dX8_rowsAlike_146 rfl (lv_at hl 3 rfl) ?_
                              refine lv_aload_n hx hb dX8_rowsAlike_147 rfl (lv_at hl 1 rfl) ?_
                              refine lv_iload_n hx hb dX8_rowsAlike_148 rfl (lv_at hl 2 rfl) ?_
                              refine lv_iload_n hx hb dX8_rowsAlike_149 rfl (lv_at hl 4 rfl) ?_
                              refine lv_iload hx hb dX8_rowsAlike_150 (lv_at hl 7 rfl) ?_
                              refine m_add hx hb dX8_rowsAlike_152 ?_
                              refine lv_iload hx hb dX8_rowsAlike_153 (lv_at hl 8 rfl) ?_
                              refine m_rdV (As := [.int (nI v), .int (nI (one + k)), .int (nI pp)]) (rest := [.int (nI way), .ref mo]) (wc := [(mo, .inr (8, [.int (nI ps), .ref mpa, .int (nI nl), .int (nI nv), .ref msz, .ref mcd, .ref mbe, .ref mba, .int ol, .int (nI op), .int (nI os), .int (nI svn), .ref ms1, .ref ms2, .ref ms3, .ref ms4, .ref mfa, .ref mim, .ref mik])), (mcd, aN cI 640 g)]) hcf (k_X8_signAt (l := l) (D := D) (cI := cI) (cZ := cZ) (v := v) (ln := one + k) (k := pp) (mo := mo) (ps := ps) (mpa := mpa) (nl := nl) (nv := nv) (msz := msz) (mcd := mcd) (mbe := mbe) (mba := mba) (ol := ol) (op := op) (os := os) (svn := svn) (ms1 := ms1) (ms2 := ms2) (ms3 := ms3) (ms4 := ms4) (mfa := mfa) (mim := mim) (mik := mik) (g := g) (hv := hv) (hln := by omega) (hk := by omega)) (cwV 3 hts gX8_rowsAlike_X8_signAt rfl rfl rfl yd_X8_signAt ⟨Nat.le_of_ble_eq_true rfl, Nat.le_of_ble_eq_true rfl⟩) (m_preV hK hP hD [0, 4] (by decide) rfl rfl rfl) rfl hl.1 rfl (Nat.le_of_ble_eq_true rfl) dX8_rowsAlike_155 ⟨Nat.zero_le _, Nat.zero_le _⟩ ?_
                              refine m_top (y := nI (sgN z g (v * 20 + (one + k)) pp)) (by rw [sg_g (by omega)]) ?_
                              refine lv_iload hx hb dX8_rowsAlike_158 (lv_at hl 0 rfl) ?_
                              refine m_wrV (As := [.int (nI way), .int (nI (sgN z g (v * 20 + (one + k)) pp)), .int (nI os)]) (rest := []) (wc := [(mo, .inr (8, [.int (nI ps), .ref mpa, .int (nI nl), .int (nI nv), .ref msz, .ref mcd, .ref mbe, .ref mba, .int ol, .int (nI op), .int (nI os), .int (nI svn), .ref ms1, .ref ms2, .ref ms3, .ref ms4, .ref mfa, .ref mim, .ref mik])), (mbe, aN cI 26 b5), (mba, aN cI 26 b6)]) hcf (k_X8_areAlike (l := l) (D := D) (cI := cI) (cZ := cZ) (way := way) (a := sgN z g (v * 20 + (one + k)) pp) (b := os) (mo := mo) (ps := ps) (mpa := mpa) (nl := nl) (nv := nv) (msz := msz) (mcd := mcd) (mbe := mbe) (mba := mba) (ol := ol) (op := op) (os := os) (svn := svn) (ms1 := ms1) (ms2 := ms2) (ms3 := ms3) (ms4 := ms4) (mfa := mfa) (mim := mim) (mik := mik) (be := b5) (ba := b6) (L := (lnX way (sgN z g (v * 20 + (one + k))) (rpN z g (v * 20 + (oth + k)) k ol op os) (fun _ => false) (rwM way z g v one oth ol op os k).2 pp).2) (hpm := hpm2) (hw := hw) (ha := sgN_le hg _ _) (hb2 := by first | exact hos | exact sgN_le hg _ _) (hbe := hb7) (hba := hb8)) (cwV 3 hts gX8_rowsAlike_X8_areAlike rfl rfl rfl yd_X8_areAlike ⟨Nat.le_of_ble_eq_true rfl, Nat.le_of_ble_eq_true rfl⟩) hK hP hD hS [0, 1, 2] (by decide) rfl rfl rfl rfl hl.1 rfl (Nat.le_of_ble_eq_true rfl) dX8_rowsAlike_160 ⟨Nat.zero_le _, Nat.zero_le _⟩ (fun _ => rfl) (fun (u : (Nat → Nat) × (Nat → Nat)) => [(mo, .inr (8, [.int (nI ps), .ref mpa, .int (nI nl), .int (nI nv), .ref msz, .ref mcd, .ref mbe, .ref mba, .int ol, .int (nI op), .int (nI os), .int (nI svn), .ref ms1, .ref ms2, .ref ms3, .ref ms4, .ref mfa, .ref mim, .ref mik])), (mbe, aN cI 26 u.1), (mba, aN cI 26 u.2), (msz, aN cI 80 z), (mcd, aN cI 640 g)]) (fun _ => rfl) (fun r u H locs hp_160 hP hD hS => ?_)
                              obtain ⟨beu_160, bau_160⟩ := u
                              have hP : va_P D vwCl [(mo, .inr (8, [.int (nI ps), .ref mpa, .int (nI nl), .int (nI nv), .ref msz, .ref mcd, .ref mbe, .ref mba, .int ol, .int (nI op), .int (nI os), .int (nI svn), .ref ms1, .ref ms2, .ref ms3, .ref ms4, .ref mfa, .ref mim, .ref mik])), (mbe, aN cI 26 beu_160), (mba, aN cI 26 bau_160), (msz, aN cI 80 z), (mcd, aN cI 640 g)] H := hP
                              have hD : va_D A [(mo, .inr (8, [.int (nI ps), .ref mpa, .int (nI nl), .int (nI nv), .ref msz, .ref mcd, .ref mbe, .ref mba, .int ol, .int (nI op), .int (nI os), .int (nI svn), .ref ms1, .ref ms2, .ref ms3, .ref ms4, .ref mfa, .ref mim, .ref mik])), (mbe, aN cI 26 beu_160), (mba, aN cI 26 bau_160), (msz, aN cI 80 z), (mcd, aN cI 640 g)] := hD
                              try dsimp only at hp_160
                              obtain ⟨hr_hp_160, hp_160⟩ := hp_160
                              rw [hr_hp_160]
                              refine m_ifB_ne (tgt := 168) hx hb dX8_rowsAlike_163 (by decide) (fun c_163 => ?_) (fun c_163 => ?_)
                              · refine lv_iinc (v := nI (pp + 1)) (lv' := [(7, .int (nI (pp + 1))), (8, .int (nI os)), (0, .ref mo), (1, .int (nI v)), (2, .int (nI way)), (3, .int (nI one)), (4, .int (nI oth)), (5, .int (nI n)), (6, .int (nI k))]) hx hb dX8_rowsAlike_168 hl (k := 8) rfl ((nI_succ _).symm) (by decide) rfl (fun ls hl => ?_)
                                refine lv_goto (tgt := 92) hx hb dX8_rowsAlike_171 (by decide) ?_
                                have E8 : rpN z g (v * 20 + (oth + k)) k ol op os pp = os := if_pos ⟨c_112, c_121⟩
                                have E7 := lnX_s (sk := fun _ => false) hq2 rfl
                                rw [E8] at E7
                                exact ih_92 (pp + 1) _ _ (by omega) (by omega) hp_160.2.1 hp_160.2.2 (by rw [E7]; exact c_163) (by rw [E7]; exact hp_160.1 c_163) _ _ hP hD hS ls (lv_sub hl [2, 3, 4, 5, 6, 7, 8, 0] rfl)
                              · refine lv_iconst (v := nI 0) hx hb dX8_rowsAlike_166 (by decide) ?_
                                rw [hQ]
                                have E8 : rpN z g (v * 20 + (oth + k)) k ol op os pp = os := if_pos ⟨c_112, c_121⟩
                                have E7 := lnX_s (sk := fun _ => false) hq2 rfl
                                rw [E8] at E7
                                have E6 : (lnX way (sgN z g (v * 20 + (one + k))) (rpN z g (v * 20 + (oth + k)) k ol op os) (fun _ => false) (rwM way z g v one oth ol op os k).2 (pp + 1)).1 = false := by rw [E7]; exact c_163
                                have E5 := lnX_stop E6 (z (v * 20 + (one + k)) - (pp + 1))
                                rw [show pp + 1 + (z (v * 20 + (one + k)) - (pp + 1)) = z (v * 20 + (one + k)) by omega] at E5
                                have E4 : (rwM way z g v one oth ol op os n).1 = false := rwM_fail (by rw [rwM_s hq c_84, E5]; exact E6) c_62
                                have K9 : rmB way z g v nl one oth n ol op os = false := by unfold rmB; rw [E4, Bool.and_false]
                                exact m_zwr hx hb hr hlocks (beu_160, bau_160) (nI_01 (by omega)) (⟨bb_zero K9, fun h => by (rw [K9] at h; cases h), hp_160.2.1, hp_160.2.2⟩) hP hS dX8_rowsAlike_167
                    exact loop_92 (z (v * 20 + (one + k)) + 1) 0 b3 b4 (by omega) (by omega) hb5 hb6 rfl hpm _ _ hP hD hS ls (lv_sub hl [1, 2, 3, 4, 5, 6, 7, 0] rfl)
                  · refine lv_iconst (v := nI 0) hx hb dX8_rowsAlike_87 (by decide) ?_
                    rw [hQ]
                    have K9 : rmB way z g v nl one oth n ol op os = false := by unfold rmB; rw [rwM_fail (rwM_z hq c_84) c_62, Bool.and_false]
                    exact m_zwr hx hb hr hlocks (b3, b4) (nI_01 (by omega)) (⟨bb_zero K9, fun h => by (rw [K9] at h; cases h), hb5, hb6⟩) hP hS dX8_rowsAlike_88
            exact loop_58 (n + 1) 0 b1 b2 (by omega) (by omega) hb1 hb3 rfl (pmM_nil (fun j hj => hc1 j (by omega)) (fun j hj => hc2 j (by omega))) _ _ hP hD hS ls (lv_sub hl [1, 2, 3, 4, 5, 6, 0] rfl)
          · refine lv_aload_n hx hb dX8_rowsAlike_33 rfl (lv_at hl 0 rfl) ?_
            refine va_get (D := D) (ci := 8) (v := .ref mbe) (C := RX8) (T := TX8) (N := 19) hx hb hts i_X8 hown hK.1 hP 0 rfl rfl 6 (by decide) f_19 (fun _ h9 => h9) rfl dX8_rowsAlike_34 ?_
            refine lv_iload hx hb dX8_rowsAlike_37 (lv_at hl 6 rfl) ?_
            refine lv_iconst (v := nI 0) hx hb dX8_rowsAlike_39 (by decide) ?_
            refine m_ast hx hb hK hP hD hS 1 rfl (by decide) (by omega) dX8_rowsAlike_40 (ws' := [(mo, .inr (8, [.int (nI ps), .ref mpa, .int (nI nl), .int (nI nv), .ref msz, .ref mcd, .ref mbe, .ref mba, .int ol, .int (nI op), .int (nI os), .int (nI svn), .ref ms1, .ref ms2, .ref ms3, .ref ms4, .ref mfa, .ref mim, .ref mik])), (mbe, aN cI 26 (upN b1 i 0)), (mba, aN cI 26 b2), (msz, aN cI 80 z), (mcd, aN cI 640 g)]) rfl (fun H locs hP hD hS => ?_)
            refine lv_aload_n hx hb dX8_rowsAlike_41 rfl (lv_at hl 0 rfl) ?_
            refine va_get (D := D) (ci := 8) (v := .ref mba) (C := RX8) (T := TX8) (N := 19) hx hb hts i_X8 hown hK.1 hP 0 rfl rfl 7 (by decide) f_22 (fun _ h9 => h9) rfl dX8_rowsAlike_42 ?_
            refine lv_iload hx hb dX8_rowsAlike_45 (lv_at hl 6 rfl) ?_
            refine lv_iconst (v := nI 0) hx hb dX8_rowsAlike_47 (by decide) ?_
            refine m_ast hx hb hK hP hD hS 2 rfl (by decide) (by omega) dX8_rowsAlike_48 (ws' := [(mo, .inr (8, [.int (nI ps), .ref mpa, .int (nI nl), .int (nI nv), .ref msz, .ref mcd, .ref mbe, .ref mba, .int ol, .int (nI op), .int (nI os), .int (nI svn), .ref ms1, .ref ms2, .ref ms3, .ref ms4, .ref mfa, .ref mim, .ref mik])), (mbe, aN cI 26 (upN b1 i 0)), (mba, aN cI 26 (upN b2 i 0)), (msz, aN cI 80 z), (mcd, aN cI 640 g)]) rfl (fun H locs hP hD hS => ?_)
            refine lv_iinc (v := nI (i + 1)) (lv' := [(6, .int (nI (i + 1))), (0, .ref mo), (1, .int (nI v)), (2, .int (nI way)), (3, .int (nI one)), (4, .int (nI oth)), (5, .int (nI n))]) hx hb dX8_rowsAlike_49 hl (k := 6) rfl ((nI_succ _).symm) (by decide) rfl (fun ls hl => ?_)
            refine lv_goto (tgt := 26) hx hb dX8_rowsAlike_52 (by decide) ?_
            exact ih_26 (i + 1) _ _ (by omega) (by omega) (upN_le hb1 (by omega)) (upN_le hb3 (by omega)) (fun j hj => by by_cases q : j = i; rw [q, upN_s]; rw [upN_ne q]; exact hc1 j (by omega)) (fun j hj => by by_cases q : j = i; rw [q, upN_s]; rw [upN_ne q]; exact hc2 j (by omega)) _ _ hP hD hS ls (lv_sub hl [1, 2, 3, 4, 5, 6, 0] rfl)
      exact loop_26 27 0 be ba (by omega) (by omega) hbe hba (fun j hj => absurd hj (Nat.not_lt_zero j)) (fun j hj => absurd hj (Nat.not_lt_zero j)) _ _ hP hD hS ls (lv_sub hl [1, 2, 3, 4, 5, 6, 0] rfl)
    · refine lv_iconst (v := nI 0) hx hb dX8_rowsAlike_21 (by decide) ?_
      rw [hQ]
      have K9 : rmB way z g v nl one oth n ol op os = false := by unfold rmB; first | (rw [c_7]; rfl) | (rw [c_18, Bool.and_false]; rfl)
      exact m_zwr hx hb hr hlocks (be, ba) (nI_01 (by omega)) (⟨bb_zero K9, fun h => by (rw [K9] at h; cases h), hbe, hba⟩) hP hS dX8_rowsAlike_22

theorem yd_X8_areRows : yX8_areRows.cls = RX8 ∧ yX8_areRows.cls ≠ "java/lang/invoke/MethodHandle" ∧ yX8_areRows.cls ≠ "java/lang/invoke/VarHandle" ∧ (parseMethodDescriptor yX8_areRows.desc).map (fun d => d.parameters.length) = some 4 := by decide +kernel
set_option maxHeartbeats 4000000 in
set_option maxRecDepth 100000 in
theorem k_X8_areRows (l : Launch) (D : va_G) (cI cZ : ClassId) (way one oth n : Int32)  : Met l yX8_areRows wsX8_areRows ({ frames := 2, cells := 0, slots := 0, locals := 42 }) (mPc [.int way, .int one, .int oth, .int n] D cI cZ []) (QcRead (bI (ixB way 3 && arB one oth n))) 0 0 (fun _ => False) := by
  refine Met.ofW (cc := cX8_areRows) (maxL := 4) (ret := (some .boolean)) (by decide) rfl ?_
  intro p e s m args below meth c s₁ BB hml hv
  obtain ⟨hargs, hP, hD0, hK⟩ := hv
  have hx := BB.exec
  have hb := BB.bytes
  have hr := BB.returns
  have hts := atoms_spec (ws := wsX8_areRows) BB.pre
  have hown : s.vm.findClass RX8 = some m.cls := findClass_of_methodNamed BB.named
  have hlocks := BB.notSynchronized
  have hcf : CallFix p m c cX8_areRows 4 s args wsX8_areRows RX8 := ⟨hx, hb, hml, hown, hts⟩
  have hD := hD0
  rw [hargs, lg_entry_eq, ← hargs]
  have hl := lv_entry ([.int way, .int one, .int oth, .int n]) (n := 4) (Nat.le_of_ble_eq_true rfl)
  generalize (lg_sl ([.int way, .int one, .int oth, .int n]) ++ List.replicate (4 - (lg_sl ([.int way, .int one, .int oth, .int n])).length) Slot.unset).toArray = ls at hl ⊢
  have hl : lv_has ls 4 [(0, .int way), (1, .int one), (2, .int oth), (3, .int n)] := hl
  obtain ⟨Q, hQ⟩ : ∃ Q, Q = MQ below (QcRead (bI (ixB way 3 && arB one oth n))) args s 0 0 (fun _ => False) := ⟨_, rfl⟩
  rw [← hQ]
  refine lv_iload_n hx hb dX8_areRows_0 rfl (lv_at hl 0 rfl) ?_
  refine m_rdS (As := [.int way]) (rest := []) (wc := []) hcf (k_X8_isWay (l := l) (D := D) (cI := cI) (cZ := cZ) (x := way) ) (va_cwS 1 hts gX8_areRows_X8_isWay rfl rfl rfl yd_X8_isWay.2 ⟨Nat.le_of_ble_eq_true rfl, Nat.le_of_ble_eq_true rfl⟩) (m_preS hK hP hD [] (by decide) rfl) rfl hl.1 rfl (Nat.le_of_ble_eq_true rfl) dX8_areRows_1 ⟨Nat.zero_le _, Nat.zero_le _⟩ ?_
  refine m_ifB_eq (tgt := 32) hx hb dX8_areRows_4 (by decide) (fun c_4 => ?_) (fun c_4 => ?_)
  · refine lv_iconst (v := nI 0) hx hb dX8_areRows_32 (by decide) ?_
    rw [hQ]
    exact m_zrd hx hb hr hlocks (bb_zero (by unfold arB; first | (simp [c_4]; done) | (simp [c_11]; done) | (simp [c_18]; done) | (simp [c_25]; done))) dX8_areRows_33
  · refine lv_iload_n hx hb dX8_areRows_7 rfl (lv_at hl 1 rfl) ?_
    refine m_rdS (As := [.int one]) (rest := []) (wc := []) hcf (k_X8_isStart (l := l) (D := D) (cI := cI) (cZ := cZ) (x := one) ) (va_cwS 1 hts gX8_areRows_X8_isStart rfl rfl rfl yd_X8_isStart.2 ⟨Nat.le_of_ble_eq_true rfl, Nat.le_of_ble_eq_true rfl⟩) (m_preS hK hP hD [] (by decide) rfl) rfl hl.1 rfl (Nat.le_of_ble_eq_true rfl) dX8_areRows_8 ⟨Nat.zero_le _, Nat.zero_le _⟩ ?_
    refine m_ifB_eq (tgt := 32) hx hb dX8_areRows_11 (by decide) (fun c_11 => ?_) (fun c_11 => ?_)
    · refine lv_iconst (v := nI 0) hx hb dX8_areRows_32 (by decide) ?_
      rw [hQ]
      exact m_zrd hx hb hr hlocks (bb_zero (by unfold arB; first | (simp [c_4]; done) | (simp [c_11]; done) | (simp [c_18]; done) | (simp [c_25]; done))) dX8_areRows_33
    · refine lv_iload_n hx hb dX8_areRows_14 rfl (lv_at hl 2 rfl) ?_
      refine m_rdS (As := [.int oth]) (rest := []) (wc := []) hcf (k_X8_isStart (l := l) (D := D) (cI := cI) (cZ := cZ) (x := oth) ) (va_cwS 1 hts gX8_areRows_X8_isStart rfl rfl rfl yd_X8_isStart.2 ⟨Nat.le_of_ble_eq_true rfl, Nat.le_of_ble_eq_true rfl⟩) (m_preS hK hP hD [] (by decide) rfl) rfl hl.1 rfl (Nat.le_of_ble_eq_true rfl) dX8_areRows_15 ⟨Nat.zero_le _, Nat.zero_le _⟩ ?_
      refine m_ifB_eq (tgt := 32) hx hb dX8_areRows_18 (by decide) (fun c_18 => ?_) (fun c_18 => ?_)
      · refine lv_iconst (v := nI 0) hx hb dX8_areRows_32 (by decide) ?_
        rw [hQ]
        exact m_zrd hx hb hr hlocks (bb_zero (by unfold arB; first | (simp [c_4]; done) | (simp [c_11]; done) | (simp [c_18]; done) | (simp [c_25]; done))) dX8_areRows_33
      · refine lv_iload_n hx hb dX8_areRows_21 rfl (lv_at hl 3 rfl) ?_
        refine m_rdS (As := [.int n]) (rest := []) (wc := []) hcf (k_X8_isLength (l := l) (D := D) (cI := cI) (cZ := cZ) (x := n) ) (va_cwS 1 hts gX8_areRows_X8_isLength rfl rfl rfl yd_X8_isLength.2 ⟨Nat.le_of_ble_eq_true rfl, Nat.le_of_ble_eq_true rfl⟩) (m_preS hK hP hD [] (by decide) rfl) rfl hl.1 rfl (Nat.le_of_ble_eq_true rfl) dX8_areRows_22 ⟨Nat.zero_le _, Nat.zero_le _⟩ ?_
        refine m_ifB_eq (tgt := 32) hx hb dX8_areRows_25 (by decide) (fun c_25 => ?_) (fun c_25 => ?_)
        · refine lv_iconst (v := nI 0) hx hb dX8_areRows_32 (by decide) ?_
          rw [hQ]
          exact m_zrd hx hb hr hlocks (bb_zero (by unfold arB; first | (simp [c_4]; done) | (simp [c_11]; done) | (simp [c_18]; done) | (simp [c_25]; done))) dX8_areRows_33
        · refine lv_iconst (v := nI 1) hx hb dX8_areRows_28 (by decide) ?_
          refine lv_goto (tgt := 33) hx hb dX8_areRows_29 (by decide) ?_
          rw [hQ]
          exact m_zrd hx hb hr hlocks (bb_one (by unfold arB; simp [c_4, c_11, c_18, c_25])) dX8_areRows_33
