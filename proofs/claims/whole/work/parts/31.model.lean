theorem yd_X8_longest : yX8_longest.cls = RX8 ∧ yX8_longest.cls ≠ "java/lang/invoke/MethodHandle" ∧ yX8_longest.cls ≠ "java/lang/invoke/VarHandle" ∧ (parseMethodDescriptor yX8_longest.desc).map (fun d => d.parameters.length) = some 3 := by decide +kernel
set_option maxHeartbeats 4000000 in
set_option maxRecDepth 100000 in
theorem k_X8_longest (l : Launch) (D : va_G) (cI cZ : ClassId) (mo ps mpa nl nv msz mcd mbe mba : Nat) (ol : Int32) (op os svn ms1 ms2 ms3 ms4 mfa mim mik : Nat) (be ba : Nat → Nat) (z g : Nat → Nat) (ve way wh : Int32) (hnl : nl ≤ 20) (hnv : nv ≤ 4) (hz : ∀ j, z j ≤ 8) (hg : ∀ j, g j ≤ 126) (hbe : ∀ j, be j ≤ 126) (hba : ∀ j, ba j ≤ 126) (hop : op ≤ 100) (hos : os ≤ 126) : Met l yX8_longest wsX8_longest ({ frames := 4, cells := 0, slots := 0, locals := 93 }) (mPc [.ref mo, .int ve, .int way, .int wh] D cI cZ [(mo, .inr (8, [.int (nI ps), .ref mpa, .int (nI nl), .int (nI nv), .ref msz, .ref mcd, .ref mbe, .ref mba, .int ol, .int (nI op), .int (nI os), .int (nI svn), .ref ms1, .ref ms2, .ref ms3, .ref ms4, .ref mfa, .ref mim, .ref mik])), (mbe, aN cI 26 be), (mba, aN cI 26 ba), (msz, aN cI 80 z), (mcd, aN cI 640 g)]) (mQi D (mA [(mo, .inr (8, [.int (nI ps), .ref mpa, .int (nI nl), .int (nI nv), .ref msz, .ref mcd, .ref mbe, .ref mba, .int ol, .int (nI op), .int (nI os), .int (nI svn), .ref ms1, .ref ms2, .ref ms3, .ref ms4, .ref mfa, .ref mim, .ref mik])), (mbe, aN cI 26 be), (mba, aN cI 26 ba), (msz, aN cI 80 z), (mcd, aN cI 640 g)]) (fun (r : Int32) (u : (Nat → Nat) × (Nat → Nat) × Nat × Nat × Nat) => r = rfQ nv ve (ixB way 3 && ixB wh 3) (lgR u.2.2.1 u.2.2.2.1 u.2.2.2.2 wh) ∧ (∀ j, u.1 j ≤ 126) ∧ (∀ j, u.2.1 j ≤ 126) ∧ (ixB ve nv = true → (ixB way 3 && ixB wh 3) = true → lqP (fun m i j => rmB (cN way) z g (cN ve) nl i j m ol op os) nl u.2.2.1 u.2.2.2.1 u.2.2.2.2)) (fun (u : (Nat → Nat) × (Nat → Nat) × Nat × Nat × Nat) => [(mo, .inr (8, [.int (nI ps), .ref mpa, .int (nI nl), .int (nI nv), .ref msz, .ref mcd, .ref mbe, .ref mba, .int ol, .int (nI op), .int (nI os), .int (nI svn), .ref ms1, .ref ms2, .ref ms3, .ref ms4, .ref mfa, .ref mim, .ref mik])), (mbe, aN cI 26 u.1), (mba, aN cI 26 u.2.1), (msz, aN cI 80 z), (mcd, aN cI 640 g)])) 0 0 (mA [(mo, .inr (8, [.int (nI ps), .ref mpa, .int (nI nl), .int (nI nv), .ref msz, .ref mcd, .ref mbe, .ref mba, .int ol, .int (nI op), .int (nI os), .int (nI svn), .ref ms1, .ref ms2, .ref ms3, .ref ms4, .ref mfa, .ref mim, .ref mik])), (mbe, aN cI 26 be), (mba, aN cI 26 ba), (msz, aN cI 80 z), (mcd, aN cI 640 g)]) := by
  refine Met.ofW (cc := cX8_longest) (maxL := 7) (ret := (some .int)) (by decide) rfl ?_
  intro p e s m args below meth c s₁ BB hml hv
  obtain ⟨hargs, hP, hD0, hK⟩ := hv
  have hx := BB.exec
  have hb := BB.bytes
  have hr := BB.returns
  have hts := atoms_spec (ws := wsX8_longest) BB.pre
  have hown : s.vm.findClass RX8 = some m.cls := findClass_of_methodNamed BB.named
  have hlocks := BB.notSynchronized
  have hcf : CallFix p m c cX8_longest 7 s args wsX8_longest RX8 := ⟨hx, hb, hml, hown, hts⟩
  obtain ⟨A, hAe⟩ : ∃ A, A = mA [(mo, .inr (8, [.int (nI ps), .ref mpa, .int (nI nl), .int (nI nv), .ref msz, .ref mcd, .ref mbe, .ref mba, .int ol, .int (nI op), .int (nI os), .int (nI svn), .ref ms1, .ref ms2, .ref ms3, .ref ms4, .ref mfa, .ref mim, .ref mik])), (mbe, aN cI 26 be), (mba, aN cI 26 ba), (msz, aN cI 80 z), (mcd, aN cI 640 g)] := ⟨_, rfl⟩
  have hD : va_D A [(mo, .inr (8, [.int (nI ps), .ref mpa, .int (nI nl), .int (nI nv), .ref msz, .ref mcd, .ref mbe, .ref mba, .int ol, .int (nI op), .int (nI os), .int (nI svn), .ref ms1, .ref ms2, .ref ms3, .ref ms4, .ref mfa, .ref mim, .ref mik])), (mbe, aN cI 26 be), (mba, aN cI 26 ba), (msz, aN cI 80 z), (mcd, aN cI 640 g)] := ⟨hD0.1, fun k q h => by rw [hAe]; exact ⟨k, q.2, h⟩⟩
  have hS : va_S A s.heap s.heap [] := va_S.rf
  rw [← hAe]
  rw [hargs, lg_entry_eq, ← hargs]
  have hl := lv_entry ([.ref mo, .int ve, .int way, .int wh]) (n := 7) (Nat.le_of_ble_eq_true rfl)
  generalize (lg_sl ([.ref mo, .int ve, .int way, .int wh]) ++ List.replicate (7 - (lg_sl ([.ref mo, .int ve, .int way, .int wh])).length) Slot.unset).toArray = ls at hl ⊢
  have hl : lv_has ls 7 [(0, .ref mo), (1, .int ve), (2, .int way), (3, .int wh)] := hl
  obtain ⟨Q, hQ⟩ : ∃ Q, Q = MQ below (mQi D A (fun (r : Int32) (u : (Nat → Nat) × (Nat → Nat) × Nat × Nat × Nat) => r = rfQ nv ve (ixB way 3 && ixB wh 3) (lgR u.2.2.1 u.2.2.2.1 u.2.2.2.2 wh) ∧ (∀ j, u.1 j ≤ 126) ∧ (∀ j, u.2.1 j ≤ 126) ∧ (ixB ve nv = true → (ixB way 3 && ixB wh 3) = true → lqP (fun m i j => rmB (cN way) z g (cN ve) nl i j m ol op os) nl u.2.2.1 u.2.2.2.1 u.2.2.2.2)) (fun (u : (Nat → Nat) × (Nat → Nat) × Nat × Nat × Nat) => [(mo, .inr (8, [.int (nI ps), .ref mpa, .int (nI nl), .int (nI nv), .ref msz, .ref mcd, .ref mbe, .ref mba, .int ol, .int (nI op), .int (nI os), .int (nI svn), .ref ms1, .ref ms2, .ref ms3, .ref ms4, .ref mfa, .ref mim, .ref mik])), (mbe, aN cI 26 u.1), (mba, aN cI 26 u.2.1), (msz, aN cI 80 z), (mcd, aN cI 640 g)])) args s 0 0 A := ⟨_, rfl⟩
  rw [← hQ]
  have i_X8 : ∀ w ∈ u_ws RX8 TX8 19, w ∈ wsX8_longest := by decide +kernel
  have f_58 := hts (.fieldLink RX8 58 "SameAgainModel" "lines" "I") (by decide +kernel)
  refine lv_aload_n hx hb dX8_longest_0 rfl (lv_at hl 0 rfl) ?_
  refine lv_iload_n hx hb dX8_longest_1 rfl (lv_at hl 1 rfl) ?_
  refine m_rdV (As := [.int ve]) (rest := []) (wc := [(mo, .inr (8, [.int (nI ps), .ref mpa, .int (nI nl), .int (nI nv), .ref msz, .ref mcd, .ref mbe, .ref mba, .int ol, .int (nI op), .int (nI os), .int (nI svn), .ref ms1, .ref ms2, .ref ms3, .ref ms4, .ref mfa, .ref mim, .ref mik]))]) hcf (k_X8_isVersion (l := l) (D := D) (cI := cI) (cZ := cZ) (x := ve) (mo := mo) (ps := ps) (mpa := mpa) (nl := nl) (nv := nv) (msz := msz) (mcd := mcd) (mbe := mbe) (mba := mba) (ol := ol) (op := op) (os := os) (svn := svn) (ms1 := ms1) (ms2 := ms2) (ms3 := ms3) (ms4 := ms4) (mfa := mfa) (mim := mim) (mik := mik) (hnl := hnl) (hnv := hnv)) (cwV 1 hts gX8_longest_X8_isVersion rfl rfl rfl yd_X8_isVersion ⟨Nat.le_of_ble_eq_true rfl, Nat.le_of_ble_eq_true rfl⟩) (m_preV hK hP hD [0] (by decide) rfl rfl rfl) rfl hl.1 rfl (Nat.le_of_ble_eq_true rfl) dX8_longest_2 ⟨Nat.zero_le _, Nat.zero_le _⟩ ?_
  refine m_ifB_ne (tgt := 10) hx hb dX8_longest_5 (by decide) (fun c_5 => ?_) (fun c_5 => ?_)
  · obtain ⟨e_v, i_v⟩ := ixB_cN (by omega) c_5
    refine lv_iload_n hx hb dX8_longest_10 rfl (lv_at hl 2 rfl) ?_
    refine m_rdS (As := [.int way]) (rest := []) (wc := []) hcf (k_X8_isWay (l := l) (D := D) (cI := cI) (cZ := cZ) (x := way) ) (va_cwS 1 hts gX8_longest_X8_isWay rfl rfl rfl yd_X8_isWay.2 ⟨Nat.le_of_ble_eq_true rfl, Nat.le_of_ble_eq_true rfl⟩) (m_preS hK hP hD [] (by decide) rfl) rfl hl.1 rfl (Nat.le_of_ble_eq_true rfl) dX8_longest_11 ⟨Nat.zero_le _, Nat.zero_le _⟩ ?_
    refine m_ifB_eq (tgt := 26) hx hb dX8_longest_14 (by decide) (fun c_14 => ?_) (fun c_14 => ?_)
    · refine lv_bipush (v := (-2)) hx hb dX8_longest_26 (by decide) ?_
      rw [hQ]
      exact m_iwr hx hb hr hlocks (be, ba, 0, 0, 0) (⟨by rw [rfQ_o c_5 (by first | (simp [c_14, c_23]; done) | (simp [c_14]; done) | (simp [c_23]; done))], hbe, hba, fun _ h => absurd h (by first | (simp [c_14, c_23]; done) | (simp [c_14]; done) | (simp [c_23]; done))⟩) hP hS dX8_longest_28
    · obtain ⟨e_w, i_w⟩ := ixB_cN (by decide) c_14
      refine lv_iload_n hx hb dX8_longest_17 rfl (lv_at hl 3 rfl) ?_
      refine lv_iconst (v := nI 0) hx hb dX8_longest_18 (by decide) ?_
      refine lv_iconst (v := nI 2) hx hb dX8_longest_19 (by decide) ?_
      refine m_rdS (As := [.int wh, .int (nI 0), .int (nI 2)]) (rest := []) (wc := []) hcf (k_X8_in (l := l) (D := D) (cI := cI) (cZ := cZ) (x := wh) (lo := nI 0) (hi := nI 2) ) (va_cwS 3 hts gX8_longest_X8_in rfl rfl rfl yd_X8_in.2 ⟨Nat.le_of_ble_eq_true rfl, Nat.le_of_ble_eq_true rfl⟩) (m_preS hK hP hD [] (by decide) rfl) rfl hl.1 rfl (Nat.le_of_ble_eq_true rfl) dX8_longest_20 ⟨Nat.zero_le _, Nat.zero_le _⟩ ?_
      refine m_top (y := bI (ixB wh 3)) (by rw [inB_ix0 (by decide)]) ?_
      refine m_ifB_ne (tgt := 29) hx hb dX8_longest_23 (by decide) (fun c_23 => ?_) (fun c_23 => ?_)
      · have KI : (ixB way 3 && ixB wh 3) = true := by first | (simp [c_14, c_23]; done) | (simp [c_14]; done) | (simp [c_23]; done)
        have hl : lv_has ls 7 [(0, .ref mo), (1, .int (nI (cN ve))), (2, .int (nI (cN way))), (3, .int wh)] := by rw [← e_v, ← e_w]; exact hl
        refine lv_aload_n hx hb dX8_longest_29 rfl (lv_at hl 0 rfl) ?_
        refine va_get (D := D) (ci := 8) (v := .int (nI nl)) (C := RX8) (T := TX8) (N := 19) hx hb hts i_X8 hown hK.1 hP 0 rfl rfl 2 (by decide) f_58 (fun _ h9 => h9) rfl dX8_longest_30 ?_
        refine lv_iconst (v := nI 2) hx hb dX8_longest_33 (by decide) ?_
        refine m_div hx hb (by omega) (by omega) (by omega) dX8_longest_34 ?_
        refine lv_istore (lv' := [(4, .int (nI (nl / 2))), (0, .ref mo), (1, .int (nI (cN ve))), (2, .int (nI (cN way))), (3, .int wh)]) hx hb dX8_longest_35 hl (by decide) rfl (fun ls hl => ?_)
        have loop_37 : ∀ (fu : Nat) (n : Nat) (b1 b2 : Nat → Nat) (hfu : n < fu)  (hn : n ≤ nl / 2) (hb1 : ∀ j, b1 j ≤ 126) (hb2 : ∀ j, b2 j ≤ 126) (hN : ∀ m i j, n < m → i + m ≤ j → j + m ≤ nl → rmB (cN way) z g (cN ve) nl i j m ol op os = false) (H : Heap) (locs : List Loc) (hP : va_P D vwCl [(mo, .inr (8, [.int (nI ps), .ref mpa, .int (nI nl), .int (nI nv), .ref msz, .ref mcd, .ref mbe, .ref mba, .int ol, .int (nI op), .int (nI os), .int (nI svn), .ref ms1, .ref ms2, .ref ms3, .ref ms4, .ref mfa, .ref mim, .ref mik])), (mbe, aN cI 26 b1), (mba, aN cI 26 b2), (msz, aN cI 80 z), (mcd, aN cI 640 g)] H) (hD : va_D A [(mo, .inr (8, [.int (nI ps), .ref mpa, .int (nI nl), .int (nI nv), .ref msz, .ref mcd, .ref mbe, .ref mba, .int ol, .int (nI op), .int (nI os), .int (nI svn), .ref ms1, .ref ms2, .ref ms3, .ref ms4, .ref mfa, .ref mim, .ref mik])), (mbe, aN cI 26 b1), (mba, aN cI 26 b2), (msz, aN cI 80 z), (mcd, aN cI 640 g)]) (hS : va_S A s.heap H locs) (ls : Array Slot) (hl : lv_has ls 7 [(0, .ref mo), (1, .int (nI (cN ve))), (2, .int (nI (cN way))), (3, .int wh), (4, .int (nI n))]), W p l e (headSpec wsX8_longest { frames := 4, cells := 0, slots := 0, locals := 93 }).room s m args below meth c H locs 0 0 Q (F0 m 37 ls []) := by
          intro fu
          induction fu with
          | zero => intro n b1 b2 hfu; exact absurd hfu (Nat.not_lt_zero _)
          | succ fu ih_37 =>
            intro n b1 b2 hfu hn hb1 hb2 hN H locs hP hD hS ls hl
            refine lv_iload hx hb dX8_longest_37 (lv_at hl 4 rfl) ?_
            refine m_if_le (tgt := 133) hx hb dX8_longest_39 (by decide) (by omega) (fun c_39 => ?_) (fun c_39 => ?_)
            · refine lv_bipush (v := (-6)) hx hb dX8_longest_133 (by decide) ?_
              rw [hQ]
              exact m_iwr hx hb hr hlocks (b1, b2, 0, 0, 0) (⟨by rw [rfQ_v c_5 KI]; rfl, hb1, hb2, fun _ _ => Or.inl ⟨rfl, fun m i j h1 h2 h3 => hN m i j (by omega) h2 h3⟩⟩) hP hS dX8_longest_135
            · refine lv_iconst (v := nI 0) hx hb dX8_longest_42 (by decide) ?_
              refine lv_istore (lv' := [(5, .int (nI 0)), (0, .ref mo), (1, .int (nI (cN ve))), (2, .int (nI (cN way))), (3, .int wh), (4, .int (nI n))]) hx hb dX8_longest_43 hl (by decide) rfl (fun ls hl => ?_)
              have loop_45 : ∀ (fu : Nat) (i : Nat) (b3 b4 : Nat → Nat) (hfu : nl + 1 - i < fu)  (hi : i ≤ nl) (hb3 : ∀ j, b3 j ≤ 126) (hb4 : ∀ j, b4 j ≤ 126) (hI : ∀ a b, a < i → a + n ≤ b → b + n ≤ nl → rmB (cN way) z g (cN ve) nl a b n ol op os = false) (H : Heap) (locs : List Loc) (hP : va_P D vwCl [(mo, .inr (8, [.int (nI ps), .ref mpa, .int (nI nl), .int (nI nv), .ref msz, .ref mcd, .ref mbe, .ref mba, .int ol, .int (nI op), .int (nI os), .int (nI svn), .ref ms1, .ref ms2, .ref ms3, .ref ms4, .ref mfa, .ref mim, .ref mik])), (mbe, aN cI 26 b3), (mba, aN cI 26 b4), (msz, aN cI 80 z), (mcd, aN cI 640 g)] H) (hD : va_D A [(mo, .inr (8, [.int (nI ps), .ref mpa, .int (nI nl), .int (nI nv), .ref msz, .ref mcd, .ref mbe, .ref mba, .int ol, .int (nI op), .int (nI os), .int (nI svn), .ref ms1, .ref ms2, .ref ms3, .ref ms4, .ref mfa, .ref mim, .ref mik])), (mbe, aN cI 26 b3), (mba, aN cI 26 b4), (msz, aN cI 80 z), (mcd, aN cI 640 g)]) (hS : va_S A s.heap H locs) (ls : Array Slot) (hl : lv_has ls 7 [(0, .ref mo), (1, .int (nI (cN ve))), (2, .int (nI (cN way))), (3, .int wh), (4, .int (nI n)), (5, .int (nI i))]), W p l e (headSpec wsX8_longest { frames := 4, cells := 0, slots := 0, locals := 93 }).room s m args below meth c H locs 0 0 Q (F0 m 45 ls []) := by
                intro fu
                induction fu with
                | zero => intro i b3 b4 hfu; exact absurd hfu (Nat.not_lt_zero _)
                | succ fu ih_45 =>
                  intro i b3 b4 hfu hi hb3 hb4 hI H locs hP hD hS ls hl
                  refine lv_iload hx hb dX8_longest_45 (lv_at hl 5 rfl) ?_
                  refine lv_iconst (v := nI 2) hx hb dX8_longest_47 (by decide) ?_
                  refine lv_iload hx hb dX8_longest_48 (lv_at hl 4 rfl) ?_
                  refine m_mul hx hb dX8_longest_50 ?_
                  refine m_add hx hb dX8_longest_51 ?_
                  refine lv_aload_n hx hb dX8_longest_52 rfl (lv_at hl 0 rfl) ?_
                  refine va_get (D := D) (ci := 8) (v := .int (nI nl)) (C := RX8) (T := TX8) (N := 19) hx hb hts i_X8 hown hK.1 hP 0 rfl rfl 2 (by decide) f_58 (fun _ h9 => h9) rfl dX8_longest_53 ?_
                  refine m_cmp_gt (tgt := 127) hx hb dX8_longest_56 (by decide) (by omega) (by omega) (fun c_56 => ?_) (fun c_56 => ?_)
                  · refine lv_iinc (v := nI (n - 1)) (lv' := [(4, .int (nI (n - 1))), (0, .ref mo), (1, .int (nI (cN ve))), (2, .int (nI (cN way))), (3, .int wh), (5, .int (nI i))]) hx hb dX8_longest_127 hl (k := 4) rfl (sb_m1 (by omega)) (by decide) rfl (fun ls hl => ?_)
                    refine lv_goto (tgt := 37) hx hb dX8_longest_130 (by decide) ?_
                    exact ih_37 (n - 1) _ _ (by omega) (by omega) hb3 hb4 (fun m i9 j h1 h2 h3 => by by_cases e : m = n; subst e; exact hI i9 j (by omega) h2 h3; exact hN m i9 j (by omega) h2 h3) _ _ hP hD hS ls (lv_sub hl [1, 2, 3, 4, 0] rfl)
                  · refine lv_iload hx hb dX8_longest_59 (lv_at hl 5 rfl) ?_
                    refine lv_iload hx hb dX8_longest_61 (lv_at hl 4 rfl) ?_
                    refine m_add hx hb dX8_longest_63 ?_
                    refine lv_istore (lv' := [(6, .int (nI (i + n))), (0, .ref mo), (1, .int (nI (cN ve))), (2, .int (nI (cN way))), (3, .int wh), (4, .int (nI n)), (5, .int (nI i))]) hx hb dX8_longest_64 hl (by decide) rfl (fun ls hl => ?_)
                    have loop_66 : ∀ (fu : Nat) (j : Nat) (b5 b6 : Nat → Nat) (hfu : nl + 1 - j < fu)  (hj1 : i + n ≤ j) (hj2 : j ≤ nl + 1) (hb5 : ∀ j, b5 j ≤ 126) (hb6 : ∀ j, b6 j ≤ 126) (hJ : ∀ b, i + n ≤ b → b < j → b + n ≤ nl → rmB (cN way) z g (cN ve) nl i b n ol op os = false) (H : Heap) (locs : List Loc) (hP : va_P D vwCl [(mo, .inr (8, [.int (nI ps), .ref mpa, .int (nI nl), .int (nI nv), .ref msz, .ref mcd, .ref mbe, .ref mba, .int ol, .int (nI op), .int (nI os), .int (nI svn), .ref ms1, .ref ms2, .ref ms3, .ref ms4, .ref mfa, .ref mim, .ref mik])), (mbe, aN cI 26 b5), (mba, aN cI 26 b6), (msz, aN cI 80 z), (mcd, aN cI 640 g)] H) (hD : va_D A [(mo, .inr (8, [.int (nI ps), .ref mpa, .int (nI nl), .int (nI nv), .ref msz, .ref mcd, .ref mbe, .ref mba, .int ol, .int (nI op), .int (nI os), .int (nI svn), .ref ms1, .ref ms2, .ref ms3, .ref ms4, .ref mfa, .ref mim, .ref mik])), (mbe, aN cI 26 b5), (mba, aN cI 26 b6), (msz, aN cI 80 z), (mcd, aN cI 640 g)]) (hS : va_S A s.heap H locs) (ls : Array Slot) (hl : lv_has ls 7 [(0, .ref mo), (1, .int (nI (cN ve))), (2, .int (nI (cN way))), (3, .int wh), (4, .int (nI n)), (5, .int (nI i)), (6, .int (nI j))]), W p l e (headSpec wsX8_longest { frames := 4, cells := 0, slots := 0, locals := 93 }).room s m args below meth c H locs 0 0 Q (F0 m 66 ls []) := by
                      intro fu
                      induction fu with
                      | zero => intro j b5 b6 hfu; exact absurd hfu (Nat.not_lt_zero _)
                      | succ fu ih_66 =>
                        intro j b5 b6 hfu hj1 hj2 hb5 hb6 hJ H locs hP hD hS ls hl
                        refine lv_iload hx hb dX8_longest_66 (lv_at hl 6 rfl) ?_
                        refine lv_iload hx hb dX8_longest_68 (lv_at hl 4 rfl) ?_
                        refine m_add hx hb dX8_longest_70 ?_
                        refine lv_aload_n hx hb dX8_longest_71 rfl (lv_at hl 0 rfl) ?_
                        refine va_get (D := D) (ci := 8) (v := .int (nI nl)) (C := RX8) (T := TX8) (N := 19) hx hb hts i_X8 hown hK.1 hP 0 rfl rfl 2 (by decide) f_58 (fun _ h9 => h9) rfl dX8_longest_72 ?_
                        refine m_cmp_gt (tgt := 121) hx hb dX8_longest_75 (by decide) (by omega) (by omega) (fun c_75 => ?_) (fun c_75 => ?_)
                        · refine lv_iinc (v := nI (i + 1)) (lv' := [(5, .int (nI (i + 1))), (0, .ref mo), (1, .int (nI (cN ve))), (2, .int (nI (cN way))), (3, .int wh), (4, .int (nI n)), (6, .int (nI j))]) hx hb dX8_longest_121 hl (k := 5) rfl ((nI_succ _).symm) (by decide) rfl (fun ls hl => ?_)
                          refine lv_goto (tgt := 45) hx hb dX8_longest_124 (by decide) ?_
                          exact ih_45 (i + 1) _ _ (by omega) (by omega) hb5 hb6 (fun a b h1 h2 h3 => by by_cases e : a = i; subst e; exact hJ b h2 (by omega) h3; exact hI a b (by omega) h2 h3) _ _ hP hD hS ls (lv_sub hl [1, 2, 3, 4, 5, 0] rfl)
                        · refine lv_aload_n hx hb dX8_longest_78 rfl (lv_at hl 0 rfl) ?_
                          refine lv_iload_n hx hb dX8_longest_79 rfl (lv_at hl 1 rfl) ?_
                          refine lv_iload_n hx hb dX8_longest_80 rfl (lv_at hl 2 rfl) ?_
                          refine lv_iload hx hb dX8_longest_81 (lv_at hl 5 rfl) ?_
                          refine lv_iload hx hb dX8_longest_83 (lv_at hl 6 rfl) ?_
                          refine lv_iload hx hb dX8_longest_85 (lv_at hl 4 rfl) ?_
                          refine m_wrV (As := [.int (nI (cN ve)), .int (nI (cN way)), .int (nI i), .int (nI j), .int (nI n)]) (rest := []) (wc := [(mo, .inr (8, [.int (nI ps), .ref mpa, .int (nI nl), .int (nI nv), .ref msz, .ref mcd, .ref mbe, .ref mba, .int ol, .int (nI op), .int (nI os), .int (nI svn), .ref ms1, .ref ms2, .ref ms3, .ref ms4, .ref mfa, .ref mim, .ref mik])), (mbe, aN cI 26 b5), (mba, aN cI 26 b6), (msz, aN cI 80 z), (mcd, aN cI 640 g)]) hcf (k_X8_rowsAlike (l := l) (D := D) (cI := cI) (cZ := cZ) (v := cN ve) (way := cN way) (one := i) (oth := j) (n := n) (mo := mo) (ps := ps) (mpa := mpa) (nl := nl) (nv := nv) (msz := msz) (mcd := mcd) (mbe := mbe) (mba := mba) (ol := ol) (op := op) (os := os) (svn := svn) (ms1 := ms1) (ms2 := ms2) (ms3 := ms3) (ms4 := ms4) (mfa := mfa) (mim := mim) (mik := mik) (be := b5) (ba := b6) (z := z) (g := g) (hnl := hnl) (hnv := hnv) (hz := hz) (hg := hg) (hbe := hb5) (hba := hb6) (hw := by omega) (hv := by omega) (h1 := by omega) (h2 := by omega) (hn := by omega) (hop := hop) (hos := hos)) (cwV 5 hts gX8_longest_X8_rowsAlike rfl rfl rfl yd_X8_rowsAlike ⟨Nat.le_of_ble_eq_true rfl, Nat.le_of_ble_eq_true rfl⟩) hK hP hD hS [0, 1, 2, 3, 4] (by decide) rfl rfl rfl rfl hl.1 rfl (Nat.le_of_ble_eq_true rfl) dX8_longest_87 ⟨Nat.zero_le _, Nat.zero_le _⟩ (fun _ => rfl) (fun (u : (Nat → Nat) × (Nat → Nat)) => [(mo, .inr (8, [.int (nI ps), .ref mpa, .int (nI nl), .int (nI nv), .ref msz, .ref mcd, .ref mbe, .ref mba, .int ol, .int (nI op), .int (nI os), .int (nI svn), .ref ms1, .ref ms2, .ref ms3, .ref ms4, .ref mfa, .ref mim, .ref mik])), (mbe, aN cI 26 u.1), (mba, aN cI 26 u.2), (msz, aN cI 80 z), (mcd, aN cI 640 g)]) (fun _ => rfl) (fun r u H locs hp_87 hP hD hS => ?_)
                          obtain ⟨beu_87, bau_87⟩ := u
                          have hP : va_P D vwCl [(mo, .inr (8, [.int (nI ps), .ref mpa, .int (nI nl), .int (nI nv), .ref msz, .ref mcd, .ref mbe, .ref mba, .int ol, .int (nI op), .int (nI os), .int (nI svn), .ref ms1, .ref ms2, .ref ms3, .ref ms4, .ref mfa, .ref mim, .ref mik])), (mbe, aN cI 26 beu_87), (mba, aN cI 26 bau_87), (msz, aN cI 80 z), (mcd, aN cI 640 g)] H := hP
                          have hD : va_D A [(mo, .inr (8, [.int (nI ps), .ref mpa, .int (nI nl), .int (nI nv), .ref msz, .ref mcd, .ref mbe, .ref mba, .int ol, .int (nI op), .int (nI os), .int (nI svn), .ref ms1, .ref ms2, .ref ms3, .ref ms4, .ref mfa, .ref mim, .ref mik])), (mbe, aN cI 26 beu_87), (mba, aN cI 26 bau_87), (msz, aN cI 80 z), (mcd, aN cI 640 g)] := hD
                          try dsimp only at hp_87
                          obtain ⟨hr_hp_87, hp_87⟩ := hp_87
                          rw [hr_hp_87]
                          refine m_ifB_eq (tgt := 115) hx hb dX8_longest_90 (by decide) (fun c_90 => ?_) (fun c_90 => ?_)
                          · refine lv_iinc (v := nI (j + 1)) (lv' := [(6, .int (nI (j + 1))), (0, .ref mo), (1, .int (nI (cN ve))), (2, .int (nI (cN way))), (3, .int wh), (4, .int (nI n)), (5, .int (nI i))]) hx hb dX8_longest_115 hl (k := 6) rfl ((nI_succ _).symm) (by decide) rfl (fun ls hl => ?_)
                            refine lv_goto (tgt := 66) hx hb dX8_longest_118 (by decide) ?_
                            exact ih_66 (j + 1) _ _ (by omega) (by omega) (by omega) hp_87.2.1 hp_87.2.2 (fun b h1 h2 h3 => by by_cases e : b = j; subst e; exact c_90; exact hJ b h1 (by omega) h3) _ _ hP hD hS ls (lv_sub hl [1, 2, 3, 4, 5, 6, 0] rfl)
                          · refine lv_iload_n hx hb dX8_longest_93 rfl (lv_at hl 3 rfl) ?_
                            refine lv_if_ne (tgt := 102) hx hb dX8_longest_94 (by decide) (fun c_94 => ?_) (fun c_94 => ?_)
                            · refine lv_iload_n hx hb dX8_longest_102 rfl (lv_at hl 3 rfl) ?_
                              refine lv_iconst (v := nI 1) hx hb dX8_longest_103 (by decide) ?_
                              refine lv_icmp_ne (tgt := 112) hx hb dX8_longest_104 (by decide) (fun c_104 => ?_) (fun c_104 => ?_)
                              · refine lv_iload hx hb dX8_longest_112 (lv_at hl 6 rfl) ?_
                                rw [hQ]
                                exact m_iwr hx hb hr hlocks (beu_87, bau_87, n, i, j) (⟨by rw [rfQ_v c_5 KI]; unfold lgR; rw [if_neg (show ¬ n = 0 by omega), if_neg c_94, if_neg (show ¬ wh = 1 from c_104)], hp_87.2.1, hp_87.2.2, fun _ _ => Or.inr ⟨c_39, hj1, c_75, c_90, hN, fun a b h1 h2 h3 => by rcases h1 with q | ⟨q, q2⟩; exact hI a b q h2 h3; subst q; exact hJ b h2 q2 h3⟩⟩) hP hS dX8_longest_114
                              · refine lv_iload hx hb dX8_longest_107 (lv_at hl 5 rfl) ?_
                                refine lv_goto (tgt := 114) hx hb dX8_longest_109 (by decide) ?_
                                rw [hQ]
                                exact m_iwr hx hb hr hlocks (beu_87, bau_87, n, i, j) (⟨by rw [rfQ_v c_5 KI]; unfold lgR; rw [if_neg (show ¬ n = 0 by omega), if_neg c_94, if_pos (show wh = 1 from c_104)], hp_87.2.1, hp_87.2.2, fun _ _ => Or.inr ⟨c_39, hj1, c_75, c_90, hN, fun a b h1 h2 h3 => by rcases h1 with q | ⟨q, q2⟩; exact hI a b q h2 h3; subst q; exact hJ b h2 q2 h3⟩⟩) hP hS dX8_longest_114
                            · refine lv_iload hx hb dX8_longest_97 (lv_at hl 4 rfl) ?_
                              refine lv_goto (tgt := 114) hx hb dX8_longest_99 (by decide) ?_
                              rw [hQ]
                              exact m_iwr hx hb hr hlocks (beu_87, bau_87, n, i, j) (⟨by rw [rfQ_v c_5 KI]; unfold lgR; rw [if_neg (show ¬ n = 0 by omega), if_pos c_94], hp_87.2.1, hp_87.2.2, fun _ _ => Or.inr ⟨c_39, hj1, c_75, c_90, hN, fun a b h1 h2 h3 => by rcases h1 with q | ⟨q, q2⟩; exact hI a b q h2 h3; subst q; exact hJ b h2 q2 h3⟩⟩) hP hS dX8_longest_114
                    exact loop_66 (nl + 2) _ _ _ (by omega) (by omega) (by omega) hb3 hb4 (fun b h1 h2 => by omega) _ _ hP hD hS ls (lv_sub hl [1, 2, 3, 4, 5, 6, 0] rfl)
              exact loop_45 (nl + 2) 0 _ _ (by omega) (by omega) hb1 hb2 (fun a b h => absurd h (Nat.not_lt_zero a)) _ _ hP hD hS ls (lv_sub hl [1, 2, 3, 4, 5, 0] rfl)
        exact loop_37 (nl / 2 + 1) _ be ba (by omega) (by omega) hbe hba (fun m i j h1 h2 h3 => by omega) _ _ hP hD hS ls (lv_sub hl [1, 2, 3, 4, 0] rfl)
      · refine lv_bipush (v := (-2)) hx hb dX8_longest_26 (by decide) ?_
        rw [hQ]
        exact m_iwr hx hb hr hlocks (be, ba, 0, 0, 0) (⟨by rw [rfQ_o c_5 (by first | (simp [c_14, c_23]; done) | (simp [c_14]; done) | (simp [c_23]; done))], hbe, hba, fun _ h => absurd h (by first | (simp [c_14, c_23]; done) | (simp [c_14]; done) | (simp [c_23]; done))⟩) hP hS dX8_longest_28
  · refine lv_iconst (v := (-1)) hx hb dX8_longest_8 (by decide) ?_
    rw [hQ]
    exact m_iwr hx hb hr hlocks (be, ba, 0, 0, 0) (⟨by rw [rfQ_u c_5], hbe, hba, fun h => by (rw [c_5] at h; cases h)⟩) hP hS dX8_longest_9

theorem yd_X8_parted : yX8_parted.cls = RX8 ∧ yX8_parted.cls ≠ "java/lang/invoke/MethodHandle" ∧ yX8_parted.cls ≠ "java/lang/invoke/VarHandle" ∧ (parseMethodDescriptor yX8_parted.desc).map (fun d => d.parameters.length) = some 4 := by decide +kernel
set_option maxHeartbeats 4000000 in
set_option maxRecDepth 100000 in
theorem k_X8_parted (l : Launch) (D : va_G) (cI cZ : ClassId) (mo ps mpa nl nv msz mcd mbe mba : Nat) (ol : Int32) (op os svn ms1 ms2 ms3 ms4 mfa mim mik : Nat) (be ba : Nat → Nat) (z g : Nat → Nat) (way one oth n : Int32) (hnl : nl ≤ 20) (hnv : nv ≤ 4) (hz : ∀ j, z j ≤ 8) (hg : ∀ j, g j ≤ 126) (hbe : ∀ j, be j ≤ 126) (hba : ∀ j, ba j ≤ 126) (hop : op ≤ 100) (hos : os ≤ 126) : Met l yX8_parted wsX8_parted ({ frames := 4, cells := 0, slots := 0, locals := 93 }) (mPc [.ref mo, .int way, .int one, .int oth, .int n] D cI cZ [(mo, .inr (8, [.int (nI ps), .ref mpa, .int (nI nl), .int (nI nv), .ref msz, .ref mcd, .ref mbe, .ref mba, .int ol, .int (nI op), .int (nI os), .int (nI svn), .ref ms1, .ref ms2, .ref ms3, .ref ms4, .ref mfa, .ref mim, .ref mik])), (mbe, aN cI 26 be), (mba, aN cI 26 ba), (msz, aN cI 80 z), (mcd, aN cI 640 g)]) (mQi D (mA [(mo, .inr (8, [.int (nI ps), .ref mpa, .int (nI nl), .int (nI nv), .ref msz, .ref mcd, .ref mbe, .ref mba, .int ol, .int (nI op), .int (nI os), .int (nI svn), .ref ms1, .ref ms2, .ref ms3, .ref ms4, .ref mfa, .ref mim, .ref mik])), (mbe, aN cI 26 be), (mba, aN cI 26 ba), (msz, aN cI 80 z), (mcd, aN cI 640 g)]) (fun (r : Int32) (u : (Nat → Nat) × (Nat → Nat)) => r = paR (ixB way 3 && arB one oth n) (ptF (fun w => rmB (cN way) z g w nl (cN one) (cN oth) (cN n) ol op os) nv 0 false) ∧ (∀ j, u.1 j ≤ 126) ∧ (∀ j, u.2 j ≤ 126)) (fun (u : (Nat → Nat) × (Nat → Nat)) => [(mo, .inr (8, [.int (nI ps), .ref mpa, .int (nI nl), .int (nI nv), .ref msz, .ref mcd, .ref mbe, .ref mba, .int ol, .int (nI op), .int (nI os), .int (nI svn), .ref ms1, .ref ms2, .ref ms3, .ref ms4, .ref mfa, .ref mim, .ref mik])), (mbe, aN cI 26 u.1), (mba, aN cI 26 u.2), (msz, aN cI 80 z), (mcd, aN cI 640 g)])) 0 0 (mA [(mo, .inr (8, [.int (nI ps), .ref mpa, .int (nI nl), .int (nI nv), .ref msz, .ref mcd, .ref mbe, .ref mba, .int ol, .int (nI op), .int (nI os), .int (nI svn), .ref ms1, .ref ms2, .ref ms3, .ref ms4, .ref mfa, .ref mim, .ref mik])), (mbe, aN cI 26 be), (mba, aN cI 26 ba), (msz, aN cI 80 z), (mcd, aN cI 640 g)]) := by
  refine Met.ofW (cc := cX8_parted) (maxL := 8) (ret := (some .int)) (by decide) rfl ?_
  intro p e s m args below meth c s₁ BB hml hv
  obtain ⟨hargs, hP, hD0, hK⟩ := hv
  have hx := BB.exec
  have hb := BB.bytes
  have hr := BB.returns
  have hts := atoms_spec (ws := wsX8_parted) BB.pre
  have hown : s.vm.findClass RX8 = some m.cls := findClass_of_methodNamed BB.named
  have hlocks := BB.notSynchronized
  have hcf : CallFix p m c cX8_parted 8 s args wsX8_parted RX8 := ⟨hx, hb, hml, hown, hts⟩
  obtain ⟨A, hAe⟩ : ∃ A, A = mA [(mo, .inr (8, [.int (nI ps), .ref mpa, .int (nI nl), .int (nI nv), .ref msz, .ref mcd, .ref mbe, .ref mba, .int ol, .int (nI op), .int (nI os), .int (nI svn), .ref ms1, .ref ms2, .ref ms3, .ref ms4, .ref mfa, .ref mim, .ref mik])), (mbe, aN cI 26 be), (mba, aN cI 26 ba), (msz, aN cI 80 z), (mcd, aN cI 640 g)] := ⟨_, rfl⟩
  have hD : va_D A [(mo, .inr (8, [.int (nI ps), .ref mpa, .int (nI nl), .int (nI nv), .ref msz, .ref mcd, .ref mbe, .ref mba, .int ol, .int (nI op), .int (nI os), .int (nI svn), .ref ms1, .ref ms2, .ref ms3, .ref ms4, .ref mfa, .ref mim, .ref mik])), (mbe, aN cI 26 be), (mba, aN cI 26 ba), (msz, aN cI 80 z), (mcd, aN cI 640 g)] := ⟨hD0.1, fun k q h => by rw [hAe]; exact ⟨k, q.2, h⟩⟩
  have hS : va_S A s.heap s.heap [] := va_S.rf
  rw [← hAe]
  rw [hargs, lg_entry_eq, ← hargs]
  have hl := lv_entry ([.ref mo, .int way, .int one, .int oth, .int n]) (n := 8) (Nat.le_of_ble_eq_true rfl)
  generalize (lg_sl ([.ref mo, .int way, .int one, .int oth, .int n]) ++ List.replicate (8 - (lg_sl ([.ref mo, .int way, .int one, .int oth, .int n])).length) Slot.unset).toArray = ls at hl ⊢
  have hl : lv_has ls 8 [(0, .ref mo), (1, .int way), (2, .int one), (3, .int oth), (4, .int n)] := hl
  obtain ⟨Q, hQ⟩ : ∃ Q, Q = MQ below (mQi D A (fun (r : Int32) (u : (Nat → Nat) × (Nat → Nat)) => r = paR (ixB way 3 && arB one oth n) (ptF (fun w => rmB (cN way) z g w nl (cN one) (cN oth) (cN n) ol op os) nv 0 false) ∧ (∀ j, u.1 j ≤ 126) ∧ (∀ j, u.2 j ≤ 126)) (fun (u : (Nat → Nat) × (Nat → Nat)) => [(mo, .inr (8, [.int (nI ps), .ref mpa, .int (nI nl), .int (nI nv), .ref msz, .ref mcd, .ref mbe, .ref mba, .int ol, .int (nI op), .int (nI os), .int (nI svn), .ref ms1, .ref ms2, .ref ms3, .ref ms4, .ref mfa, .ref mim, .ref mik])), (mbe, aN cI 26 u.1), (mba, aN cI 26 u.2), (msz, aN cI 80 z), (mcd, aN cI 640 g)])) args s 0 0 A := ⟨_, rfl⟩
  rw [← hQ]
  have i_X8 : ∀ w ∈ u_ws RX8 TX8 19, w ∈ wsX8_parted := by decide +kernel
  have f_51 := hts (.fieldLink RX8 51 "SameAgainModel" "versions" "I") (by decide +kernel)
  refine lv_iload_n hx hb dX8_parted_0 rfl (lv_at hl 1 rfl) ?_
  refine lv_iload_n hx hb dX8_parted_1 rfl (lv_at hl 2 rfl) ?_
  refine lv_iload_n hx hb dX8_parted_2 rfl (lv_at hl 3 rfl) ?_
  refine lv_iload hx hb dX8_parted_3 (lv_at hl 4 rfl) ?_
  refine m_rdS (As := [.int way, .int one, .int oth, .int n]) (rest := []) (wc := []) hcf (k_X8_areRows (l := l) (D := D) (cI := cI) (cZ := cZ) (way := way) (one := one) (oth := oth) (n := n) ) (va_cwS 4 hts gX8_parted_X8_areRows rfl rfl rfl yd_X8_areRows.2 ⟨Nat.le_of_ble_eq_true rfl, Nat.le_of_ble_eq_true rfl⟩) (m_preS hK hP hD [] (by decide) rfl) rfl hl.1 rfl (Nat.le_of_ble_eq_true rfl) dX8_parted_5 ⟨Nat.zero_le _, Nat.zero_le _⟩ ?_
  refine m_ifB_ne (tgt := 14) hx hb dX8_parted_8 (by decide) (fun c_8 => ?_) (fun c_8 => ?_)
  · obtain ⟨K1, K2, K3⟩ := arB_iff.mp (Bool.and_eq_true_iff.mp c_8).2
    obtain ⟨e_w, i_w⟩ := ixB_cN (by decide) (Bool.and_eq_true_iff.mp c_8).1
    obtain ⟨e_1, i_1⟩ := ixB_cN (by decide) K1
    obtain ⟨e_2, i_2⟩ := ixB_cN (by decide) K2
    obtain ⟨e_n, i_n, j_n⟩ := lnB_cN K3
    have hl : lv_has ls 8 [(0, .ref mo), (1, .int (nI (cN way))), (2, .int (nI (cN one))), (3, .int (nI (cN oth))), (4, .int (nI (cN n)))] := by rw [← e_w, ← e_1, ← e_2, ← e_n]; exact hl
    refine lv_iconst (v := nI 0) hx hb dX8_parted_14 (by decide) ?_
    refine lv_istore (lv' := [(5, .int (nI 0)), (0, .ref mo), (1, .int (nI (cN way))), (2, .int (nI (cN one))), (3, .int (nI (cN oth))), (4, .int (nI (cN n)))]) hx hb dX8_parted_15 hl (by decide) rfl (fun ls hl => ?_)
    refine lv_iconst (v := nI 0) hx hb dX8_parted_17 (by decide) ?_
    refine lv_istore (lv' := [(6, .int (nI 0)), (5, .int (nI 0)), (0, .ref mo), (1, .int (nI (cN way))), (2, .int (nI (cN one))), (3, .int (nI (cN oth))), (4, .int (nI (cN n)))]) hx hb dX8_parted_18 hl (by decide) rfl (fun ls hl => ?_)
    have loop_20 : ∀ (fu : Nat) (w : Nat) (b1 b2 : Nat → Nat) (we : Bool) (hfu : nv - w < fu)  (hw2 : w ≤ nv) (hb1 : ∀ j, b1 j ≤ 126) (hb2 : ∀ j, b2 j ≤ 126) (hR : ptF (fun w => rmB (cN way) z g w nl (cN one) (cN oth) (cN n) ol op os) nv 0 false = ptF (fun w => rmB (cN way) z g w nl (cN one) (cN oth) (cN n) ol op os) (nv - w) w we) (H : Heap) (locs : List Loc) (hP : va_P D vwCl [(mo, .inr (8, [.int (nI ps), .ref mpa, .int (nI nl), .int (nI nv), .ref msz, .ref mcd, .ref mbe, .ref mba, .int ol, .int (nI op), .int (nI os), .int (nI svn), .ref ms1, .ref ms2, .ref ms3, .ref ms4, .ref mfa, .ref mim, .ref mik])), (mbe, aN cI 26 b1), (mba, aN cI 26 b2), (msz, aN cI 80 z), (mcd, aN cI 640 g)] H) (hD : va_D A [(mo, .inr (8, [.int (nI ps), .ref mpa, .int (nI nl), .int (nI nv), .ref msz, .ref mcd, .ref mbe, .ref mba, .int ol, .int (nI op), .int (nI os), .int (nI svn), .ref ms1, .ref ms2, .ref ms3, .ref ms4, .ref mfa, .ref mim, .ref mik])), (mbe, aN cI 26 b1), (mba, aN cI 26 b2), (msz, aN cI 80 z), (mcd, aN cI 640 g)]) (hS : va_S A s.heap H locs) (ls : Array Slot) (hl : lv_has ls 8 [(0, .ref mo), (1, .int (nI (cN way))), (2, .int (nI (cN one))), (3, .int (nI (cN oth))), (4, .int (nI (cN n))), (5, .int (bI we)), (6, .int (nI w))]), W p l e (headSpec wsX8_parted { frames := 4, cells := 0, slots := 0, locals := 93 }).room s m args below meth c H locs 0 0 Q (F0 m 20 ls []) := by
      intro fu
      induction fu with
      | zero => intro w b1 b2 we hfu; exact absurd hfu (Nat.not_lt_zero _)
      | succ fu ih_20 =>
        intro w b1 b2 we hfu hw2 hb1 hb2 hR H locs hP hD hS ls hl
        refine lv_iload hx hb dX8_parted_20 (lv_at hl 6 rfl) ?_
        refine lv_aload_n hx hb dX8_parted_22 rfl (lv_at hl 0 rfl) ?_
        refine va_get (D := D) (ci := 8) (v := .int (nI nv)) (C := RX8) (T := TX8) (N := 19) hx hb hts i_X8 hown hK.1 hP 0 rfl rfl 3 (by decide) f_51 (fun _ h9 => h9) rfl dX8_parted_23 ?_
        refine m_cmp_ge (tgt := 78) hx hb dX8_parted_26 (by decide) (by omega) (by omega) (fun c_26 => ?_) (fun c_26 => ?_)
        · refine lv_bipush (v := (-6)) hx hb dX8_parted_78 (by decide) ?_
          rw [hQ]
          have E9 : nv - w = 0 := by omega
          rw [E9] at hR
          exact m_iwr hx hb hr hlocks (b1, b2) (⟨by rw [paR_t c_8, hR]; rfl, hb1, hb2⟩) hP hS dX8_parted_80
        · refine lv_aload_n hx hb dX8_parted_29 rfl (lv_at hl 0 rfl) ?_
          refine lv_iload hx hb dX8_parted_30 (lv_at hl 6 rfl) ?_
          refine lv_iload_n hx hb dX8_parted_32 rfl (lv_at hl 1 rfl) ?_
          refine lv_iload_n hx hb dX8_parted_33 rfl (lv_at hl 2 rfl) ?_
          refine lv_iload_n hx hb dX8_parted_34 rfl (lv_at hl 3 rfl) ?_
          refine lv_iload hx hb dX8_parted_35 (lv_at hl 4 rfl) ?_
          refine m_wrV (As := [.int (nI w), .int (nI (cN way)), .int (nI (cN one)), .int (nI (cN oth)), .int (nI (cN n))]) (rest := []) (wc := [(mo, .inr (8, [.int (nI ps), .ref mpa, .int (nI nl), .int (nI nv), .ref msz, .ref mcd, .ref mbe, .ref mba, .int ol, .int (nI op), .int (nI os), .int (nI svn), .ref ms1, .ref ms2, .ref ms3, .ref ms4, .ref mfa, .ref mim, .ref mik])), (mbe, aN cI 26 b1), (mba, aN cI 26 b2), (msz, aN cI 80 z), (mcd, aN cI 640 g)]) hcf (k_X8_rowsAlike (l := l) (D := D) (cI := cI) (cZ := cZ) (v := w) (way := cN way) (one := cN one) (oth := cN oth) (n := cN n) (mo := mo) (ps := ps) (mpa := mpa) (nl := nl) (nv := nv) (msz := msz) (mcd := mcd) (mbe := mbe) (mba := mba) (ol := ol) (op := op) (os := os) (svn := svn) (ms1 := ms1) (ms2 := ms2) (ms3 := ms3) (ms4 := ms4) (mfa := mfa) (mim := mim) (mik := mik) (be := b1) (ba := b2) (z := z) (g := g) (hnl := hnl) (hnv := hnv) (hz := hz) (hg := hg) (hbe := hb1) (hba := hb2) (hw := by omega) (hv := by omega) (h1 := by omega) (h2 := by omega) (hn := by omega) (hop := hop) (hos := hos)) (cwV 5 hts gX8_parted_X8_rowsAlike rfl rfl rfl yd_X8_rowsAlike ⟨Nat.le_of_ble_eq_true rfl, Nat.le_of_ble_eq_true rfl⟩) hK hP hD hS [0, 1, 2, 3, 4] (by decide) rfl rfl rfl rfl hl.1 rfl (Nat.le_of_ble_eq_true rfl) dX8_parted_37 ⟨Nat.zero_le _, Nat.zero_le _⟩ (fun _ => rfl) (fun (u : (Nat → Nat) × (Nat → Nat)) => [(mo, .inr (8, [.int (nI ps), .ref mpa, .int (nI nl), .int (nI nv), .ref msz, .ref mcd, .ref mbe, .ref mba, .int ol, .int (nI op), .int (nI os), .int (nI svn), .ref ms1, .ref ms2, .ref ms3, .ref ms4, .ref mfa, .ref mim, .ref mik])), (mbe, aN cI 26 u.1), (mba, aN cI 26 u.2), (msz, aN cI 80 z), (mcd, aN cI 640 g)]) (fun _ => rfl) (fun r u H locs hp_37 hP hD hS => ?_)
          obtain ⟨beu_37, bau_37⟩ := u
          have hP : va_P D vwCl [(mo, .inr (8, [.int (nI ps), .ref mpa, .int (nI nl), .int (nI nv), .ref msz, .ref mcd, .ref mbe, .ref mba, .int ol, .int (nI op), .int (nI os), .int (nI svn), .ref ms1, .ref ms2, .ref ms3, .ref ms4, .ref mfa, .ref mim, .ref mik])), (mbe, aN cI 26 beu_37), (mba, aN cI 26 bau_37), (msz, aN cI 80 z), (mcd, aN cI 640 g)] H := hP
          have hD : va_D A [(mo, .inr (8, [.int (nI ps), .ref mpa, .int (nI nl), .int (nI nv), .ref msz, .ref mcd, .ref mbe, .ref mba, .int ol, .int (nI op), .int (nI os), .int (nI svn), .ref ms1, .ref ms2, .ref ms3, .ref ms4, .ref mfa, .ref mim, .ref mik])), (mbe, aN cI 26 beu_37), (mba, aN cI 26 bau_37), (msz, aN cI 80 z), (mcd, aN cI 640 g)] := hD
          try dsimp only at hp_37
          obtain ⟨hr_hp_37, hp_37⟩ := hp_37
          rw [hr_hp_37]
          refine lv_istore (lv' := [(7, .int (bI (rmB (cN way) z g w nl (cN one) (cN oth) (cN n) ol op os))), (0, .ref mo), (1, .int (nI (cN way))), (2, .int (nI (cN one))), (3, .int (nI (cN oth))), (4, .int (nI (cN n))), (5, .int (bI we)), (6, .int (nI w))]) hx hb dX8_parted_40 hl (by decide) rfl (fun ls hl => ?_)
          refine lv_iload hx hb dX8_parted_42 (lv_at hl 6 rfl) ?_
          refine m_ifB_eq (tgt := 55) hx hb dX8_parted_44 (by decide) (fun c_44 => ?_) (fun c_44 => ?_)
          · refine lv_iload hx hb dX8_parted_55 (lv_at hl 6 rfl) ?_
            refine m_ifB_ne (tgt := 65) hx hb dX8_parted_57 (by decide) (fun c_57 => ?_) (fun c_57 => ?_)
            · refine lv_iconst (v := nI 1) hx hb dX8_parted_65 (by decide) ?_
              refine lv_goto (tgt := 70) hx hb dX8_parted_66 (by decide) ?_
              refine lv_istore (lv' := [(5, .int (nI 1)), (7, .int (bI (rmB (cN way) z g w nl (cN one) (cN oth) (cN n) ol op os))), (0, .ref mo), (1, .int (nI (cN way))), (2, .int (nI (cN one))), (3, .int (nI (cN oth))), (4, .int (nI (cN n))), (6, .int (nI w))]) hx hb dX8_parted_70 hl (by decide) rfl (fun ls hl => ?_)
              refine lv_iinc (v := nI (w + 1)) (lv' := [(6, .int (nI (w + 1))), (5, .int (nI 1)), (7, .int (bI (rmB (cN way) z g w nl (cN one) (cN oth) (cN n) ol op os))), (0, .ref mo), (1, .int (nI (cN way))), (2, .int (nI (cN one))), (3, .int (nI (cN oth))), (4, .int (nI (cN n)))]) hx hb dX8_parted_72 hl (k := 7) rfl ((nI_succ _).symm) (by decide) rfl (fun ls hl => ?_)
              refine lv_goto (tgt := 20) hx hb dX8_parted_75 (by decide) ?_
              have X9 : rmB (cN way) z g w nl (cN one) (cN oth) (cN n) ol op os = true := by first | exact c_49 | exact c_62 | (rw [c_44] at c_57; cases c_57)
              have E9 : nv - w = (nv - (w + 1)) + 1 := by omega
              rw [E9] at hR
              exact ih_20 (w + 1) _ _ true (by omega) (by omega) hp_37.2.1 hp_37.2.2 (by rw [hR, ptF_f (A := (fun w => rmB (cN way) z g w nl (cN one) (cN oth) (cN n) ol op os)) (Or.inr X9)]; show ptF _ _ _ (rmB (cN way) z g w nl (cN one) (cN oth) (cN n) ol op os) = _; rw [X9]) _ _ hP hD hS ls (lv_sub hl [3, 4, 5, 6, 7, 1, 0] rfl)
            · refine lv_iload hx hb dX8_parted_60 (lv_at hl 0 rfl) ?_
              refine m_ifB_eq (tgt := 69) hx hb dX8_parted_62 (by decide) (fun c_62 => ?_) (fun c_62 => ?_)
              · refine lv_iconst (v := nI 0) hx hb dX8_parted_69 (by decide) ?_
                refine lv_istore (lv' := [(5, .int (nI 0)), (7, .int (bI (rmB (cN way) z g w nl (cN one) (cN oth) (cN n) ol op os))), (0, .ref mo), (1, .int (nI (cN way))), (2, .int (nI (cN one))), (3, .int (nI (cN oth))), (4, .int (nI (cN n))), (6, .int (nI w))]) hx hb dX8_parted_70 hl (by decide) rfl (fun ls hl => ?_)
                refine lv_iinc (v := nI (w + 1)) (lv' := [(6, .int (nI (w + 1))), (5, .int (nI 0)), (7, .int (bI (rmB (cN way) z g w nl (cN one) (cN oth) (cN n) ol op os))), (0, .ref mo), (1, .int (nI (cN way))), (2, .int (nI (cN one))), (3, .int (nI (cN oth))), (4, .int (nI (cN n)))]) hx hb dX8_parted_72 hl (k := 7) rfl ((nI_succ _).symm) (by decide) rfl (fun ls hl => ?_)
                refine lv_goto (tgt := 20) hx hb dX8_parted_75 (by decide) ?_
                have E9 : nv - w = (nv - (w + 1)) + 1 := by omega
                rw [E9] at hR
                exact ih_20 (w + 1) _ _ false (by omega) (by omega) hp_37.2.1 hp_37.2.2 (by rw [hR, ptF_f (A := (fun w => rmB (cN way) z g w nl (cN one) (cN oth) (cN n) ol op os)) (Or.inl c_57)]; show ptF _ _ _ (rmB (cN way) z g w nl (cN one) (cN oth) (cN n) ol op os) = _; rw [c_62]) _ _ hP hD hS ls (lv_sub hl [3, 4, 5, 6, 7, 1, 0] rfl)
              · refine lv_iconst (v := nI 1) hx hb dX8_parted_65 (by decide) ?_
                refine lv_goto (tgt := 70) hx hb dX8_parted_66 (by decide) ?_
                refine lv_istore (lv' := [(5, .int (nI 1)), (7, .int (bI (rmB (cN way) z g w nl (cN one) (cN oth) (cN n) ol op os))), (0, .ref mo), (1, .int (nI (cN way))), (2, .int (nI (cN one))), (3, .int (nI (cN oth))), (4, .int (nI (cN n))), (6, .int (nI w))]) hx hb dX8_parted_70 hl (by decide) rfl (fun ls hl => ?_)
                refine lv_iinc (v := nI (w + 1)) (lv' := [(6, .int (nI (w + 1))), (5, .int (nI 1)), (7, .int (bI (rmB (cN way) z g w nl (cN one) (cN oth) (cN n) ol op os))), (0, .ref mo), (1, .int (nI (cN way))), (2, .int (nI (cN one))), (3, .int (nI (cN oth))), (4, .int (nI (cN n)))]) hx hb dX8_parted_72 hl (k := 7) rfl ((nI_succ _).symm) (by decide) rfl (fun ls hl => ?_)
                refine lv_goto (tgt := 20) hx hb dX8_parted_75 (by decide) ?_
                have X9 : rmB (cN way) z g w nl (cN one) (cN oth) (cN n) ol op os = true := by first | exact c_49 | exact c_62 | (rw [c_44] at c_57; cases c_57)
                have E9 : nv - w = (nv - (w + 1)) + 1 := by omega
                rw [E9] at hR
                exact ih_20 (w + 1) _ _ true (by omega) (by omega) hp_37.2.1 hp_37.2.2 (by rw [hR, ptF_f (A := (fun w => rmB (cN way) z g w nl (cN one) (cN oth) (cN n) ol op os)) (Or.inr X9)]; show ptF _ _ _ (rmB (cN way) z g w nl (cN one) (cN oth) (cN n) ol op os) = _; rw [X9]) _ _ hP hD hS ls (lv_sub hl [3, 4, 5, 6, 7, 1, 0] rfl)
          · refine lv_iload hx hb dX8_parted_47 (lv_at hl 0 rfl) ?_
            refine m_ifB_ne (tgt := 55) hx hb dX8_parted_49 (by decide) (fun c_49 => ?_) (fun c_49 => ?_)
            · refine lv_iload hx hb dX8_parted_55 (lv_at hl 6 rfl) ?_
              refine m_ifB_ne (tgt := 65) hx hb dX8_parted_57 (by decide) (fun c_57 => ?_) (fun c_57 => ?_)
              · refine lv_iconst (v := nI 1) hx hb dX8_parted_65 (by decide) ?_
                refine lv_goto (tgt := 70) hx hb dX8_parted_66 (by decide) ?_
                refine lv_istore (lv' := [(5, .int (nI 1)), (7, .int (bI (rmB (cN way) z g w nl (cN one) (cN oth) (cN n) ol op os))), (0, .ref mo), (1, .int (nI (cN way))), (2, .int (nI (cN one))), (3, .int (nI (cN oth))), (4, .int (nI (cN n))), (6, .int (nI w))]) hx hb dX8_parted_70 hl (by decide) rfl (fun ls hl => ?_)
                refine lv_iinc (v := nI (w + 1)) (lv' := [(6, .int (nI (w + 1))), (5, .int (nI 1)), (7, .int (bI (rmB (cN way) z g w nl (cN one) (cN oth) (cN n) ol op os))), (0, .ref mo), (1, .int (nI (cN way))), (2, .int (nI (cN one))), (3, .int (nI (cN oth))), (4, .int (nI (cN n)))]) hx hb dX8_parted_72 hl (k := 7) rfl ((nI_succ _).symm) (by decide) rfl (fun ls hl => ?_)
                refine lv_goto (tgt := 20) hx hb dX8_parted_75 (by decide) ?_
                have X9 : rmB (cN way) z g w nl (cN one) (cN oth) (cN n) ol op os = true := by first | exact c_49 | exact c_62 | (rw [c_44] at c_57; cases c_57)
                have E9 : nv - w = (nv - (w + 1)) + 1 := by omega
                rw [E9] at hR
                exact ih_20 (w + 1) _ _ true (by omega) (by omega) hp_37.2.1 hp_37.2.2 (by rw [hR, ptF_f (A := (fun w => rmB (cN way) z g w nl (cN one) (cN oth) (cN n) ol op os)) (Or.inr X9)]; show ptF _ _ _ (rmB (cN way) z g w nl (cN one) (cN oth) (cN n) ol op os) = _; rw [X9]) _ _ hP hD hS ls (lv_sub hl [3, 4, 5, 6, 7, 1, 0] rfl)
              · refine lv_iload hx hb dX8_parted_60 (lv_at hl 0 rfl) ?_
                refine m_ifB_eq (tgt := 69) hx hb dX8_parted_62 (by decide) (fun c_62 => ?_) (fun c_62 => ?_)
                · refine lv_iconst (v := nI 0) hx hb dX8_parted_69 (by decide) ?_
                  refine lv_istore (lv' := [(5, .int (nI 0)), (7, .int (bI (rmB (cN way) z g w nl (cN one) (cN oth) (cN n) ol op os))), (0, .ref mo), (1, .int (nI (cN way))), (2, .int (nI (cN one))), (3, .int (nI (cN oth))), (4, .int (nI (cN n))), (6, .int (nI w))]) hx hb dX8_parted_70 hl (by decide) rfl (fun ls hl => ?_)
                  refine lv_iinc (v := nI (w + 1)) (lv' := [(6, .int (nI (w + 1))), (5, .int (nI 0)), (7, .int (bI (rmB (cN way) z g w nl (cN one) (cN oth) (cN n) ol op os))), (0, .ref mo), (1, .int (nI (cN way))), (2, .int (nI (cN one))), (3, .int (nI (cN oth))), (4, .int (nI (cN n)))]) hx hb dX8_parted_72 hl (k := 7) rfl ((nI_succ _).symm) (by decide) rfl (fun ls hl => ?_)
                  refine lv_goto (tgt := 20) hx hb dX8_parted_75 (by decide) ?_
                  have E9 : nv - w = (nv - (w + 1)) + 1 := by omega
                  rw [E9] at hR
                  exact ih_20 (w + 1) _ _ false (by omega) (by omega) hp_37.2.1 hp_37.2.2 (by rw [hR, ptF_f (A := (fun w => rmB (cN way) z g w nl (cN one) (cN oth) (cN n) ol op os)) (Or.inl c_57)]; show ptF _ _ _ (rmB (cN way) z g w nl (cN one) (cN oth) (cN n) ol op os) = _; rw [c_62]) _ _ hP hD hS ls (lv_sub hl [3, 4, 5, 6, 7, 1, 0] rfl)
                · refine lv_iconst (v := nI 1) hx hb dX8_parted_65 (by decide) ?_
                  refine lv_goto (tgt := 70) hx hb dX8_parted_66 (by decide) ?_
                  refine lv_istore (lv' := [(5, .int (nI 1)), (7, .int (bI (rmB (cN way) z g w nl (cN one) (cN oth) (cN n) ol op os))), (0, .ref mo), (1, .int (nI (cN way))), (2, .int (nI (cN one))), (3, .int (nI (cN oth))), (4, .int (nI (cN n))), (6, .int (nI w))]) hx hb dX8_parted_70 hl (by decide) rfl (fun ls hl => ?_)
                  refine lv_iinc (v := nI (w + 1)) (lv' := [(6, .int (nI (w + 1))), (5, .int (nI 1)), (7, .int (bI (rmB (cN way) z g w nl (cN one) (cN oth) (cN n) ol op os))), (0, .ref mo), (1, .int (nI (cN way))), (2, .int (nI (cN one))), (3, .int (nI (cN oth))), (4, .int (nI (cN n)))]) hx hb dX8_parted_72 hl (k := 7) rfl ((nI_succ _).symm) (by decide) rfl (fun ls hl => ?_)
                  refine lv_goto (tgt := 20) hx hb dX8_parted_75 (by decide) ?_
                  have X9 : rmB (cN way) z g w nl (cN one) (cN oth) (cN n) ol op os = true := by first | exact c_49 | exact c_62 | (rw [c_44] at c_57; cases c_57)
                  have E9 : nv - w = (nv - (w + 1)) + 1 := by omega
                  rw [E9] at hR
                  exact ih_20 (w + 1) _ _ true (by omega) (by omega) hp_37.2.1 hp_37.2.2 (by rw [hR, ptF_f (A := (fun w => rmB (cN way) z g w nl (cN one) (cN oth) (cN n) ol op os)) (Or.inr X9)]; show ptF _ _ _ (rmB (cN way) z g w nl (cN one) (cN oth) (cN n) ol op os) = _; rw [X9]) _ _ hP hD hS ls (lv_sub hl [3, 4, 5, 6, 7, 1, 0] rfl)
            · refine lv_iload hx hb dX8_parted_52 (lv_at hl 7 rfl) ?_
              rw [hQ]
              have E9 : nv - w = (nv - (w + 1)) + 1 := by omega
              rw [E9] at hR
              exact m_iwr hx hb hr hlocks (beu_37, bau_37) (⟨by rw [paR_t c_8, hR, ptF_t (A := (fun w => rmB (cN way) z g w nl (cN one) (cN oth) (cN n) ol op os)) c_44 c_49], hp_37.2.1, hp_37.2.2⟩) hP hS dX8_parted_54
    exact loop_20 (nv + 1) 0 _ _ false (by omega) (by omega) hbe hba rfl _ _ hP hD hS ls (lv_sub hl [2, 3, 4, 5, 6, 1, 0] rfl)
  · refine lv_bipush (v := (-2)) hx hb dX8_parted_11 (by decide) ?_
    rw [hQ]
    exact m_iwr hx hb hr hlocks (be, ba) (⟨by rw [paR_f c_8], hbe, hba⟩) hP hS dX8_parted_13

theorem yd_X8_isOther : yX8_isOther.cls = RX8 ∧ yX8_isOther.cls ≠ "java/lang/invoke/MethodHandle" ∧ yX8_isOther.cls ≠ "java/lang/invoke/VarHandle" ∧ (parseMethodDescriptor yX8_isOther.desc).map (fun d => d.parameters.length) = some 2 := by decide +kernel
set_option maxHeartbeats 4000000 in
set_option maxRecDepth 100000 in
theorem k_X8_isOther (l : Launch) (D : va_G) (cI cZ : ClassId) (mo ps mpa nl nv msz mcd mbe mba : Nat) (ol : Int32) (op os svn ms1 ms2 ms3 ms4 mfa mim mik : Nat) (z g : Nat → Nat) (v ln : Nat) (hz : ∀ j, z j ≤ 8) (hg : ∀ j, g j ≤ 126) (hv : v + 1 < 4) (hln : ln < 20) : Met l yX8_isOther wsX8_isOther ({ frames := 1, cells := 0, slots := 0, locals := 23 }) (mPc [.ref mo, .int (nI v), .int (nI ln)] D cI cZ [(mo, .inr (8, [.int (nI ps), .ref mpa, .int (nI nl), .int (nI nv), .ref msz, .ref mcd, .ref mbe, .ref mba, .int ol, .int (nI op), .int (nI os), .int (nI svn), .ref ms1, .ref ms2, .ref ms3, .ref ms4, .ref mfa, .ref mim, .ref mik])), (msz, aN cI 80 z), (mcd, aN cI 640 g)]) (QcRead (bI (!(stB z g v ln)))) 0 0 (fun _ => False) := by
  refine Met.ofW (cc := cX8_isOther) (maxL := 5) (ret := (some .boolean)) (by decide) rfl ?_
  intro p e s m args below meth c s₁ BB hml hv
  obtain ⟨hargs, hP, hD0, hK⟩ := hv
  have hx := BB.exec
  have hb := BB.bytes
  have hr := BB.returns
  have hts := atoms_spec (ws := wsX8_isOther) BB.pre
  have hown : s.vm.findClass RX8 = some m.cls := findClass_of_methodNamed BB.named
  have hlocks := BB.notSynchronized
  have hcf : CallFix p m c cX8_isOther 5 s args wsX8_isOther RX8 := ⟨hx, hb, hml, hown, hts⟩
  have hD := hD0
  rw [hargs, lg_entry_eq, ← hargs]
  have hl := lv_entry ([.ref mo, .int (nI v), .int (nI ln)]) (n := 5) (Nat.le_of_ble_eq_true rfl)
  generalize (lg_sl ([.ref mo, .int (nI v), .int (nI ln)]) ++ List.replicate (5 - (lg_sl ([.ref mo, .int (nI v), .int (nI ln)])).length) Slot.unset).toArray = ls at hl ⊢
  have hl : lv_has ls 5 [(0, .ref mo), (1, .int (nI v)), (2, .int (nI ln))] := hl
  obtain ⟨Q, hQ⟩ : ∃ Q, Q = MQ below (QcRead (bI (!(stB z g v ln)))) args s 0 0 (fun _ => False) := ⟨_, rfl⟩
  rw [← hQ]
  have hz8 := hz (v * 20 + ln)
  refine lv_aload_n hx hb dX8_isOther_0 rfl (lv_at hl 0 rfl) ?_
  refine lv_iload_n hx hb dX8_isOther_1 rfl (lv_at hl 1 rfl) ?_
  refine lv_iload_n hx hb dX8_isOther_2 rfl (lv_at hl 2 rfl) ?_
  refine m_rdV (As := [.int (nI v), .int (nI ln)]) (rest := []) (wc := [(mo, .inr (8, [.int (nI ps), .ref mpa, .int (nI nl), .int (nI nv), .ref msz, .ref mcd, .ref mbe, .ref mba, .int ol, .int (nI op), .int (nI os), .int (nI svn), .ref ms1, .ref ms2, .ref ms3, .ref ms4, .ref mfa, .ref mim, .ref mik])), (msz, aN cI 80 z)]) hcf (k_X8_size (l := l) (D := D) (cI := cI) (cZ := cZ) (v := v) (ln := ln) (mo := mo) (ps := ps) (mpa := mpa) (nl := nl) (nv := nv) (msz := msz) (mcd := mcd) (mbe := mbe) (mba := mba) (ol := ol) (op := op) (os := os) (svn := svn) (ms1 := ms1) (ms2 := ms2) (ms3 := ms3) (ms4 := ms4) (mfa := mfa) (mim := mim) (mik := mik) (z := z) (hv := by omega) (hln := hln)) (cwV 2 hts gX8_isOther_X8_size rfl rfl rfl yd_X8_size ⟨Nat.le_of_ble_eq_true rfl, Nat.le_of_ble_eq_true rfl⟩) (m_preV hK hP hD [0, 1] (by decide) rfl rfl rfl) rfl hl.1 rfl (Nat.le_of_ble_eq_true rfl) dX8_isOther_3 ⟨Nat.zero_le _, Nat.zero_le _⟩ ?_
  refine lv_aload_n hx hb dX8_isOther_6 rfl (lv_at hl 0 rfl) ?_
  refine lv_iload_n hx hb dX8_isOther_7 rfl (lv_at hl 1 rfl) ?_
  refine lv_iconst (v := nI 1) hx hb dX8_isOther_8 (by decide) ?_
  refine m_add hx hb dX8_isOther_9 ?_
  refine lv_iload_n hx hb dX8_isOther_10 rfl (lv_at hl 2 rfl) ?_
  refine m_rdV (As := [.int (nI (v + 1)), .int (nI ln)]) (rest := [.int (nI (z (v * 20 + ln)))]) (wc := [(mo, .inr (8, [.int (nI ps), .ref mpa, .int (nI nl), .int (nI nv), .ref msz, .ref mcd, .ref mbe, .ref mba, .int ol, .int (nI op), .int (nI os), .int (nI svn), .ref ms1, .ref ms2, .ref ms3, .ref ms4, .ref mfa, .ref mim, .ref mik])), (msz, aN cI 80 z)]) hcf (k_X8_size (l := l) (D := D) (cI := cI) (cZ := cZ) (v := v + 1) (ln := ln) (mo := mo) (ps := ps) (mpa := mpa) (nl := nl) (nv := nv) (msz := msz) (mcd := mcd) (mbe := mbe) (mba := mba) (ol := ol) (op := op) (os := os) (svn := svn) (ms1 := ms1) (ms2 := ms2) (ms3 := ms3) (ms4 := ms4) (mfa := mfa) (mim := mim) (mik := mik) (z := z) (hv := by omega) (hln := hln)) (cwV 2 hts gX8_isOther_X8_size rfl rfl rfl yd_X8_size ⟨Nat.le_of_ble_eq_true rfl, Nat.le_of_ble_eq_true rfl⟩) (m_preV hK hP hD [0, 1] (by decide) rfl rfl rfl) rfl hl.1 rfl (Nat.le_of_ble_eq_true rfl) dX8_isOther_11 ⟨Nat.zero_le _, Nat.zero_le _⟩ ?_
  refine m_cmp_ne (tgt := 21) hx hb dX8_isOther_14 (by decide) (Nat.lt_of_le_of_lt (hz _) (by decide)) (Nat.lt_of_le_of_lt (hz _) (by decide)) (fun c_14 => ?_) (fun c_14 => ?_)
  · refine lv_iconst (v := nI 0) hx hb dX8_isOther_21 (by decide) ?_
    refine lv_istore_n (lv' := [(3, .int (nI 0)), (0, .ref mo), (1, .int (nI v)), (2, .int (nI ln))]) hx hb dX8_isOther_22 rfl hl (by decide) rfl (fun ls hl => ?_)
    refine lv_iconst (v := nI 0) hx hb dX8_isOther_23 (by decide) ?_
    refine lv_istore (lv' := [(4, .int (nI 0)), (3, .int (nI 0)), (0, .ref mo), (1, .int (nI v)), (2, .int (nI ln))]) hx hb dX8_isOther_24 hl (by decide) rfl (fun ls hl => ?_)
    have loop_26 : ∀ (fu : Nat) (k : Nat) (w : Bool) (hfu : z (v * 20 + ln) - k < fu)  (hk : k ≤ z (v * 20 + ln)) (hw1 : w = true → z (v * 20 + ln) = z ((v + 1) * 20 + ln) ∧ ∀ j, j < k → g ((v * 20 + ln) * 8 + j) = g (((v + 1) * 20 + ln) * 8 + j)) (hw2 : w = false → stB z g v ln = false) (ls : Array Slot) (hl : lv_has ls 5 [(0, .ref mo), (1, .int (nI v)), (2, .int (nI ln)), (3, .int (bI w)), (4, .int (nI k))]), W p l e (headSpec wsX8_isOther { frames := 1, cells := 0, slots := 0, locals := 23 }).room s m args below meth c s.heap [] 0 0 Q (F0 m 26 ls []) := by
      intro fu
      induction fu with
      | zero => intro k w hfu; exact absurd hfu (Nat.not_lt_zero _)
      | succ fu ih_26 =>
        intro k w hfu hk hw1 hw2 ls hl
        refine lv_iload hx hb dX8_isOther_26 (lv_at hl 4 rfl) ?_
        refine lv_aload_n hx hb dX8_isOther_28 rfl (lv_at hl 0 rfl) ?_
        refine lv_iload_n hx hb dX8_isOther_29 rfl (lv_at hl 1 rfl) ?_
        refine lv_iload_n hx hb dX8_isOther_30 rfl (lv_at hl 2 rfl) ?_
        refine m_rdV (As := [.int (nI v), .int (nI ln)]) (rest := [.int (nI k)]) (wc := [(mo, .inr (8, [.int (nI ps), .ref mpa, .int (nI nl), .int (nI nv), .ref msz, .ref mcd, .ref mbe, .ref mba, .int ol, .int (nI op), .int (nI os), .int (nI svn), .ref ms1, .ref ms2, .ref ms3, .ref ms4, .ref mfa, .ref mim, .ref mik])), (msz, aN cI 80 z)]) hcf (k_X8_size (l := l) (D := D) (cI := cI) (cZ := cZ) (v := v) (ln := ln) (mo := mo) (ps := ps) (mpa := mpa) (nl := nl) (nv := nv) (msz := msz) (mcd := mcd) (mbe := mbe) (mba := mba) (ol := ol) (op := op) (os := os) (svn := svn) (ms1 := ms1) (ms2 := ms2) (ms3 := ms3) (ms4 := ms4) (mfa := mfa) (mim := mim) (mik := mik) (z := z) (hv := by omega) (hln := hln)) (cwV 2 hts gX8_isOther_X8_size rfl rfl rfl yd_X8_size ⟨Nat.le_of_ble_eq_true rfl, Nat.le_of_ble_eq_true rfl⟩) (m_preV hK hP hD [0, 1] (by decide) rfl rfl rfl) rfl hl.1 rfl (Nat.le_of_ble_eq_true rfl) dX8_isOther_31 ⟨Nat.zero_le _, Nat.zero_le _⟩ ?_
        refine m_cmp_ge (tgt := 74) hx hb dX8_isOther_34 (by decide) (by omega) (Nat.lt_of_le_of_lt (hz _) (by decide)) (fun c_34 => ?_) (fun c_34 => ?_)
        · refine lv_iload_n hx hb dX8_isOther_74 rfl (lv_at hl 3 rfl) ?_
          refine m_ifB_ne (tgt := 82) hx hb dX8_isOther_75 (by decide) (fun c_75 => ?_) (fun c_75 => ?_)
          · refine lv_iconst (v := nI 0) hx hb dX8_isOther_82 (by decide) ?_
            rw [hQ]
            exact m_zrd hx hb hr hlocks (bb_zero (by rw [st_eq (hw1 c_75).1 (fun j hj => (hw1 c_75).2 j (by first | omega | (exact absurd c_75 (by rw [c_38]; decide))))]; rfl)) dX8_isOther_83
          · refine lv_iconst (v := nI 1) hx hb dX8_isOther_78 (by decide) ?_
            refine lv_goto (tgt := 83) hx hb dX8_isOther_79 (by decide) ?_
            rw [hQ]
            exact m_zrd hx hb hr hlocks (bb_one (by rw [hw2 c_75]; rfl)) dX8_isOther_83
        · refine lv_iload_n hx hb dX8_isOther_37 rfl (lv_at hl 3 rfl) ?_
          refine m_ifB_eq (tgt := 74) hx hb dX8_isOther_38 (by decide) (fun c_38 => ?_) (fun c_38 => ?_)
          · refine lv_iload_n hx hb dX8_isOther_74 rfl (lv_at hl 3 rfl) ?_
            refine m_ifB_ne (tgt := 82) hx hb dX8_isOther_75 (by decide) (fun c_75 => ?_) (fun c_75 => ?_)
            · refine lv_iconst (v := nI 0) hx hb dX8_isOther_82 (by decide) ?_
              rw [hQ]
              exact m_zrd hx hb hr hlocks (bb_zero (by rw [st_eq (hw1 c_75).1 (fun j hj => (hw1 c_75).2 j (by first | omega | (exact absurd c_75 (by rw [c_38]; decide))))]; rfl)) dX8_isOther_83
            · refine lv_iconst (v := nI 1) hx hb dX8_isOther_78 (by decide) ?_
              refine lv_goto (tgt := 83) hx hb dX8_isOther_79 (by decide) ?_
              rw [hQ]
              exact m_zrd hx hb hr hlocks (bb_one (by rw [hw2 c_75]; rfl)) dX8_isOther_83
          · refine lv_aload_n hx hb dX8_isOther_41 rfl (lv_at hl 0 rfl) ?_
            refine lv_iload_n hx hb dX8_isOther_42 rfl (lv_at hl 1 rfl) ?_
            refine lv_iload_n hx hb dX8_isOther_43 rfl (lv_at hl 2 rfl) ?_
            refine lv_iload hx hb dX8_isOther_44 (lv_at hl 4 rfl) ?_
            refine m_rdV (As := [.int (nI v), .int (nI ln), .int (nI k)]) (rest := []) (wc := [(mo, .inr (8, [.int (nI ps), .ref mpa, .int (nI nl), .int (nI nv), .ref msz, .ref mcd, .ref mbe, .ref mba, .int ol, .int (nI op), .int (nI os), .int (nI svn), .ref ms1, .ref ms2, .ref ms3, .ref ms4, .ref mfa, .ref mim, .ref mik])), (mcd, aN cI 640 g)]) hcf (k_X8_signAt (l := l) (D := D) (cI := cI) (cZ := cZ) (v := v) (ln := ln) (k := k) (mo := mo) (ps := ps) (mpa := mpa) (nl := nl) (nv := nv) (msz := msz) (mcd := mcd) (mbe := mbe) (mba := mba) (ol := ol) (op := op) (os := os) (svn := svn) (ms1 := ms1) (ms2 := ms2) (ms3 := ms3) (ms4 := ms4) (mfa := mfa) (mim := mim) (mik := mik) (g := g) (hv := by omega) (hln := hln) (hk := by omega)) (cwV 3 hts gX8_isOther_X8_signAt rfl rfl rfl yd_X8_signAt ⟨Nat.le_of_ble_eq_true rfl, Nat.le_of_ble_eq_true rfl⟩) (m_preV hK hP hD [0, 2] (by decide) rfl rfl rfl) rfl hl.1 rfl (Nat.le_of_ble_eq_true rfl) dX8_isOther_46 ⟨Nat.zero_le _, Nat.zero_le _⟩ ?_
            refine lv_aload_n hx hb dX8_isOther_49 rfl (lv_at hl 0 rfl) ?_
            refine lv_iload_n hx hb dX8_isOther_50 rfl (lv_at hl 1 rfl) ?_
            refine lv_iconst (v := nI 1) hx hb dX8_isOther_51 (by decide) ?_
            refine m_add hx hb dX8_isOther_52 ?_
            refine lv_iload_n hx hb dX8_isOther_53 rfl (lv_at hl 2 rfl) ?_
            refine lv_iload hx hb dX8_isOther_54 (lv_at hl 4 rfl) ?_
            refine m_rdV (As := [.int (nI (v + 1)), .int (nI ln), .int (nI k)]) (rest := [.int (nI (g ((v * 20 + ln) * 8 + k)))]) (wc := [(mo, .inr (8, [.int (nI ps), .ref mpa, .int (nI nl), .int (nI nv), .ref msz, .ref mcd, .ref mbe, .ref mba, .int ol, .int (nI op), .int (nI os), .int (nI svn), .ref ms1, .ref ms2, .ref ms3, .ref ms4, .ref mfa, .ref mim, .ref mik])), (mcd, aN cI 640 g)]) hcf (k_X8_signAt (l := l) (D := D) (cI := cI) (cZ := cZ) (v := v + 1) (ln := ln) (k := k) (mo := mo) (ps := ps) (mpa := mpa) (nl := nl) (nv := nv) (msz := msz) (mcd := mcd) (mbe := mbe) (mba := mba) (ol := ol) (op := op) (os := os) (svn := svn) (ms1 := ms1) (ms2 := ms2) (ms3 := ms3) (ms4 := ms4) (mfa := mfa) (mim := mim) (mik := mik) (g := g) (hv := by omega) (hln := hln) (hk := by omega)) (cwV 3 hts gX8_isOther_X8_signAt rfl rfl rfl yd_X8_signAt ⟨Nat.le_of_ble_eq_true rfl, Nat.le_of_ble_eq_true rfl⟩) (m_preV hK hP hD [0, 2] (by decide) rfl rfl rfl) rfl hl.1 rfl (Nat.le_of_ble_eq_true rfl) dX8_isOther_56 ⟨Nat.zero_le _, Nat.zero_le _⟩ ?_
            refine m_cmp_ne (tgt := 66) hx hb dX8_isOther_59 (by decide) (Nat.lt_of_le_of_lt (hg _) (by decide)) (Nat.lt_of_le_of_lt (hg _) (by decide)) (fun c_59 => ?_) (fun c_59 => ?_)
            · refine lv_iconst (v := nI 0) hx hb dX8_isOther_66 (by decide) ?_
              refine lv_istore_n (lv' := [(3, .int (nI 0)), (0, .ref mo), (1, .int (nI v)), (2, .int (nI ln)), (4, .int (nI k))]) hx hb dX8_isOther_67 rfl hl (by decide) rfl (fun ls hl => ?_)
              refine lv_iinc (v := nI (k + 1)) (lv' := [(4, .int (nI (k + 1))), (3, .int (nI 0)), (0, .ref mo), (1, .int (nI v)), (2, .int (nI ln))]) hx hb dX8_isOther_68 hl (k := 4) rfl ((nI_succ _).symm) (by decide) rfl (fun ls hl => ?_)
              refine lv_goto (tgt := 26) hx hb dX8_isOther_71 (by decide) ?_
              exact ih_26 (k + 1) false (by omega) (by omega) (fun h => by cases h) (fun _ => st_g c_34 c_59)  ls (lv_sub hl [2, 3, 4, 1, 0] rfl)
            · refine lv_iconst (v := nI 1) hx hb dX8_isOther_62 (by decide) ?_
              refine lv_goto (tgt := 67) hx hb dX8_isOther_63 (by decide) ?_
              refine lv_istore_n (lv' := [(3, .int (nI 1)), (0, .ref mo), (1, .int (nI v)), (2, .int (nI ln)), (4, .int (nI k))]) hx hb dX8_isOther_67 rfl hl (by decide) rfl (fun ls hl => ?_)
              refine lv_iinc (v := nI (k + 1)) (lv' := [(4, .int (nI (k + 1))), (3, .int (nI 1)), (0, .ref mo), (1, .int (nI v)), (2, .int (nI ln))]) hx hb dX8_isOther_68 hl (k := 4) rfl ((nI_succ _).symm) (by decide) rfl (fun ls hl => ?_)
              refine lv_goto (tgt := 26) hx hb dX8_isOther_71 (by decide) ?_
              exact ih_26 (k + 1) true (by omega) (by omega) (fun _ => ⟨(hw1 c_38).1, lt_s (hw1 c_38).2 c_59⟩) (fun h => by cases h)  ls (lv_sub hl [2, 3, 4, 1, 0] rfl)
    have hz9 := hz (v * 20 + ln)
    exact loop_26 (z (v * 20 + ln) + 1) 0 false (by omega) (by omega) (fun h => by cases h) (fun _ => st_z c_14)  ls (lv_sub hl [2, 3, 4, 1, 0] rfl)
  · refine lv_iconst (v := nI 1) hx hb dX8_isOther_17 (by decide) ?_
    refine lv_goto (tgt := 22) hx hb dX8_isOther_18 (by decide) ?_
    refine lv_istore_n (lv' := [(3, .int (nI 1)), (0, .ref mo), (1, .int (nI v)), (2, .int (nI ln))]) hx hb dX8_isOther_22 rfl hl (by decide) rfl (fun ls hl => ?_)
    refine lv_iconst (v := nI 0) hx hb dX8_isOther_23 (by decide) ?_
    refine lv_istore (lv' := [(4, .int (nI 0)), (3, .int (nI 1)), (0, .ref mo), (1, .int (nI v)), (2, .int (nI ln))]) hx hb dX8_isOther_24 hl (by decide) rfl (fun ls hl => ?_)
    have loop_26 : ∀ (fu : Nat) (k : Nat) (w : Bool) (hfu : z (v * 20 + ln) - k < fu)  (hk : k ≤ z (v * 20 + ln)) (hw1 : w = true → z (v * 20 + ln) = z ((v + 1) * 20 + ln) ∧ ∀ j, j < k → g ((v * 20 + ln) * 8 + j) = g (((v + 1) * 20 + ln) * 8 + j)) (hw2 : w = false → stB z g v ln = false) (ls : Array Slot) (hl : lv_has ls 5 [(0, .ref mo), (1, .int (nI v)), (2, .int (nI ln)), (3, .int (bI w)), (4, .int (nI k))]), W p l e (headSpec wsX8_isOther { frames := 1, cells := 0, slots := 0, locals := 23 }).room s m args below meth c s.heap [] 0 0 Q (F0 m 26 ls []) := by
      intro fu
      induction fu with
      | zero => intro k w hfu; exact absurd hfu (Nat.not_lt_zero _)
      | succ fu ih_26 =>
        intro k w hfu hk hw1 hw2 ls hl
        refine lv_iload hx hb dX8_isOther_26 (lv_at hl 4 rfl) ?_
        refine lv_aload_n hx hb dX8_isOther_28 rfl (lv_at hl 0 rfl) ?_
        refine lv_iload_n hx hb dX8_isOther_29 rfl (lv_at hl 1 rfl) ?_
        refine lv_iload_n hx hb dX8_isOther_30 rfl (lv_at hl 2 rfl) ?_
        refine m_rdV (As := [.int (nI v), .int (nI ln)]) (rest := [.int (nI k)]) (wc := [(mo, .inr (8, [.int (nI ps), .ref mpa, .int (nI nl), .int (nI nv), .ref msz, .ref mcd, .ref mbe, .ref mba, .int ol, .int (nI op), .int (nI os), .int (nI svn), .ref ms1, .ref ms2, .ref ms3, .ref ms4, .ref mfa, .ref mim, .ref mik])), (msz, aN cI 80 z)]) hcf (k_X8_size (l := l) (D := D) (cI := cI) (cZ := cZ) (v := v) (ln := ln) (mo := mo) (ps := ps) (mpa := mpa) (nl := nl) (nv := nv) (msz := msz) (mcd := mcd) (mbe := mbe) (mba := mba) (ol := ol) (op := op) (os := os) (svn := svn) (ms1 := ms1) (ms2 := ms2) (ms3 := ms3) (ms4 := ms4) (mfa := mfa) (mim := mim) (mik := mik) (z := z) (hv := by omega) (hln := hln)) (cwV 2 hts gX8_isOther_X8_size rfl rfl rfl yd_X8_size ⟨Nat.le_of_ble_eq_true rfl, Nat.le_of_ble_eq_true rfl⟩) (m_preV hK hP hD [0, 1] (by decide) rfl rfl rfl) rfl hl.1 rfl (Nat.le_of_ble_eq_true rfl) dX8_isOther_31 ⟨Nat.zero_le _, Nat.zero_le _⟩ ?_
        refine m_cmp_ge (tgt := 74) hx hb dX8_isOther_34 (by decide) (by omega) (Nat.lt_of_le_of_lt (hz _) (by decide)) (fun c_34 => ?_) (fun c_34 => ?_)
        · refine lv_iload_n hx hb dX8_isOther_74 rfl (lv_at hl 3 rfl) ?_
          refine m_ifB_ne (tgt := 82) hx hb dX8_isOther_75 (by decide) (fun c_75 => ?_) (fun c_75 => ?_)
          · refine lv_iconst (v := nI 0) hx hb dX8_isOther_82 (by decide) ?_
            rw [hQ]
            exact m_zrd hx hb hr hlocks (bb_zero (by rw [st_eq (hw1 c_75).1 (fun j hj => (hw1 c_75).2 j (by first | omega | (exact absurd c_75 (by rw [c_38]; decide))))]; rfl)) dX8_isOther_83
          · refine lv_iconst (v := nI 1) hx hb dX8_isOther_78 (by decide) ?_
            refine lv_goto (tgt := 83) hx hb dX8_isOther_79 (by decide) ?_
            rw [hQ]
            exact m_zrd hx hb hr hlocks (bb_one (by rw [hw2 c_75]; rfl)) dX8_isOther_83
        · refine lv_iload_n hx hb dX8_isOther_37 rfl (lv_at hl 3 rfl) ?_
          refine m_ifB_eq (tgt := 74) hx hb dX8_isOther_38 (by decide) (fun c_38 => ?_) (fun c_38 => ?_)
          · refine lv_iload_n hx hb dX8_isOther_74 rfl (lv_at hl 3 rfl) ?_
            refine m_ifB_ne (tgt := 82) hx hb dX8_isOther_75 (by decide) (fun c_75 => ?_) (fun c_75 => ?_)
            · refine lv_iconst (v := nI 0) hx hb dX8_isOther_82 (by decide) ?_
              rw [hQ]
              exact m_zrd hx hb hr hlocks (bb_zero (by rw [st_eq (hw1 c_75).1 (fun j hj => (hw1 c_75).2 j (by first | omega | (exact absurd c_75 (by rw [c_38]; decide))))]; rfl)) dX8_isOther_83
            · refine lv_iconst (v := nI 1) hx hb dX8_isOther_78 (by decide) ?_
              refine lv_goto (tgt := 83) hx hb dX8_isOther_79 (by decide) ?_
              rw [hQ]
              exact m_zrd hx hb hr hlocks (bb_one (by rw [hw2 c_75]; rfl)) dX8_isOther_83
          · refine lv_aload_n hx hb dX8_isOther_41 rfl (lv_at hl 0 rfl) ?_
            refine lv_iload_n hx hb dX8_isOther_42 rfl (lv_at hl 1 rfl) ?_
            refine lv_iload_n hx hb dX8_isOther_43 rfl (lv_at hl 2 rfl) ?_
            refine lv_iload hx hb dX8_isOther_44 (lv_at hl 4 rfl) ?_
            refine m_rdV (As := [.int (nI v), .int (nI ln), .int (nI k)]) (rest := []) (wc := [(mo, .inr (8, [.int (nI ps), .ref mpa, .int (nI nl), .int (nI nv), .ref msz, .ref mcd, .ref mbe, .ref mba, .int ol, .int (nI op), .int (nI os), .int (nI svn), .ref ms1, .ref ms2, .ref ms3, .ref ms4, .ref mfa, .ref mim, .ref mik])), (mcd, aN cI 640 g)]) hcf (k_X8_signAt (l := l) (D := D) (cI := cI) (cZ := cZ) (v := v) (ln := ln) (k := k) (mo := mo) (ps := ps) (mpa := mpa) (nl := nl) (nv := nv) (msz := msz) (mcd := mcd) (mbe := mbe) (mba := mba) (ol := ol) (op := op) (os := os) (svn := svn) (ms1 := ms1) (ms2 := ms2) (ms3 := ms3) (ms4 := ms4) (mfa := mfa) (mim := mim) (mik := mik) (g := g) (hv := by omega) (hln := hln) (hk := by omega)) (cwV 3 hts gX8_isOther_X8_signAt rfl rfl rfl yd_X8_signAt ⟨Nat.le_of_ble_eq_true rfl, Nat.le_of_ble_eq_true rfl⟩) (m_preV hK hP hD [0, 2] (by decide) rfl rfl rfl) rfl hl.1 rfl (Nat.le_of_ble_eq_true rfl) dX8_isOther_46 ⟨Nat.zero_le _, Nat.zero_le _⟩ ?_
            refine lv_aload_n hx hb dX8_isOther_49 rfl (lv_at hl 0 rfl) ?_
            refine lv_iload_n hx hb dX8_isOther_50 rfl (lv_at hl 1 rfl) ?_
            refine lv_iconst (v := nI 1) hx hb dX8_isOther_51 (by decide) ?_
            refine m_add hx hb dX8_isOther_52 ?_
            refine lv_iload_n hx hb dX8_isOther_53 rfl (lv_at hl 2 rfl) ?_
            refine lv_iload hx hb dX8_isOther_54 (lv_at hl 4 rfl) ?_
            refine m_rdV (As := [.int (nI (v + 1)), .int (nI ln), .int (nI k)]) (rest := [.int (nI (g ((v * 20 + ln) * 8 + k)))]) (wc := [(mo, .inr (8, [.int (nI ps), .ref mpa, .int (nI nl), .int (nI nv), .ref msz, .ref mcd, .ref mbe, .ref mba, .int ol, .int (nI op), .int (nI os), .int (nI svn), .ref ms1, .ref ms2, .ref ms3, .ref ms4, .ref mfa, .ref mim, .ref mik])), (mcd, aN cI 640 g)]) hcf (k_X8_signAt (l := l) (D := D) (cI := cI) (cZ := cZ) (v := v + 1) (ln := ln) (k := k) (mo := mo) (ps := ps) (mpa := mpa) (nl := nl) (nv := nv) (msz := msz) (mcd := mcd) (mbe := mbe) (mba := mba) (ol := ol) (op := op) (os := os) (svn := svn) (ms1 := ms1) (ms2 := ms2) (ms3 := ms3) (ms4 := ms4) (mfa := mfa) (mim := mim) (mik := mik) (g := g) (hv := by omega) (hln := hln) (hk := by omega)) (cwV 3 hts gX8_isOther_X8_signAt rfl rfl rfl yd_X8_signAt ⟨Nat.le_of_ble_eq_true rfl, Nat.le_of_ble_eq_true rfl⟩) (m_preV hK hP hD [0, 2] (by decide) rfl rfl rfl) rfl hl.1 rfl (Nat.le_of_ble_eq_true rfl) dX8_isOther_56 ⟨Nat.zero_le _, Nat.zero_le _⟩ ?_
            refine m_cmp_ne (tgt := 66) hx hb dX8_isOther_59 (by decide) (Nat.lt_of_le_of_lt (hg _) (by decide)) (Nat.lt_of_le_of_lt (hg _) (by decide)) (fun c_59 => ?_) (fun c_59 => ?_)
            · refine lv_iconst (v := nI 0) hx hb dX8_isOther_66 (by decide) ?_
              refine lv_istore_n (lv' := [(3, .int (nI 0)), (0, .ref mo), (1, .int (nI v)), (2, .int (nI ln)), (4, .int (nI k))]) hx hb dX8_isOther_67 rfl hl (by decide) rfl (fun ls hl => ?_)
              refine lv_iinc (v := nI (k + 1)) (lv' := [(4, .int (nI (k + 1))), (3, .int (nI 0)), (0, .ref mo), (1, .int (nI v)), (2, .int (nI ln))]) hx hb dX8_isOther_68 hl (k := 4) rfl ((nI_succ _).symm) (by decide) rfl (fun ls hl => ?_)
              refine lv_goto (tgt := 26) hx hb dX8_isOther_71 (by decide) ?_
              exact ih_26 (k + 1) false (by omega) (by omega) (fun h => by cases h) (fun _ => st_g c_34 c_59)  ls (lv_sub hl [2, 3, 4, 1, 0] rfl)
            · refine lv_iconst (v := nI 1) hx hb dX8_isOther_62 (by decide) ?_
              refine lv_goto (tgt := 67) hx hb dX8_isOther_63 (by decide) ?_
              refine lv_istore_n (lv' := [(3, .int (nI 1)), (0, .ref mo), (1, .int (nI v)), (2, .int (nI ln)), (4, .int (nI k))]) hx hb dX8_isOther_67 rfl hl (by decide) rfl (fun ls hl => ?_)
              refine lv_iinc (v := nI (k + 1)) (lv' := [(4, .int (nI (k + 1))), (3, .int (nI 1)), (0, .ref mo), (1, .int (nI v)), (2, .int (nI ln))]) hx hb dX8_isOther_68 hl (k := 4) rfl ((nI_succ _).symm) (by decide) rfl (fun ls hl => ?_)
              refine lv_goto (tgt := 26) hx hb dX8_isOther_71 (by decide) ?_
              exact ih_26 (k + 1) true (by omega) (by omega) (fun _ => ⟨(hw1 c_38).1, lt_s (hw1 c_38).2 c_59⟩) (fun h => by cases h)  ls (lv_sub hl [2, 3, 4, 1, 0] rfl)
    have hz9 := hz (v * 20 + ln)
    exact loop_26 (z (v * 20 + ln) + 1) 0 true (by omega) (by omega) (fun _ => ⟨c_14, fun j hj => absurd hj (Nat.not_lt_zero j)⟩) (fun h => by cases h)  ls (lv_sub hl [2, 3, 4, 1, 0] rfl)

theorem rmB_there {way : Nat} {z g : Nat → Nat} {v nl one other n : Nat} {ol : Int32} {op os : Nat} (h : rmB way z g v nl one other n ol op os = true) : one + n ≤ nl ∧ other + n ≤ nl := by
  unfold rmB at h
  rw [Bool.and_eq_true, Bool.and_eq_true, decide_eq_true_iff, decide_eq_true_iff] at h
  exact h.1

theorem yd_X8_mendsOf : yX8_mendsOf.cls = RX8 ∧ yX8_mendsOf.cls ≠ "java/lang/invoke/MethodHandle" ∧ yX8_mendsOf.cls ≠ "java/lang/invoke/VarHandle" ∧ (parseMethodDescriptor yX8_mendsOf.desc).map (fun d => d.parameters.length) = some 4 := by decide +kernel
set_option maxHeartbeats 4000000 in
set_option maxRecDepth 100000 in
theorem k_X8_mendsOf (l : Launch) (D : va_G) (cI cZ : ClassId) (mo ps mpa nl nv msz mcd mbe mba : Nat) (ol : Int32) (op os svn ms1 ms2 ms3 ms4 mfa mim mik : Nat) (be ba : Nat → Nat) (z g : Nat → Nat) (v one oth n : Nat) (hnl : nl ≤ 20) (hnv : nv ≤ 4) (hz : ∀ j, z j ≤ 8) (hg : ∀ j, g j ≤ 126) (hbe : ∀ j, be j ≤ 126) (hba : ∀ j, ba j ≤ 126) (hop : op ≤ 100) (hos : os ≤ 126) (hv : v + 1 < 4) (h1 : one ≤ 20) (h2 : oth ≤ 20) (hn : n ≤ 20) : Met l yX8_mendsOf wsX8_mendsOf ({ frames := 4, cells := 0, slots := 0, locals := 93 }) (mPc [.ref mo, .int (nI v), .int (nI one), .int (nI oth), .int (nI n)] D cI cZ [(mo, .inr (8, [.int (nI ps), .ref mpa, .int (nI nl), .int (nI nv), .ref msz, .ref mcd, .ref mbe, .ref mba, .int ol, .int (nI op), .int (nI os), .int (nI svn), .ref ms1, .ref ms2, .ref ms3, .ref ms4, .ref mfa, .ref mim, .ref mik])), (mbe, aN cI 26 be), (mba, aN cI 26 ba), (msz, aN cI 80 z), (mcd, aN cI 640 g)]) (mQi D (mA [(mo, .inr (8, [.int (nI ps), .ref mpa, .int (nI nl), .int (nI nv), .ref msz, .ref mcd, .ref mbe, .ref mba, .int ol, .int (nI op), .int (nI os), .int (nI svn), .ref ms1, .ref ms2, .ref ms3, .ref ms4, .ref mfa, .ref mim, .ref mik])), (mbe, aN cI 26 be), (mba, aN cI 26 ba), (msz, aN cI 80 z), (mcd, aN cI 640 g)]) (fun (r : Int32) (u : (Nat → Nat) × (Nat → Nat)) => r = nI (mqN z g v nl one oth n ol op os) ∧ (rmB 1 z g v nl one oth n ol op os = true → pmM u.1 u.2 (rwM 1 z g v one oth ol op os n).2) ∧ (∀ j, u.1 j ≤ 126) ∧ (∀ j, u.2 j ≤ 126)) (fun (u : (Nat → Nat) × (Nat → Nat)) => [(mo, .inr (8, [.int (nI ps), .ref mpa, .int (nI nl), .int (nI nv), .ref msz, .ref mcd, .ref mbe, .ref mba, .int ol, .int (nI op), .int (nI os), .int (nI svn), .ref ms1, .ref ms2, .ref ms3, .ref ms4, .ref mfa, .ref mim, .ref mik])), (mbe, aN cI 26 u.1), (mba, aN cI 26 u.2), (msz, aN cI 80 z), (mcd, aN cI 640 g)])) 0 0 (mA [(mo, .inr (8, [.int (nI ps), .ref mpa, .int (nI nl), .int (nI nv), .ref msz, .ref mcd, .ref mbe, .ref mba, .int ol, .int (nI op), .int (nI os), .int (nI svn), .ref ms1, .ref ms2, .ref ms3, .ref ms4, .ref mfa, .ref mim, .ref mik])), (mbe, aN cI 26 be), (mba, aN cI 26 ba), (msz, aN cI 80 z), (mcd, aN cI 640 g)]) := by
  refine Met.ofW (cc := cX8_mendsOf) (maxL := 7) (ret := (some .int)) (by decide) rfl ?_
  intro p e s m args below meth c s₁ BB hml hv
  obtain ⟨hargs, hP, hD0, hK⟩ := hv
  have hx := BB.exec
  have hb := BB.bytes
  have hr := BB.returns
  have hts := atoms_spec (ws := wsX8_mendsOf) BB.pre
  have hown : s.vm.findClass RX8 = some m.cls := findClass_of_methodNamed BB.named
  have hlocks := BB.notSynchronized
  have hcf : CallFix p m c cX8_mendsOf 7 s args wsX8_mendsOf RX8 := ⟨hx, hb, hml, hown, hts⟩
  obtain ⟨A, hAe⟩ : ∃ A, A = mA [(mo, .inr (8, [.int (nI ps), .ref mpa, .int (nI nl), .int (nI nv), .ref msz, .ref mcd, .ref mbe, .ref mba, .int ol, .int (nI op), .int (nI os), .int (nI svn), .ref ms1, .ref ms2, .ref ms3, .ref ms4, .ref mfa, .ref mim, .ref mik])), (mbe, aN cI 26 be), (mba, aN cI 26 ba), (msz, aN cI 80 z), (mcd, aN cI 640 g)] := ⟨_, rfl⟩
  have hD : va_D A [(mo, .inr (8, [.int (nI ps), .ref mpa, .int (nI nl), .int (nI nv), .ref msz, .ref mcd, .ref mbe, .ref mba, .int ol, .int (nI op), .int (nI os), .int (nI svn), .ref ms1, .ref ms2, .ref ms3, .ref ms4, .ref mfa, .ref mim, .ref mik])), (mbe, aN cI 26 be), (mba, aN cI 26 ba), (msz, aN cI 80 z), (mcd, aN cI 640 g)] := ⟨hD0.1, fun k q h => by rw [hAe]; exact ⟨k, q.2, h⟩⟩
  have hS : va_S A s.heap s.heap [] := va_S.rf
  rw [← hAe]
  rw [hargs, lg_entry_eq, ← hargs]
  have hl := lv_entry ([.ref mo, .int (nI v), .int (nI one), .int (nI oth), .int (nI n)]) (n := 7) (Nat.le_of_ble_eq_true rfl)
  generalize (lg_sl ([.ref mo, .int (nI v), .int (nI one), .int (nI oth), .int (nI n)]) ++ List.replicate (7 - (lg_sl ([.ref mo, .int (nI v), .int (nI one), .int (nI oth), .int (nI n)])).length) Slot.unset).toArray = ls at hl ⊢
  have hl : lv_has ls 7 [(0, .ref mo), (1, .int (nI v)), (2, .int (nI one)), (3, .int (nI oth)), (4, .int (nI n))] := hl
  obtain ⟨Q, hQ⟩ : ∃ Q, Q = MQ below (mQi D A (fun (r : Int32) (u : (Nat → Nat) × (Nat → Nat)) => r = nI (mqN z g v nl one oth n ol op os) ∧ (rmB 1 z g v nl one oth n ol op os = true → pmM u.1 u.2 (rwM 1 z g v one oth ol op os n).2) ∧ (∀ j, u.1 j ≤ 126) ∧ (∀ j, u.2 j ≤ 126)) (fun (u : (Nat → Nat) × (Nat → Nat)) => [(mo, .inr (8, [.int (nI ps), .ref mpa, .int (nI nl), .int (nI nv), .ref msz, .ref mcd, .ref mbe, .ref mba, .int ol, .int (nI op), .int (nI os), .int (nI svn), .ref ms1, .ref ms2, .ref ms3, .ref ms4, .ref mfa, .ref mim, .ref mik])), (mbe, aN cI 26 u.1), (mba, aN cI 26 u.2), (msz, aN cI 80 z), (mcd, aN cI 640 g)])) args s 0 0 A := ⟨_, rfl⟩
  rw [← hQ]
  refine lv_iconst (v := nI 0) hx hb dX8_mendsOf_0 (by decide) ?_
  refine lv_istore (lv' := [(5, .int (nI 0)), (0, .ref mo), (1, .int (nI v)), (2, .int (nI one)), (3, .int (nI oth)), (4, .int (nI n))]) hx hb dX8_mendsOf_1 hl (by decide) rfl (fun ls hl => ?_)
  refine lv_aload_n hx hb dX8_mendsOf_3 rfl (lv_at hl 1 rfl) ?_
  refine lv_iload_n hx hb dX8_mendsOf_4 rfl (lv_at hl 2 rfl) ?_
  refine lv_iconst (v := nI 1) hx hb dX8_mendsOf_5 (by decide) ?_
  refine lv_iload_n hx hb dX8_mendsOf_6 rfl (lv_at hl 3 rfl) ?_
  refine lv_iload_n hx hb dX8_mendsOf_7 rfl (lv_at hl 4 rfl) ?_
  refine lv_iload hx hb dX8_mendsOf_8 (lv_at hl 5 rfl) ?_
  refine m_wrV (As := [.int (nI v), .int (nI 1), .int (nI one), .int (nI oth), .int (nI n)]) (rest := []) (wc := [(mo, .inr (8, [.int (nI ps), .ref mpa, .int (nI nl), .int (nI nv), .ref msz, .ref mcd, .ref mbe, .ref mba, .int ol, .int (nI op), .int (nI os), .int (nI svn), .ref ms1, .ref ms2, .ref ms3, .ref ms4, .ref mfa, .ref mim, .ref mik])), (mbe, aN cI 26 be), (mba, aN cI 26 ba), (msz, aN cI 80 z), (mcd, aN cI 640 g)]) hcf (k_X8_rowsAlike (l := l) (D := D) (cI := cI) (cZ := cZ) (v := v) (way := 1) (one := one) (oth := oth) (n := n) (mo := mo) (ps := ps) (mpa := mpa) (nl := nl) (nv := nv) (msz := msz) (mcd := mcd) (mbe := mbe) (mba := mba) (ol := ol) (op := op) (os := os) (svn := svn) (ms1 := ms1) (ms2 := ms2) (ms3 := ms3) (ms4 := ms4) (mfa := mfa) (mim := mim) (mik := mik) (be := be) (ba := ba) (z := z) (g := g) (hnl := hnl) (hnv := hnv) (hz := hz) (hg := hg) (hbe := hbe) (hba := hba) (hw := by omega) (hv := by omega) (h1 := h1) (h2 := h2) (hn := by omega) (hop := hop) (hos := hos)) (cwV 5 hts gX8_mendsOf_X8_rowsAlike rfl rfl rfl yd_X8_rowsAlike ⟨Nat.le_of_ble_eq_true rfl, Nat.le_of_ble_eq_true rfl⟩) hK hP hD hS [0, 1, 2, 3, 4] (by decide) rfl rfl rfl rfl hl.1 rfl (Nat.le_of_ble_eq_true rfl) dX8_mendsOf_10 ⟨Nat.zero_le _, Nat.zero_le _⟩ (fun _ => rfl) (fun (u : (Nat → Nat) × (Nat → Nat)) => [(mo, .inr (8, [.int (nI ps), .ref mpa, .int (nI nl), .int (nI nv), .ref msz, .ref mcd, .ref mbe, .ref mba, .int ol, .int (nI op), .int (nI os), .int (nI svn), .ref ms1, .ref ms2, .ref ms3, .ref ms4, .ref mfa, .ref mim, .ref mik])), (mbe, aN cI 26 u.1), (mba, aN cI 26 u.2), (msz, aN cI 80 z), (mcd, aN cI 640 g)]) (fun _ => rfl) (fun r u H locs hp_10 hP hD hS => ?_)
  obtain ⟨beu_10, bau_10⟩ := u
  have hP : va_P D vwCl [(mo, .inr (8, [.int (nI ps), .ref mpa, .int (nI nl), .int (nI nv), .ref msz, .ref mcd, .ref mbe, .ref mba, .int ol, .int (nI op), .int (nI os), .int (nI svn), .ref ms1, .ref ms2, .ref ms3, .ref ms4, .ref mfa, .ref mim, .ref mik])), (mbe, aN cI 26 beu_10), (mba, aN cI 26 bau_10), (msz, aN cI 80 z), (mcd, aN cI 640 g)] H := hP
  have hD : va_D A [(mo, .inr (8, [.int (nI ps), .ref mpa, .int (nI nl), .int (nI nv), .ref msz, .ref mcd, .ref mbe, .ref mba, .int ol, .int (nI op), .int (nI os), .int (nI svn), .ref ms1, .ref ms2, .ref ms3, .ref ms4, .ref mfa, .ref mim, .ref mik])), (mbe, aN cI 26 beu_10), (mba, aN cI 26 bau_10), (msz, aN cI 80 z), (mcd, aN cI 640 g)] := hD
  try dsimp only at hp_10
  obtain ⟨hr_hp_10, hp_10⟩ := hp_10
  rw [hr_hp_10]
  refine m_ifB_eq (tgt := 69) hx hb dX8_mendsOf_13 (by decide) (fun c_13 => ?_) (fun c_13 => ?_)
  · refine lv_iload hx hb dX8_mendsOf_69 (lv_at hl 0 rfl) ?_
    rw [hQ]
    exact m_iwr hx hb hr hlocks (beu_10, bau_10) (⟨by unfold mqN; rw [if_neg (by rw [c_13]; decide)], fun h => by (rw [c_13] at h; cases h), hp_10.2.1, hp_10.2.2⟩) hP hS dX8_mendsOf_71
  · have i9 := rmB_there c_13
    refine lv_iconst (v := nI 0) hx hb dX8_mendsOf_16 (by decide) ?_
    refine lv_istore (lv' := [(6, .int (nI 0)), (5, .int (nI 0)), (0, .ref mo), (1, .int (nI v)), (2, .int (nI one)), (3, .int (nI oth)), (4, .int (nI n))]) hx hb dX8_mendsOf_17 hl (by decide) rfl (fun ls hl => ?_)
    have loop_19 : ∀ (fu : Nat) (k f : Nat) (hfu : n - k < fu)  (hk : k ≤ n) (hf : f = mkN (fun k => meB z g v (one + k) (oth + k)) k) (H : Heap) (locs : List Loc) (hP : va_P D vwCl [(mo, .inr (8, [.int (nI ps), .ref mpa, .int (nI nl), .int (nI nv), .ref msz, .ref mcd, .ref mbe, .ref mba, .int ol, .int (nI op), .int (nI os), .int (nI svn), .ref ms1, .ref ms2, .ref ms3, .ref ms4, .ref mfa, .ref mim, .ref mik])), (mbe, aN cI 26 beu_10), (mba, aN cI 26 bau_10), (msz, aN cI 80 z), (mcd, aN cI 640 g)] H) (hD : va_D A [(mo, .inr (8, [.int (nI ps), .ref mpa, .int (nI nl), .int (nI nv), .ref msz, .ref mcd, .ref mbe, .ref mba, .int ol, .int (nI op), .int (nI os), .int (nI svn), .ref ms1, .ref ms2, .ref ms3, .ref ms4, .ref mfa, .ref mim, .ref mik])), (mbe, aN cI 26 beu_10), (mba, aN cI 26 bau_10), (msz, aN cI 80 z), (mcd, aN cI 640 g)]) (hS : va_S A s.heap H locs) (ls : Array Slot) (hl : lv_has ls 7 [(0, .ref mo), (1, .int (nI v)), (2, .int (nI one)), (3, .int (nI oth)), (4, .int (nI n)), (5, .int (nI f)), (6, .int (nI k))]), W p l e (headSpec wsX8_mendsOf { frames := 4, cells := 0, slots := 0, locals := 93 }).room s m args below meth c H locs 0 0 Q (F0 m 19 ls []) := by
      intro fu
      induction fu with
      | zero => intro k f hfu; exact absurd hfu (Nat.not_lt_zero _)
      | succ fu ih_19 =>
        intro k f hfu hk hf H locs hP hD hS ls hl
        refine lv_iload hx hb dX8_mendsOf_19 (lv_at hl 6 rfl) ?_
        refine lv_iload hx hb dX8_mendsOf_21 (lv_at hl 4 rfl) ?_
        refine m_cmp_ge (tgt := 69) hx hb dX8_mendsOf_23 (by decide) (by omega) (by omega) (fun c_23 => ?_) (fun c_23 => ?_)
        · refine lv_iload hx hb dX8_mendsOf_69 (lv_at hl 5 rfl) ?_
          rw [hQ]
          have e9 : k = n := by omega
          exact m_iwr hx hb hr hlocks (beu_10, bau_10) (⟨by unfold mqN; rw [if_pos c_13, hf, e9], hp_10⟩) hP hS dX8_mendsOf_71
        · refine lv_iload hx hb dX8_mendsOf_26 (lv_at hl 5 rfl) ?_
          refine lv_aload_n hx hb dX8_mendsOf_28 rfl (lv_at hl 0 rfl) ?_
          refine lv_iload_n hx hb dX8_mendsOf_29 rfl (lv_at hl 1 rfl) ?_
          refine lv_iload_n hx hb dX8_mendsOf_30 rfl (lv_at hl 2 rfl) ?_
          refine lv_iload hx hb dX8_mendsOf_31 (lv_at hl 6 rfl) ?_
          refine m_add hx hb dX8_mendsOf_33 ?_
          refine m_rdV (As := [.int (nI v), .int (nI (one + k))]) (rest := [.int (nI f)]) (wc := [(mo, .inr (8, [.int (nI ps), .ref mpa, .int (nI nl), .int (nI nv), .ref msz, .ref mcd, .ref mbe, .ref mba, .int ol, .int (nI op), .int (nI os), .int (nI svn), .ref ms1, .ref ms2, .ref ms3, .ref ms4, .ref mfa, .ref mim, .ref mik])), (msz, aN cI 80 z), (mcd, aN cI 640 g)]) hcf (k_X8_isOther (l := l) (D := D) (cI := cI) (cZ := cZ) (v := v) (ln := one + k) (mo := mo) (ps := ps) (mpa := mpa) (nl := nl) (nv := nv) (msz := msz) (mcd := mcd) (mbe := mbe) (mba := mba) (ol := ol) (op := op) (os := os) (svn := svn) (ms1 := ms1) (ms2 := ms2) (ms3 := ms3) (ms4 := ms4) (mfa := mfa) (mim := mim) (mik := mik) (z := z) (g := g) (hz := hz) (hg := hg) (hv := hv) (hln := by omega)) (cwV 2 hts gX8_mendsOf_X8_isOther rfl rfl rfl yd_X8_isOther ⟨Nat.le_of_ble_eq_true rfl, Nat.le_of_ble_eq_true rfl⟩) (m_preV hK hP hD [0, 3, 4] (by decide) rfl rfl rfl) rfl hl.1 rfl (Nat.le_of_ble_eq_true rfl) dX8_mendsOf_34 ⟨Nat.zero_le _, Nat.zero_le _⟩ ?_
          refine m_ifB_eq (tgt := 59) hx hb dX8_mendsOf_37 (by decide) (fun c_37 => ?_) (fun c_37 => ?_)
          · refine lv_iconst (v := nI 0) hx hb dX8_mendsOf_59 (by decide) ?_
            refine m_or hx hb dX8_mendsOf_60 ?_
            refine lv_istore (lv' := [(5, .int (nI (f ||| 0))), (0, .ref mo), (1, .int (nI v)), (2, .int (nI one)), (3, .int (nI oth)), (4, .int (nI n)), (6, .int (nI k))]) hx hb dX8_mendsOf_61 hl (by decide) rfl (fun ls hl => ?_)
            refine lv_iinc (v := nI (k + 1)) (lv' := [(6, .int (nI (k + 1))), (5, .int (nI (f ||| 0))), (0, .ref mo), (1, .int (nI v)), (2, .int (nI one)), (3, .int (nI oth)), (4, .int (nI n))]) hx hb dX8_mendsOf_63 hl (k := 6) rfl ((nI_succ _).symm) (by decide) rfl (fun ls hl => ?_)
            refine lv_goto (tgt := 19) hx hb dX8_mendsOf_66 (by decide) ?_
            exact ih_19 (k + 1) _ (by omega) (by omega) (by rw [Nat.or_zero, hf]; exact mkN_f (by unfold meB; first | (simp at c_37; simp [c_37]; done) | (simp at c_49; simp [c_49]; done))) _ _ hP hD hS ls (lv_sub hl [2, 3, 4, 5, 6, 1, 0] rfl)
          · refine lv_aload_n hx hb dX8_mendsOf_40 rfl (lv_at hl 0 rfl) ?_
            refine lv_iload_n hx hb dX8_mendsOf_41 rfl (lv_at hl 1 rfl) ?_
            refine lv_iload_n hx hb dX8_mendsOf_42 rfl (lv_at hl 3 rfl) ?_
            refine lv_iload hx hb dX8_mendsOf_43 (lv_at hl 6 rfl) ?_
            refine m_add hx hb dX8_mendsOf_45 ?_
            refine m_rdV (As := [.int (nI v), .int (nI (oth + k))]) (rest := [.int (nI f)]) (wc := [(mo, .inr (8, [.int (nI ps), .ref mpa, .int (nI nl), .int (nI nv), .ref msz, .ref mcd, .ref mbe, .ref mba, .int ol, .int (nI op), .int (nI os), .int (nI svn), .ref ms1, .ref ms2, .ref ms3, .ref ms4, .ref mfa, .ref mim, .ref mik])), (msz, aN cI 80 z), (mcd, aN cI 640 g)]) hcf (k_X8_isOther (l := l) (D := D) (cI := cI) (cZ := cZ) (v := v) (ln := oth + k) (mo := mo) (ps := ps) (mpa := mpa) (nl := nl) (nv := nv) (msz := msz) (mcd := mcd) (mbe := mbe) (mba := mba) (ol := ol) (op := op) (os := os) (svn := svn) (ms1 := ms1) (ms2 := ms2) (ms3 := ms3) (ms4 := ms4) (mfa := mfa) (mim := mim) (mik := mik) (z := z) (g := g) (hz := hz) (hg := hg) (hv := hv) (hln := by omega)) (cwV 2 hts gX8_mendsOf_X8_isOther rfl rfl rfl yd_X8_isOther ⟨Nat.le_of_ble_eq_true rfl, Nat.le_of_ble_eq_true rfl⟩) (m_preV hK hP hD [0, 3, 4] (by decide) rfl rfl rfl) rfl hl.1 rfl (Nat.le_of_ble_eq_true rfl) dX8_mendsOf_46 ⟨Nat.zero_le _, Nat.zero_le _⟩ ?_
            refine m_ifB_ne (tgt := 59) hx hb dX8_mendsOf_49 (by decide) (fun c_49 => ?_) (fun c_49 => ?_)
            · refine lv_iconst (v := nI 0) hx hb dX8_mendsOf_59 (by decide) ?_
              refine m_or hx hb dX8_mendsOf_60 ?_
              refine lv_istore (lv' := [(5, .int (nI (f ||| 0))), (0, .ref mo), (1, .int (nI v)), (2, .int (nI one)), (3, .int (nI oth)), (4, .int (nI n)), (6, .int (nI k))]) hx hb dX8_mendsOf_61 hl (by decide) rfl (fun ls hl => ?_)
              refine lv_iinc (v := nI (k + 1)) (lv' := [(6, .int (nI (k + 1))), (5, .int (nI (f ||| 0))), (0, .ref mo), (1, .int (nI v)), (2, .int (nI one)), (3, .int (nI oth)), (4, .int (nI n))]) hx hb dX8_mendsOf_63 hl (k := 6) rfl ((nI_succ _).symm) (by decide) rfl (fun ls hl => ?_)
              refine lv_goto (tgt := 19) hx hb dX8_mendsOf_66 (by decide) ?_
              exact ih_19 (k + 1) _ (by omega) (by omega) (by rw [Nat.or_zero, hf]; exact mkN_f (by unfold meB; first | (simp at c_37; simp [c_37]; done) | (simp at c_49; simp [c_49]; done))) _ _ hP hD hS ls (lv_sub hl [2, 3, 4, 5, 6, 1, 0] rfl)
            · refine lv_iconst (v := nI 1) hx hb dX8_mendsOf_52 (by decide) ?_
              refine lv_iload hx hb dX8_mendsOf_53 (lv_at hl 6 rfl) ?_
              refine m_shl1 hx hb (by omega) dX8_mendsOf_55 ?_
              refine lv_goto (tgt := 60) hx hb dX8_mendsOf_56 (by decide) ?_
              refine m_or hx hb dX8_mendsOf_60 ?_
              refine lv_istore (lv' := [(5, .int (nI (f ||| (2 ^ k)))), (0, .ref mo), (1, .int (nI v)), (2, .int (nI one)), (3, .int (nI oth)), (4, .int (nI n)), (6, .int (nI k))]) hx hb dX8_mendsOf_61 hl (by decide) rfl (fun ls hl => ?_)
              refine lv_iinc (v := nI (k + 1)) (lv' := [(6, .int (nI (k + 1))), (5, .int (nI (f ||| (2 ^ k)))), (0, .ref mo), (1, .int (nI v)), (2, .int (nI one)), (3, .int (nI oth)), (4, .int (nI n))]) hx hb dX8_mendsOf_63 hl (k := 6) rfl ((nI_succ _).symm) (by decide) rfl (fun ls hl => ?_)
              refine lv_goto (tgt := 19) hx hb dX8_mendsOf_66 (by decide) ?_
              exact ih_19 (k + 1) _ (by omega) (by omega) (by rw [hf]; exact mkN_t (by unfold meB; simp at c_37 c_49; simp [c_37, c_49])) _ _ hP hD hS ls (lv_sub hl [2, 3, 4, 5, 6, 1, 0] rfl)
    exact loop_19 (n + 1) 0 0 (by omega) (by omega) rfl _ _ hP hD hS ls (lv_sub hl [2, 3, 4, 5, 6, 1, 0] rfl)

theorem yd_X8_mends : yX8_mends.cls = RX8 ∧ yX8_mends.cls ≠ "java/lang/invoke/MethodHandle" ∧ yX8_mends.cls ≠ "java/lang/invoke/VarHandle" ∧ (parseMethodDescriptor yX8_mends.desc).map (fun d => d.parameters.length) = some 4 := by decide +kernel
set_option maxHeartbeats 4000000 in
set_option maxRecDepth 100000 in
theorem k_X8_mends (l : Launch) (D : va_G) (cI cZ : ClassId) (mo ps mpa nl nv msz mcd mbe mba : Nat) (ol : Int32) (op os svn ms1 ms2 ms3 ms4 mfa mim mik : Nat) (be ba : Nat → Nat) (z g : Nat → Nat) (ve one oth n : Int32) (hnl : nl ≤ 20) (hnv : nv ≤ 4) (hz : ∀ j, z j ≤ 8) (hg : ∀ j, g j ≤ 126) (hbe : ∀ j, be j ≤ 126) (hba : ∀ j, ba j ≤ 126) (hop : op ≤ 100) (hos : os ≤ 126) : Met l yX8_mends wsX8_mends ({ frames := 5, cells := 0, slots := 0, locals := 119 }) (mPc [.ref mo, .int ve, .int one, .int oth, .int n] D cI cZ [(mo, .inr (8, [.int (nI ps), .ref mpa, .int (nI nl), .int (nI nv), .ref msz, .ref mcd, .ref mbe, .ref mba, .int ol, .int (nI op), .int (nI os), .int (nI svn), .ref ms1, .ref ms2, .ref ms3, .ref ms4, .ref mfa, .ref mim, .ref mik])), (mbe, aN cI 26 be), (mba, aN cI 26 ba), (msz, aN cI 80 z), (mcd, aN cI 640 g)]) (mQi D (mA [(mo, .inr (8, [.int (nI ps), .ref mpa, .int (nI nl), .int (nI nv), .ref msz, .ref mcd, .ref mbe, .ref mba, .int ol, .int (nI op), .int (nI os), .int (nI svn), .ref ms1, .ref ms2, .ref ms3, .ref ms4, .ref mfa, .ref mim, .ref mik])), (mbe, aN cI 26 be), (mba, aN cI 26 ba), (msz, aN cI 80 z), (mcd, aN cI 640 g)]) (fun (r : Int32) (u : (Nat → Nat) × (Nat → Nat)) => r = rfQ (nv - 1) ve (arB one oth n) (nI (mqN z g (cN ve) nl (cN one) (cN oth) (cN n) ol op os)) ∧ (∀ j, u.1 j ≤ 126) ∧ (∀ j, u.2 j ≤ 126)) (fun (u : (Nat → Nat) × (Nat → Nat)) => [(mo, .inr (8, [.int (nI ps), .ref mpa, .int (nI nl), .int (nI nv), .ref msz, .ref mcd, .ref mbe, .ref mba, .int ol, .int (nI op), .int (nI os), .int (nI svn), .ref ms1, .ref ms2, .ref ms3, .ref ms4, .ref mfa, .ref mim, .ref mik])), (mbe, aN cI 26 u.1), (mba, aN cI 26 u.2), (msz, aN cI 80 z), (mcd, aN cI 640 g)])) 0 0 (mA [(mo, .inr (8, [.int (nI ps), .ref mpa, .int (nI nl), .int (nI nv), .ref msz, .ref mcd, .ref mbe, .ref mba, .int ol, .int (nI op), .int (nI os), .int (nI svn), .ref ms1, .ref ms2, .ref ms3, .ref ms4, .ref mfa, .ref mim, .ref mik])), (mbe, aN cI 26 be), (mba, aN cI 26 ba), (msz, aN cI 80 z), (mcd, aN cI 640 g)]) := by
  refine Met.ofW (cc := cX8_mends) (maxL := 5) (ret := (some .int)) (by decide) rfl ?_
  intro p e s m args below meth c s₁ BB hml hv
  obtain ⟨hargs, hP, hD0, hK⟩ := hv
  have hx := BB.exec
  have hb := BB.bytes
  have hr := BB.returns
  have hts := atoms_spec (ws := wsX8_mends) BB.pre
  have hown : s.vm.findClass RX8 = some m.cls := findClass_of_methodNamed BB.named
  have hlocks := BB.notSynchronized
  have hcf : CallFix p m c cX8_mends 5 s args wsX8_mends RX8 := ⟨hx, hb, hml, hown, hts⟩
  obtain ⟨A, hAe⟩ : ∃ A, A = mA [(mo, .inr (8, [.int (nI ps), .ref mpa, .int (nI nl), .int (nI nv), .ref msz, .ref mcd, .ref mbe, .ref mba, .int ol, .int (nI op), .int (nI os), .int (nI svn), .ref ms1, .ref ms2, .ref ms3, .ref ms4, .ref mfa, .ref mim, .ref mik])), (mbe, aN cI 26 be), (mba, aN cI 26 ba), (msz, aN cI 80 z), (mcd, aN cI 640 g)] := ⟨_, rfl⟩
  have hD : va_D A [(mo, .inr (8, [.int (nI ps), .ref mpa, .int (nI nl), .int (nI nv), .ref msz, .ref mcd, .ref mbe, .ref mba, .int ol, .int (nI op), .int (nI os), .int (nI svn), .ref ms1, .ref ms2, .ref ms3, .ref ms4, .ref mfa, .ref mim, .ref mik])), (mbe, aN cI 26 be), (mba, aN cI 26 ba), (msz, aN cI 80 z), (mcd, aN cI 640 g)] := ⟨hD0.1, fun k q h => by rw [hAe]; exact ⟨k, q.2, h⟩⟩
  have hS : va_S A s.heap s.heap [] := va_S.rf
  rw [← hAe]
  rw [hargs, lg_entry_eq, ← hargs]
  have hl := lv_entry ([.ref mo, .int ve, .int one, .int oth, .int n]) (n := 5) (Nat.le_of_ble_eq_true rfl)
  generalize (lg_sl ([.ref mo, .int ve, .int one, .int oth, .int n]) ++ List.replicate (5 - (lg_sl ([.ref mo, .int ve, .int one, .int oth, .int n])).length) Slot.unset).toArray = ls at hl ⊢
  have hl : lv_has ls 5 [(0, .ref mo), (1, .int ve), (2, .int one), (3, .int oth), (4, .int n)] := hl
  obtain ⟨Q, hQ⟩ : ∃ Q, Q = MQ below (mQi D A (fun (r : Int32) (u : (Nat → Nat) × (Nat → Nat)) => r = rfQ (nv - 1) ve (arB one oth n) (nI (mqN z g (cN ve) nl (cN one) (cN oth) (cN n) ol op os)) ∧ (∀ j, u.1 j ≤ 126) ∧ (∀ j, u.2 j ≤ 126)) (fun (u : (Nat → Nat) × (Nat → Nat)) => [(mo, .inr (8, [.int (nI ps), .ref mpa, .int (nI nl), .int (nI nv), .ref msz, .ref mcd, .ref mbe, .ref mba, .int ol, .int (nI op), .int (nI os), .int (nI svn), .ref ms1, .ref ms2, .ref ms3, .ref ms4, .ref mfa, .ref mim, .ref mik])), (mbe, aN cI 26 u.1), (mba, aN cI 26 u.2), (msz, aN cI 80 z), (mcd, aN cI 640 g)])) args s 0 0 A := ⟨_, rfl⟩
  rw [← hQ]
  have i_X8 : ∀ w ∈ u_ws RX8 TX8 19, w ∈ wsX8_mends := by decide +kernel
  have f_51 := hts (.fieldLink RX8 51 "SameAgainModel" "versions" "I") (by decide +kernel)
  refine lv_iload_n hx hb dX8_mends_0 rfl (lv_at hl 1 rfl) ?_
  refine lv_iconst (v := nI 0) hx hb dX8_mends_1 (by decide) ?_
  refine lv_aload_n hx hb dX8_mends_2 rfl (lv_at hl 0 rfl) ?_
  refine va_get (D := D) (ci := 8) (v := .int (nI nv)) (C := RX8) (T := TX8) (N := 19) hx hb hts i_X8 hown hK.1 hP 0 rfl rfl 3 (by decide) f_51 (fun _ h9 => h9) rfl dX8_mends_3 ?_
  refine lv_iconst (v := nI 2) hx hb dX8_mends_6 (by decide) ?_
  refine lv_isub hx hb dX8_mends_7 ?_
  refine m_rdS (As := [.int ve, .int (nI 0), .int ((nI nv) - (nI 2))]) (rest := []) (wc := []) hcf (k_X8_in (l := l) (D := D) (cI := cI) (cZ := cZ) (x := ve) (lo := nI 0) (hi := (nI nv) - (nI 2)) ) (va_cwS 3 hts gX8_mends_X8_in rfl rfl rfl yd_X8_in.2 ⟨Nat.le_of_ble_eq_true rfl, Nat.le_of_ble_eq_true rfl⟩) (m_preS hK hP hD [] (by decide) rfl) rfl hl.1 rfl (Nat.le_of_ble_eq_true rfl) dX8_mends_8 ⟨Nat.zero_le _, Nat.zero_le _⟩ ?_
  refine m_top (y := bI (ixB ve (nv - 1))) (by rw [inB_ix (by omega) (by decide), show nv + 1 - 2 = nv - 1 by omega]) ?_
  refine m_ifB_ne (tgt := 16) hx hb dX8_mends_11 (by decide) (fun c_11 => ?_) (fun c_11 => ?_)
  · obtain ⟨e_v, i_v⟩ := ixB_cN (by omega) c_11
    refine lv_iconst (v := nI 0) hx hb dX8_mends_16 (by decide) ?_
    refine lv_iload_n hx hb dX8_mends_17 rfl (lv_at hl 2 rfl) ?_
    refine lv_iload_n hx hb dX8_mends_18 rfl (lv_at hl 3 rfl) ?_
    refine lv_iload hx hb dX8_mends_19 (lv_at hl 4 rfl) ?_
    refine m_rdS (As := [.int (nI 0), .int one, .int oth, .int n]) (rest := []) (wc := []) hcf (k_X8_areRows (l := l) (D := D) (cI := cI) (cZ := cZ) (way := nI 0) (one := one) (oth := oth) (n := n) ) (va_cwS 4 hts gX8_mends_X8_areRows rfl rfl rfl yd_X8_areRows.2 ⟨Nat.le_of_ble_eq_true rfl, Nat.le_of_ble_eq_true rfl⟩) (m_preS hK hP hD [] (by decide) rfl) rfl hl.1 rfl (Nat.le_of_ble_eq_true rfl) dX8_mends_21 ⟨Nat.zero_le _, Nat.zero_le _⟩ ?_
    refine m_ifB_eq (tgt := 39) hx hb dX8_mends_24 (by decide) (fun c_24 => ?_) (fun c_24 => ?_)
    · have K9 : arB one oth n = false := by
        have h9 := c_24
        rw [show ixB (nI 0) 3 = true from by decide, Bool.true_and] at h9
        exact h9
      refine lv_bipush (v := (-2)) hx hb dX8_mends_39 (by decide) ?_
      rw [hQ]
      exact m_iwr hx hb hr hlocks (be, ba) (⟨by rw [rfQ_o c_11 K9], hbe, hba⟩) hP hS dX8_mends_41
    · obtain ⟨K1, K2, K3⟩ := arB_iff.mp (Bool.and_eq_true_iff.mp c_24).2
      obtain ⟨e_1, i_1⟩ := ixB_cN (by decide) K1
      obtain ⟨e_2, i_2⟩ := ixB_cN (by decide) K2
      obtain ⟨e_n, i_n, j_n⟩ := lnB_cN K3
      have K9 := (Bool.and_eq_true_iff.mp c_24).2
      have hl : lv_has ls 5 [(0, .ref mo), (1, .int (nI (cN ve))), (2, .int (nI (cN one))), (3, .int (nI (cN oth))), (4, .int (nI (cN n)))] := by rw [← e_v, ← e_1, ← e_2, ← e_n]; exact hl
      refine lv_aload_n hx hb dX8_mends_27 rfl (lv_at hl 0 rfl) ?_
      refine lv_iload_n hx hb dX8_mends_28 rfl (lv_at hl 1 rfl) ?_
      refine lv_iload_n hx hb dX8_mends_29 rfl (lv_at hl 2 rfl) ?_
      refine lv_iload_n hx hb dX8_mends_30 rfl (lv_at hl 3 rfl) ?_
      refine lv_iload hx hb dX8_mends_31 (lv_at hl 4 rfl) ?_
      refine m_wrV (As := [.int (nI (cN ve)), .int (nI (cN one)), .int (nI (cN oth)), .int (nI (cN n))]) (rest := []) (wc := [(mo, .inr (8, [.int (nI ps), .ref mpa, .int (nI nl), .int (nI nv), .ref msz, .ref mcd, .ref mbe, .ref mba, .int ol, .int (nI op), .int (nI os), .int (nI svn), .ref ms1, .ref ms2, .ref ms3, .ref ms4, .ref mfa, .ref mim, .ref mik])), (mbe, aN cI 26 be), (mba, aN cI 26 ba), (msz, aN cI 80 z), (mcd, aN cI 640 g)]) hcf (k_X8_mendsOf (l := l) (D := D) (cI := cI) (cZ := cZ) (v := cN ve) (one := cN one) (oth := cN oth) (n := cN n) (mo := mo) (ps := ps) (mpa := mpa) (nl := nl) (nv := nv) (msz := msz) (mcd := mcd) (mbe := mbe) (mba := mba) (ol := ol) (op := op) (os := os) (svn := svn) (ms1 := ms1) (ms2 := ms2) (ms3 := ms3) (ms4 := ms4) (mfa := mfa) (mim := mim) (mik := mik) (be := be) (ba := ba) (z := z) (g := g) (hnl := hnl) (hnv := hnv) (hz := hz) (hg := hg) (hbe := hbe) (hba := hba) (hop := hop) (hos := hos) (hv := by omega) (h1 := by omega) (h2 := by omega) (hn := by omega)) (cwV 4 hts gX8_mends_X8_mendsOf rfl rfl rfl yd_X8_mendsOf ⟨Nat.le_of_ble_eq_true rfl, Nat.le_of_ble_eq_true rfl⟩) hK hP hD hS [0, 1, 2, 3, 4] (by decide) rfl rfl rfl rfl hl.1 rfl (Nat.le_of_ble_eq_true rfl) dX8_mends_33 ⟨Nat.zero_le _, Nat.zero_le _⟩ (fun _ => rfl) (fun (u : (Nat → Nat) × (Nat → Nat)) => [(mo, .inr (8, [.int (nI ps), .ref mpa, .int (nI nl), .int (nI nv), .ref msz, .ref mcd, .ref mbe, .ref mba, .int ol, .int (nI op), .int (nI os), .int (nI svn), .ref ms1, .ref ms2, .ref ms3, .ref ms4, .ref mfa, .ref mim, .ref mik])), (mbe, aN cI 26 u.1), (mba, aN cI 26 u.2), (msz, aN cI 80 z), (mcd, aN cI 640 g)]) (fun _ => rfl) (fun r u H locs hp_33 hP hD hS => ?_)
      obtain ⟨beu_33, bau_33⟩ := u
      have hP : va_P D vwCl [(mo, .inr (8, [.int (nI ps), .ref mpa, .int (nI nl), .int (nI nv), .ref msz, .ref mcd, .ref mbe, .ref mba, .int ol, .int (nI op), .int (nI os), .int (nI svn), .ref ms1, .ref ms2, .ref ms3, .ref ms4, .ref mfa, .ref mim, .ref mik])), (mbe, aN cI 26 beu_33), (mba, aN cI 26 bau_33), (msz, aN cI 80 z), (mcd, aN cI 640 g)] H := hP
      have hD : va_D A [(mo, .inr (8, [.int (nI ps), .ref mpa, .int (nI nl), .int (nI nv), .ref msz, .ref mcd, .ref mbe, .ref mba, .int ol, .int (nI op), .int (nI os), .int (nI svn), .ref ms1, .ref ms2, .ref ms3, .ref ms4, .ref mfa, .ref mim, .ref mik])), (mbe, aN cI 26 beu_33), (mba, aN cI 26 bau_33), (msz, aN cI 80 z), (mcd, aN cI 640 g)] := hD
      try dsimp only at hp_33
      obtain ⟨hr_hp_33, hp_33⟩ := hp_33
      rw [hr_hp_33]
      refine lv_goto (tgt := 41) hx hb dX8_mends_36 (by decide) ?_
      rw [hQ]
      exact m_iwr hx hb hr hlocks (beu_33, bau_33) (⟨by rw [rfQ_v c_11 K9], hp_33.2.1, hp_33.2.2⟩) hP hS dX8_mends_41
  · refine lv_iconst (v := (-1)) hx hb dX8_mends_14 (by decide) ?_
    rw [hQ]
    exact m_iwr hx hb hr hlocks (be, ba) (⟨by rw [rfQ_u c_11], hbe, hba⟩) hP hS dX8_mends_15

theorem yd_X8_mend : yX8_mend.cls = RX8 ∧ yX8_mend.cls ≠ "java/lang/invoke/MethodHandle" ∧ yX8_mend.cls ≠ "java/lang/invoke/VarHandle" ∧ (parseMethodDescriptor yX8_mend.desc).map (fun d => d.parameters.length) = some 6 := by decide +kernel
set_option maxHeartbeats 4000000 in
set_option maxRecDepth 100000 in
theorem k_X8_mend (l : Launch) (D : va_G) (cI cZ : ClassId) (mo ps mpa nl nv msz mcd mbe mba : Nat) (ol : Int32) (op os svn ms1 ms2 ms3 ms4 mfa mim mik : Nat) (be ba : Nat → Nat) (z g : Nat → Nat) (ve one oth n kk pl : Int32) (hnl : nl ≤ 20) (hnv : nv ≤ 4) (hz : ∀ j, z j ≤ 8) (hg : ∀ j, g j ≤ 126) (hbe : ∀ j, be j ≤ 126) (hba : ∀ j, ba j ≤ 126) (hop : op ≤ 100) (hos : os ≤ 126) (hgp : ∀ v ln k, v < nv → ln < nl → k < z (v * 20 + ln) → g ((v * 20 + ln) * 8 + k) ≠ 0) : Met l yX8_mend wsX8_mend ({ frames := 5, cells := 0, slots := 0, locals := 119 }) (mPc [.ref mo, .int ve, .int one, .int oth, .int n, .int kk, .int pl] D cI cZ [(mo, .inr (8, [.int (nI ps), .ref mpa, .int (nI nl), .int (nI nv), .ref msz, .ref mcd, .ref mbe, .ref mba, .int ol, .int (nI op), .int (nI os), .int (nI svn), .ref ms1, .ref ms2, .ref ms3, .ref ms4, .ref mfa, .ref mim, .ref mik])), (mbe, aN cI 26 be), (mba, aN cI 26 ba), (msz, aN cI 80 z), (mcd, aN cI 640 g)]) (mQi D (mA [(mo, .inr (8, [.int (nI ps), .ref mpa, .int (nI nl), .int (nI nv), .ref msz, .ref mcd, .ref mbe, .ref mba, .int ol, .int (nI op), .int (nI os), .int (nI svn), .ref ms1, .ref ms2, .ref ms3, .ref ms4, .ref mfa, .ref mim, .ref mik])), (mbe, aN cI 26 be), (mba, aN cI 26 ba), (msz, aN cI 80 z), (mcd, aN cI 640 g)]) (fun (r : Int32) (u : (Nat → Nat) × (Nat → Nat)) => r = rfQ (nv - 1) ve (arB one oth n && ixB kk (cN n)) (mdQ z g (cN ve) nl (cN one) (cN oth) (cN n) (cN kk) pl ol op os) ∧ (∀ j, u.1 j ≤ 126) ∧ (∀ j, u.2 j ≤ 126)) (fun (u : (Nat → Nat) × (Nat → Nat)) => [(mo, .inr (8, [.int (nI ps), .ref mpa, .int (nI nl), .int (nI nv), .ref msz, .ref mcd, .ref mbe, .ref mba, .int ol, .int (nI op), .int (nI os), .int (nI svn), .ref ms1, .ref ms2, .ref ms3, .ref ms4, .ref mfa, .ref mim, .ref mik])), (mbe, aN cI 26 u.1), (mba, aN cI 26 u.2), (msz, aN cI 80 z), (mcd, aN cI 640 g)])) 0 0 (mA [(mo, .inr (8, [.int (nI ps), .ref mpa, .int (nI nl), .int (nI nv), .ref msz, .ref mcd, .ref mbe, .ref mba, .int ol, .int (nI op), .int (nI os), .int (nI svn), .ref ms1, .ref ms2, .ref ms3, .ref ms4, .ref mfa, .ref mim, .ref mik])), (mbe, aN cI 26 be), (mba, aN cI 26 ba), (msz, aN cI 80 z), (mcd, aN cI 640 g)]) := by
  refine Met.ofW (cc := cX8_mend) (maxL := 9) (ret := (some .int)) (by decide) rfl ?_
  intro p e s m args below meth c s₁ BB hml hv
  obtain ⟨hargs, hP, hD0, hK⟩ := hv
  have hx := BB.exec
  have hb := BB.bytes
  have hr := BB.returns
  have hts := atoms_spec (ws := wsX8_mend) BB.pre
  have hown : s.vm.findClass RX8 = some m.cls := findClass_of_methodNamed BB.named
  have hlocks := BB.notSynchronized
  have hcf : CallFix p m c cX8_mend 9 s args wsX8_mend RX8 := ⟨hx, hb, hml, hown, hts⟩
  obtain ⟨A, hAe⟩ : ∃ A, A = mA [(mo, .inr (8, [.int (nI ps), .ref mpa, .int (nI nl), .int (nI nv), .ref msz, .ref mcd, .ref mbe, .ref mba, .int ol, .int (nI op), .int (nI os), .int (nI svn), .ref ms1, .ref ms2, .ref ms3, .ref ms4, .ref mfa, .ref mim, .ref mik])), (mbe, aN cI 26 be), (mba, aN cI 26 ba), (msz, aN cI 80 z), (mcd, aN cI 640 g)] := ⟨_, rfl⟩
  have hD : va_D A [(mo, .inr (8, [.int (nI ps), .ref mpa, .int (nI nl), .int (nI nv), .ref msz, .ref mcd, .ref mbe, .ref mba, .int ol, .int (nI op), .int (nI os), .int (nI svn), .ref ms1, .ref ms2, .ref ms3, .ref ms4, .ref mfa, .ref mim, .ref mik])), (mbe, aN cI 26 be), (mba, aN cI 26 ba), (msz, aN cI 80 z), (mcd, aN cI 640 g)] := ⟨hD0.1, fun k q h => by rw [hAe]; exact ⟨k, q.2, h⟩⟩
  have hS : va_S A s.heap s.heap [] := va_S.rf
  rw [← hAe]
  rw [hargs, lg_entry_eq, ← hargs]
  have hl := lv_entry ([.ref mo, .int ve, .int one, .int oth, .int n, .int kk, .int pl]) (n := 9) (Nat.le_of_ble_eq_true rfl)
  generalize (lg_sl ([.ref mo, .int ve, .int one, .int oth, .int n, .int kk, .int pl]) ++ List.replicate (9 - (lg_sl ([.ref mo, .int ve, .int one, .int oth, .int n, .int kk, .int pl])).length) Slot.unset).toArray = ls at hl ⊢
  have hl : lv_has ls 9 [(0, .ref mo), (1, .int ve), (2, .int one), (3, .int oth), (4, .int n), (5, .int kk), (6, .int pl)] := hl
  obtain ⟨Q, hQ⟩ : ∃ Q, Q = MQ below (mQi D A (fun (r : Int32) (u : (Nat → Nat) × (Nat → Nat)) => r = rfQ (nv - 1) ve (arB one oth n && ixB kk (cN n)) (mdQ z g (cN ve) nl (cN one) (cN oth) (cN n) (cN kk) pl ol op os) ∧ (∀ j, u.1 j ≤ 126) ∧ (∀ j, u.2 j ≤ 126)) (fun (u : (Nat → Nat) × (Nat → Nat)) => [(mo, .inr (8, [.int (nI ps), .ref mpa, .int (nI nl), .int (nI nv), .ref msz, .ref mcd, .ref mbe, .ref mba, .int ol, .int (nI op), .int (nI os), .int (nI svn), .ref ms1, .ref ms2, .ref ms3, .ref ms4, .ref mfa, .ref mim, .ref mik])), (mbe, aN cI 26 u.1), (mba, aN cI 26 u.2), (msz, aN cI 80 z), (mcd, aN cI 640 g)])) args s 0 0 A := ⟨_, rfl⟩
  rw [← hQ]
  have i_X8 : ∀ w ∈ u_ws RX8 TX8 19, w ∈ wsX8_mend := by decide +kernel
  have f_51 := hts (.fieldLink RX8 51 "SameAgainModel" "versions" "I") (by decide +kernel)
  have f_19 := hts (.fieldLink RX8 19 "SameAgainModel" "beside" "[I") (by decide +kernel)
  refine lv_iload_n hx hb dX8_mend_0 rfl (lv_at hl 1 rfl) ?_
  refine lv_iconst (v := nI 0) hx hb dX8_mend_1 (by decide) ?_
  refine lv_aload_n hx hb dX8_mend_2 rfl (lv_at hl 0 rfl) ?_
  refine va_get (D := D) (ci := 8) (v := .int (nI nv)) (C := RX8) (T := TX8) (N := 19) hx hb hts i_X8 hown hK.1 hP 0 rfl rfl 3 (by decide) f_51 (fun _ h9 => h9) rfl dX8_mend_3 ?_
  refine lv_iconst (v := nI 2) hx hb dX8_mend_6 (by decide) ?_
  refine lv_isub hx hb dX8_mend_7 ?_
  refine m_rdS (As := [.int ve, .int (nI 0), .int ((nI nv) - (nI 2))]) (rest := []) (wc := []) hcf (k_X8_in (l := l) (D := D) (cI := cI) (cZ := cZ) (x := ve) (lo := nI 0) (hi := (nI nv) - (nI 2)) ) (va_cwS 3 hts gX8_mend_X8_in rfl rfl rfl yd_X8_in.2 ⟨Nat.le_of_ble_eq_true rfl, Nat.le_of_ble_eq_true rfl⟩) (m_preS hK hP hD [] (by decide) rfl) rfl hl.1 rfl (Nat.le_of_ble_eq_true rfl) dX8_mend_8 ⟨Nat.zero_le _, Nat.zero_le _⟩ ?_
  refine m_top (y := bI (ixB ve (nv - 1))) (by rw [inB_ix (by omega) (by decide), show nv + 1 - 2 = nv - 1 by omega]) ?_
  refine m_ifB_ne (tgt := 16) hx hb dX8_mend_11 (by decide) (fun c_11 => ?_) (fun c_11 => ?_)
  · obtain ⟨e_v, i_v⟩ := ixB_cN (by omega) c_11
    refine lv_iconst (v := nI 0) hx hb dX8_mend_16 (by decide) ?_
    refine lv_iload_n hx hb dX8_mend_17 rfl (lv_at hl 2 rfl) ?_
    refine lv_iload_n hx hb dX8_mend_18 rfl (lv_at hl 3 rfl) ?_
    refine lv_iload hx hb dX8_mend_19 (lv_at hl 4 rfl) ?_
    refine m_rdS (As := [.int (nI 0), .int one, .int oth, .int n]) (rest := []) (wc := []) hcf (k_X8_areRows (l := l) (D := D) (cI := cI) (cZ := cZ) (way := nI 0) (one := one) (oth := oth) (n := n) ) (va_cwS 4 hts gX8_mend_X8_areRows rfl rfl rfl yd_X8_areRows.2 ⟨Nat.le_of_ble_eq_true rfl, Nat.le_of_ble_eq_true rfl⟩) (m_preS hK hP hD [] (by decide) rfl) rfl hl.1 rfl (Nat.le_of_ble_eq_true rfl) dX8_mend_21 ⟨Nat.zero_le _, Nat.zero_le _⟩ ?_
    refine m_ifB_eq (tgt := 40) hx hb dX8_mend_24 (by decide) (fun c_24 => ?_) (fun c_24 => ?_)
    · have K9 : arB one oth n = false := by
        have h9 := c_24
        rw [show ixB (nI 0) 3 = true from by decide, Bool.true_and] at h9
        exact h9
      refine lv_bipush (v := (-2)) hx hb dX8_mend_40 (by decide) ?_
      rw [hQ]
      exact m_iwr hx hb hr hlocks (be, ba) (⟨by rw [rfQ_o c_11 (by first | (simp [K9]; done) | (simp [c_37]; done))], hbe, hba⟩) hP hS dX8_mend_42
    · obtain ⟨K1, K2, K3⟩ := arB_iff.mp (Bool.and_eq_true_iff.mp c_24).2
      obtain ⟨e_1, i_1⟩ := ixB_cN (by decide) K1
      obtain ⟨e_2, i_2⟩ := ixB_cN (by decide) K2
      obtain ⟨e_n, i_n, j_n⟩ := lnB_cN K3
      have K9 := (Bool.and_eq_true_iff.mp c_24).2
      have hl : lv_has ls 9 [(0, .ref mo), (1, .int ve), (2, .int one), (3, .int oth), (4, .int (nI (cN n))), (5, .int kk), (6, .int pl)] := by rw [← e_n]; exact hl
      refine lv_iload hx hb dX8_mend_27 (lv_at hl 5 rfl) ?_
      refine lv_iconst (v := nI 0) hx hb dX8_mend_29 (by decide) ?_
      refine lv_iload hx hb dX8_mend_30 (lv_at hl 4 rfl) ?_
      refine lv_iconst (v := nI 1) hx hb dX8_mend_32 (by decide) ?_
      refine m_sub hx hb (by omega) dX8_mend_33 ?_
      refine m_rdS (As := [.int kk, .int (nI 0), .int (nI ((cN n) - 1))]) (rest := []) (wc := []) hcf (k_X8_in (l := l) (D := D) (cI := cI) (cZ := cZ) (x := kk) (lo := nI 0) (hi := nI ((cN n) - 1)) ) (va_cwS 3 hts gX8_mend_X8_in rfl rfl rfl yd_X8_in.2 ⟨Nat.le_of_ble_eq_true rfl, Nat.le_of_ble_eq_true rfl⟩) (m_preS hK hP hD [] (by decide) rfl) rfl hl.1 rfl (Nat.le_of_ble_eq_true rfl) dX8_mend_34 ⟨Nat.zero_le _, Nat.zero_le _⟩ ?_
      refine m_top (y := bI (ixB kk (cN n))) (by rw [inB_ix0 (by omega), Nat.sub_add_cancel i_n]) ?_
      refine m_ifB_ne (tgt := 43) hx hb dX8_mend_37 (by decide) (fun c_37 => ?_) (fun c_37 => ?_)
      · obtain ⟨e_k, i_k⟩ := ixB_cN (by omega) c_37
        have KI : (arB one oth n && ixB kk (cN n)) = true := by rw [K9, c_37]; rfl
        have hl : lv_has ls 9 [(0, .ref mo), (1, .int (nI (cN ve))), (2, .int (nI (cN one))), (3, .int (nI (cN oth))), (4, .int (nI (cN n))), (5, .int (nI (cN kk))), (6, .int pl)] := by rw [← e_v, ← e_1, ← e_2, ← e_k]; exact hl
        refine lv_aload_n hx hb dX8_mend_43 rfl (lv_at hl 0 rfl) ?_
        refine lv_iload_n hx hb dX8_mend_44 rfl (lv_at hl 1 rfl) ?_
        refine lv_iload_n hx hb dX8_mend_45 rfl (lv_at hl 2 rfl) ?_
        refine lv_iload_n hx hb dX8_mend_46 rfl (lv_at hl 3 rfl) ?_
        refine lv_iload hx hb dX8_mend_47 (lv_at hl 4 rfl) ?_
        refine m_wrV (As := [.int (nI (cN ve)), .int (nI (cN one)), .int (nI (cN oth)), .int (nI (cN n))]) (rest := []) (wc := [(mo, .inr (8, [.int (nI ps), .ref mpa, .int (nI nl), .int (nI nv), .ref msz, .ref mcd, .ref mbe, .ref mba, .int ol, .int (nI op), .int (nI os), .int (nI svn), .ref ms1, .ref ms2, .ref ms3, .ref ms4, .ref mfa, .ref mim, .ref mik])), (mbe, aN cI 26 be), (mba, aN cI 26 ba), (msz, aN cI 80 z), (mcd, aN cI 640 g)]) hcf (k_X8_mendsOf (l := l) (D := D) (cI := cI) (cZ := cZ) (v := cN ve) (one := cN one) (oth := cN oth) (n := cN n) (mo := mo) (ps := ps) (mpa := mpa) (nl := nl) (nv := nv) (msz := msz) (mcd := mcd) (mbe := mbe) (mba := mba) (ol := ol) (op := op) (os := os) (svn := svn) (ms1 := ms1) (ms2 := ms2) (ms3 := ms3) (ms4 := ms4) (mfa := mfa) (mim := mim) (mik := mik) (be := be) (ba := ba) (z := z) (g := g) (hnl := hnl) (hnv := hnv) (hz := hz) (hg := hg) (hbe := hbe) (hba := hba) (hop := hop) (hos := hos) (hv := by omega) (h1 := by omega) (h2 := by omega) (hn := by omega)) (cwV 4 hts gX8_mend_X8_mendsOf rfl rfl rfl yd_X8_mendsOf ⟨Nat.le_of_ble_eq_true rfl, Nat.le_of_ble_eq_true rfl⟩) hK hP hD hS [0, 1, 2, 3, 4] (by decide) rfl rfl rfl rfl hl.1 rfl (Nat.le_of_ble_eq_true rfl) dX8_mend_49 ⟨Nat.zero_le _, Nat.zero_le _⟩ (fun _ => rfl) (fun (u : (Nat → Nat) × (Nat → Nat)) => [(mo, .inr (8, [.int (nI ps), .ref mpa, .int (nI nl), .int (nI nv), .ref msz, .ref mcd, .ref mbe, .ref mba, .int ol, .int (nI op), .int (nI os), .int (nI svn), .ref ms1, .ref ms2, .ref ms3, .ref ms4, .ref mfa, .ref mim, .ref mik])), (mbe, aN cI 26 u.1), (mba, aN cI 26 u.2), (msz, aN cI 80 z), (mcd, aN cI 640 g)]) (fun _ => rfl) (fun r u H locs hp_49 hP hD hS => ?_)
        obtain ⟨beu_49, bau_49⟩ := u
        have hP : va_P D vwCl [(mo, .inr (8, [.int (nI ps), .ref mpa, .int (nI nl), .int (nI nv), .ref msz, .ref mcd, .ref mbe, .ref mba, .int ol, .int (nI op), .int (nI os), .int (nI svn), .ref ms1, .ref ms2, .ref ms3, .ref ms4, .ref mfa, .ref mim, .ref mik])), (mbe, aN cI 26 beu_49), (mba, aN cI 26 bau_49), (msz, aN cI 80 z), (mcd, aN cI 640 g)] H := hP
        have hD : va_D A [(mo, .inr (8, [.int (nI ps), .ref mpa, .int (nI nl), .int (nI nv), .ref msz, .ref mcd, .ref mbe, .ref mba, .int ol, .int (nI op), .int (nI os), .int (nI svn), .ref ms1, .ref ms2, .ref ms3, .ref ms4, .ref mfa, .ref mim, .ref mik])), (mbe, aN cI 26 beu_49), (mba, aN cI 26 bau_49), (msz, aN cI 80 z), (mcd, aN cI 640 g)] := hD
        try dsimp only at hp_49
        obtain ⟨hr_hp_49, hp_49⟩ := hp_49
        rw [hr_hp_49]
        refine lv_iload hx hb dX8_mend_52 (lv_at hl 5 rfl) ?_
        refine m_shr hx hb (by omega) (mq_lt j_n) dX8_mend_54 ?_
        refine lv_iconst (v := nI 1) hx hb dX8_mend_55 (by decide) ?_
        refine m_and hx hb dX8_mend_56 ?_
        refine m_if_ne (tgt := 63) hx hb dX8_mend_57 (by decide) (Nat.lt_of_le_of_lt (bit1_le _ _) (by decide)) (fun c_57 => ?_) (fun c_57 => ?_)
        · have K8 := bit1_1 c_57
          rw [mq_bit i_k] at K8
          have i9 := rmB_there (Bool.and_eq_true_iff.mp K8).1
          have K9 := K8
          have hpm9 := hp_49.1 (Bool.and_eq_true_iff.mp K8).1
          have hz9 := hz ((cN ve + 1) * 20 + (cN one + cN kk))
          refine lv_aload_n hx hb dX8_mend_63 rfl (lv_at hl 0 rfl) ?_
          refine lv_iload_n hx hb dX8_mend_64 rfl (lv_at hl 1 rfl) ?_
          refine lv_iconst (v := nI 1) hx hb dX8_mend_65 (by decide) ?_
          refine m_add hx hb dX8_mend_66 ?_
          refine lv_iload_n hx hb dX8_mend_67 rfl (lv_at hl 2 rfl) ?_
          refine lv_iload hx hb dX8_mend_68 (lv_at hl 5 rfl) ?_
          refine m_add hx hb dX8_mend_70 ?_
          refine m_rdV (As := [.int (nI ((cN ve) + 1)), .int (nI ((cN one) + (cN kk)))]) (rest := []) (wc := [(mo, .inr (8, [.int (nI ps), .ref mpa, .int (nI nl), .int (nI nv), .ref msz, .ref mcd, .ref mbe, .ref mba, .int ol, .int (nI op), .int (nI os), .int (nI svn), .ref ms1, .ref ms2, .ref ms3, .ref ms4, .ref mfa, .ref mim, .ref mik])), (msz, aN cI 80 z)]) hcf (k_X8_size (l := l) (D := D) (cI := cI) (cZ := cZ) (v := (cN ve) + 1) (ln := (cN one) + (cN kk)) (mo := mo) (ps := ps) (mpa := mpa) (nl := nl) (nv := nv) (msz := msz) (mcd := mcd) (mbe := mbe) (mba := mba) (ol := ol) (op := op) (os := os) (svn := svn) (ms1 := ms1) (ms2 := ms2) (ms3 := ms3) (ms4 := ms4) (mfa := mfa) (mim := mim) (mik := mik) (z := z) (hv := by omega) (hln := by omega)) (cwV 2 hts gX8_mend_X8_size rfl rfl rfl yd_X8_size ⟨Nat.le_of_ble_eq_true rfl, Nat.le_of_ble_eq_true rfl⟩) (m_preV hK hP hD [0, 3] (by decide) rfl rfl rfl) rfl hl.1 rfl (Nat.le_of_ble_eq_true rfl) dX8_mend_71 ⟨Nat.zero_le _, Nat.zero_le _⟩ ?_
          refine lv_istore (lv' := [(7, .int (nI (z (((cN ve) + 1) * 20 + ((cN one) + (cN kk)))))), (0, .ref mo), (1, .int (nI (cN ve))), (2, .int (nI (cN one))), (3, .int (nI (cN oth))), (4, .int (nI (cN n))), (5, .int (nI (cN kk))), (6, .int pl)]) hx hb dX8_mend_74 hl (by decide) rfl (fun ls hl => ?_)
          refine lv_iload hx hb dX8_mend_76 (lv_at hl 7 rfl) ?_
          refine lv_iconst (v := nI 0) hx hb dX8_mend_78 (by decide) ?_
          refine lv_iload hx hb dX8_mend_79 (lv_at hl 0 rfl) ?_
          refine lv_iconst (v := nI 1) hx hb dX8_mend_81 (by decide) ?_
          refine lv_isub hx hb dX8_mend_82 ?_
          refine m_rdS (As := [.int pl, .int (nI 0), .int ((nI (z (((cN ve) + 1) * 20 + ((cN one) + (cN kk))))) - (nI 1))]) (rest := []) (wc := []) hcf (k_X8_in (l := l) (D := D) (cI := cI) (cZ := cZ) (x := pl) (lo := nI 0) (hi := (nI (z (((cN ve) + 1) * 20 + ((cN one) + (cN kk))))) - (nI 1)) ) (va_cwS 3 hts gX8_mend_X8_in rfl rfl rfl yd_X8_in.2 ⟨Nat.le_of_ble_eq_true rfl, Nat.le_of_ble_eq_true rfl⟩) (m_preS hK hP hD [] (by decide) rfl) rfl hl.1 rfl (Nat.le_of_ble_eq_true rfl) dX8_mend_83 ⟨Nat.zero_le _, Nat.zero_le _⟩ ?_
          refine m_top (y := bI (ixB pl (z ((cN ve + 1) * 20 + (cN one + cN kk))))) (by rw [inB_ix (by omega) (by decide), Nat.add_sub_cancel]) ?_
          refine m_ifB_ne (tgt := 103) hx hb dX8_mend_86 (by decide) (fun c_86 => ?_) (fun c_86 => ?_)
          · obtain ⟨e_p, i_p, s_p⟩ := sgA_in (g := g) hz c_86
            have g_0 := hgp _ _ _ (show cN ve + 1 < nv by omega) (show cN one + cN kk < nl by omega) i_p
            have n_1 : ¬ pl = -1 := by rw [e_p]; exact nI_nm1 (by omega)
            have hl : lv_has ls 9 [(7, .int (nI (z (((cN ve) + 1) * 20 + ((cN one) + (cN kk)))))), (0, .ref mo), (1, .int (nI (cN ve))), (2, .int (nI (cN one))), (3, .int (nI (cN oth))), (4, .int (nI (cN n))), (5, .int (nI (cN kk))), (6, .int (nI (cN pl)))] := by rw [← e_p]; exact hl
            refine lv_aload_n hx hb dX8_mend_103 rfl (lv_at hl 1 rfl) ?_
            refine lv_iload_n hx hb dX8_mend_104 rfl (lv_at hl 2 rfl) ?_
            refine lv_iconst (v := nI 1) hx hb dX8_mend_105 (by decide) ?_
            refine m_add hx hb dX8_mend_106 ?_
            refine lv_iload_n hx hb dX8_mend_107 rfl (lv_at hl 3 rfl) ?_
            refine lv_iload hx hb dX8_mend_108 (lv_at hl 6 rfl) ?_
            refine m_add hx hb dX8_mend_110 ?_
            refine lv_iload hx hb dX8_mend_111 (lv_at hl 7 rfl) ?_
            refine m_rdV (As := [.int (nI ((cN ve) + 1)), .int (nI ((cN one) + (cN kk))), .int (nI (cN pl))]) (rest := []) (wc := [(mo, .inr (8, [.int (nI ps), .ref mpa, .int (nI nl), .int (nI nv), .ref msz, .ref mcd, .ref mbe, .ref mba, .int ol, .int (nI op), .int (nI os), .int (nI svn), .ref ms1, .ref ms2, .ref ms3, .ref ms4, .ref mfa, .ref mim, .ref mik])), (mcd, aN cI 640 g)]) hcf (k_X8_signAt (l := l) (D := D) (cI := cI) (cZ := cZ) (v := (cN ve) + 1) (ln := (cN one) + (cN kk)) (k := cN pl) (mo := mo) (ps := ps) (mpa := mpa) (nl := nl) (nv := nv) (msz := msz) (mcd := mcd) (mbe := mbe) (mba := mba) (ol := ol) (op := op) (os := os) (svn := svn) (ms1 := ms1) (ms2 := ms2) (ms3 := ms3) (ms4 := ms4) (mfa := mfa) (mim := mim) (mik := mik) (g := g) (hv := by omega) (hln := by omega) (hk := by omega)) (cwV 3 hts gX8_mend_X8_signAt rfl rfl rfl yd_X8_signAt ⟨Nat.le_of_ble_eq_true rfl, Nat.le_of_ble_eq_true rfl⟩) (m_preV hK hP hD [0, 4] (by decide) rfl rfl rfl) rfl hl.1 rfl (Nat.le_of_ble_eq_true rfl) dX8_mend_113 ⟨Nat.zero_le _, Nat.zero_le _⟩ ?_
            refine lv_istore (lv' := [(8, .int (nI (g ((((cN ve) + 1) * 20 + ((cN one) + (cN kk))) * 8 + (cN pl))))), (7, .int (nI (z (((cN ve) + 1) * 20 + ((cN one) + (cN kk)))))), (0, .ref mo), (1, .int (nI (cN ve))), (2, .int (nI (cN one))), (3, .int (nI (cN oth))), (4, .int (nI (cN n))), (5, .int (nI (cN kk))), (6, .int (nI (cN pl)))]) hx hb dX8_mend_116 hl (by decide) rfl (fun ls hl => ?_)
            refine lv_iload hx hb dX8_mend_118 (lv_at hl 0 rfl) ?_
            refine m_rdS (As := [.int (nI (g ((((cN ve) + 1) * 20 + ((cN one) + (cN kk))) * 8 + (cN pl))))]) (rest := []) (wc := []) hcf (k_X8_isName (l := l) (D := D) (cI := cI) (cZ := cZ) (a := g ((((cN ve) + 1) * 20 + ((cN one) + (cN kk))) * 8 + (cN pl))) (ha := Nat.lt_of_le_of_lt (hg _) (by decide))) (va_cwS 1 hts gX8_mend_X8_isName rfl rfl rfl yd_X8_isName.2 ⟨Nat.le_of_ble_eq_true rfl, Nat.le_of_ble_eq_true rfl⟩) (m_preS hK hP hD [] (by decide) rfl) rfl hl.1 rfl (Nat.le_of_ble_eq_true rfl) dX8_mend_120 ⟨Nat.zero_le _, Nat.zero_le _⟩ ?_
            refine m_ifB_eq (tgt := 152) hx hb dX8_mend_123 (by decide) (fun c_123 => ?_) (fun c_123 => ?_)
            · refine lv_iload hx hb dX8_mend_152 (lv_at hl 0 rfl) ?_
              rw [hQ]
              have KR9 : rnN (rwM 1 z g (cN ve) (cN one) (cN oth) ol op os (cN n)).2 (g (((cN ve + 1) * 20 + (cN one + cN kk)) * 8 + cN pl)) = g ((((cN ve) + 1) * 20 + ((cN one) + (cN kk))) * 8 + (cN pl)) := by first | exact rn_no hpm9 c_123 | exact (rn_be hpm9 i_q).1 c_136 | exact (rn_be hpm9 i_q).2 c_136
              exact m_iwr hx hb hr hlocks (beu_49, bau_49) (⟨by rw [rfQ_v c_11 KI]; unfold mdQ; rw [if_pos K9, if_neg n_1, s_p, if_neg g_0, KR9], hp_49.2.1, hp_49.2.2⟩) hP hS dX8_mend_154
            · have i_q := nmB_iff.mp c_123
              refine lv_aload_n hx hb dX8_mend_126 rfl (lv_at hl 2 rfl) ?_
              refine va_get (D := D) (ci := 8) (v := .ref mbe) (C := RX8) (T := TX8) (N := 19) hx hb hts i_X8 hown hK.1 hP 0 rfl rfl 6 (by decide) f_19 (fun _ h9 => h9) rfl dX8_mend_127 ?_
              refine lv_iload hx hb dX8_mend_130 (lv_at hl 0 rfl) ?_
              refine lv_bipush (v := nI 97) hx hb dX8_mend_132 (by decide) ?_
              refine m_sub hx hb (by omega) dX8_mend_134 ?_
              refine m_ald hx hb hK hP 1 rfl (by decide) (by omega) dX8_mend_135 ?_
              have hbb := hp_49.2.1 (g (((cN ve + 1) * 20 + (cN one + cN kk)) * 8 + cN pl) - 97)
              refine m_if_le (tgt := 152) hx hb dX8_mend_136 (by decide) (by omega) (fun c_136 => ?_) (fun c_136 => ?_)
              · refine lv_iload hx hb dX8_mend_152 (lv_at hl 0 rfl) ?_
                rw [hQ]
                have KR9 : rnN (rwM 1 z g (cN ve) (cN one) (cN oth) ol op os (cN n)).2 (g (((cN ve + 1) * 20 + (cN one + cN kk)) * 8 + cN pl)) = g ((((cN ve) + 1) * 20 + ((cN one) + (cN kk))) * 8 + (cN pl)) := by first | exact rn_no hpm9 c_123 | exact (rn_be hpm9 i_q).1 c_136 | exact (rn_be hpm9 i_q).2 c_136
                exact m_iwr hx hb hr hlocks (beu_49, bau_49) (⟨by rw [rfQ_v c_11 KI]; unfold mdQ; rw [if_pos K9, if_neg n_1, s_p, if_neg g_0, KR9], hp_49.2.1, hp_49.2.2⟩) hP hS dX8_mend_154
              · refine lv_aload_n hx hb dX8_mend_139 rfl (lv_at hl 2 rfl) ?_
                refine va_get (D := D) (ci := 8) (v := .ref mbe) (C := RX8) (T := TX8) (N := 19) hx hb hts i_X8 hown hK.1 hP 0 rfl rfl 6 (by decide) f_19 (fun _ h9 => h9) rfl dX8_mend_140 ?_
                refine lv_iload hx hb dX8_mend_143 (lv_at hl 0 rfl) ?_
                refine lv_bipush (v := nI 97) hx hb dX8_mend_145 (by decide) ?_
                refine m_sub hx hb (by omega) dX8_mend_147 ?_
                refine m_ald hx hb hK hP 1 rfl (by decide) (by omega) dX8_mend_148 ?_
                refine lv_goto (tgt := 154) hx hb dX8_mend_149 (by decide) ?_
                rw [hQ]
                have KR9 : rnN (rwM 1 z g (cN ve) (cN one) (cN oth) ol op os (cN n)).2 (g (((cN ve + 1) * 20 + (cN one + cN kk)) * 8 + cN pl)) = beu_49 ((g ((((cN ve) + 1) * 20 + ((cN one) + (cN kk))) * 8 + (cN pl))) - 97) := by first | exact rn_no hpm9 c_123 | exact (rn_be hpm9 i_q).1 c_136 | exact (rn_be hpm9 i_q).2 c_136
                exact m_iwr hx hb hr hlocks (beu_49, bau_49) (⟨by rw [rfQ_v c_11 KI]; unfold mdQ; rw [if_pos K9, if_neg n_1, s_p, if_neg g_0, KR9], hp_49.2.1, hp_49.2.2⟩) hP hS dX8_mend_154
          · refine lv_iload hx hb dX8_mend_89 (lv_at hl 7 rfl) ?_
            refine lv_iconst (v := (-1)) hx hb dX8_mend_91 (by decide) ?_
            refine lv_icmp_ne (tgt := 100) hx hb dX8_mend_92 (by decide) (fun c_92 => ?_) (fun c_92 => ?_)
            · refine lv_bipush (v := (-6)) hx hb dX8_mend_100 (by decide) ?_
              rw [hQ]
              exact m_iwr hx hb hr hlocks (beu_49, bau_49) (⟨by rw [rfQ_v c_11 KI]; unfold mdQ; rw [if_pos K9, if_neg c_92, if_pos (sgA_no c_86)], hp_49.2.1, hp_49.2.2⟩) hP hS dX8_mend_102
            · refine lv_iload hx hb dX8_mend_95 (lv_at hl 0 rfl) ?_
              refine lv_goto (tgt := 102) hx hb dX8_mend_97 (by decide) ?_
              rw [hQ]
              exact m_iwr hx hb hr hlocks (beu_49, bau_49) (⟨by rw [rfQ_v c_11 KI]; unfold mdQ; rw [if_pos K9, if_pos c_92], hp_49.2.1, hp_49.2.2⟩) hP hS dX8_mend_102
        · have K8 := bit1_0 c_57
          rw [mq_bit i_k] at K8
          refine lv_bipush (v := (-5)) hx hb dX8_mend_60 (by decide) ?_
          rw [hQ]
          exact m_iwr hx hb hr hlocks (beu_49, bau_49) (⟨by rw [rfQ_v c_11 KI]; unfold mdQ; rw [if_neg (by rw [K8]; decide)], hp_49.2.1, hp_49.2.2⟩) hP hS dX8_mend_62
      · refine lv_bipush (v := (-2)) hx hb dX8_mend_40 (by decide) ?_
        rw [hQ]
        exact m_iwr hx hb hr hlocks (be, ba) (⟨by rw [rfQ_o c_11 (by first | (simp [K9]; done) | (simp [c_37]; done))], hbe, hba⟩) hP hS dX8_mend_42
  · refine lv_iconst (v := (-1)) hx hb dX8_mend_14 (by decide) ?_
    rw [hQ]
    exact m_iwr hx hb hr hlocks (be, ba) (⟨by rw [rfQ_u c_11], hbe, hba⟩) hP hS dX8_mend_15
