theorem yd_X7_pulled : yX7_pulled.cls = RX7 ∧ yX7_pulled.cls ≠ "java/lang/invoke/MethodHandle" ∧ yX7_pulled.cls ≠ "java/lang/invoke/VarHandle" ∧ (parseMethodDescriptor yX7_pulled.desc).map (fun d => d.parameters.length) = some 5 := by decide +kernel
set_option maxHeartbeats 4000000 in
set_option maxRecDepth 100000 in
theorem k_X7_pulled (l : Launch) (D : va_G) (cI cZ : ClassId) (x oz oy k0 k1 pa ps o5 o4 o6 o1 : Nat) (o q0 q1 ra oc a1 a2 ll lo lt n1 n2 nl nv : Nat) (pt rc z g : Nat → Nat) (s5 va tc ts tn td : Nat) (sv : Int32) (st : Nat → Nat) (ve way sta n wh : Int32) (hnl : nl ≤ 20) (hnv : nv ≤ 4) (hz : ∀ j, z j ≤ 8) (hg : ∀ j, g j ≤ 126) (hpt : ∀ j, pt j ≤ 126) (hrc : ∀ j, rc j ≤ 20) : Met l yX7_pulled wsX7_pulled ({ frames := 6, cells := 0, slots := 0, locals := 148 }) (mPc [.ref x, .int ve, .int way, .int sta, .int n, .int wh] D cI cZ [(x, .inr (7, [.ref oc, .ref oz, .ref oy, .int (nI k0), .int (nI k1), .ref pa, .int (nI ps), .ref o, .ref o5, .ref o4, .ref o6, .ref o1])), (o, .inr (2, [.ref oc, .ref q0, .ref ra, .int (nI ll), .int (nI lo), .int (nI lt)])), (q0, .inr (3, [.ref q1, .int (nI n1), .int (nI n2)])), (q1, aN cI 26 pt), (ra, aN cI 400 rc), (oc, .inr (0, [.ref a1, .ref a2, .int (nI nl), .int (nI nv)])), (a1, aN cI 640 g), (a2, aN cI 80 z), (o5, .inr (5, [.ref oc, .ref o, .ref s5, .int (nI va), .int (nI tc), .int (nI ts), .int (nI tn), .int (nI td), .int sv])), (s5, aN cI 20 st)]) (mQi D (mA [(x, .inr (7, [.ref oc, .ref oz, .ref oy, .int (nI k0), .int (nI k1), .ref pa, .int (nI ps), .ref o, .ref o5, .ref o4, .ref o6, .ref o1])), (o, .inr (2, [.ref oc, .ref q0, .ref ra, .int (nI ll), .int (nI lo), .int (nI lt)])), (q0, .inr (3, [.ref q1, .int (nI n1), .int (nI n2)])), (q1, aN cI 26 pt), (ra, aN cI 400 rc), (oc, .inr (0, [.ref a1, .ref a2, .int (nI nl), .int (nI nv)])), (a1, aN cI 640 g), (a2, aN cI 80 z), (o5, .inr (5, [.ref oc, .ref o, .ref s5, .int (nI va), .int (nI tc), .int (nI ts), .int (nI tn), .int (nI td), .int sv])), (s5, aN cI 20 st)]) (fun (r : Int32) (u : Nat × Nat × (Nat → Nat) × (Nat → Nat) × Nat × Nat × Nat × Nat × Nat × Int32 × (Nat → Nat)) => r = plQ nv ve (ixB way 3 && ixB sta 20 && lnB n && ixB wh 3) (plR (tkF (slN (rcC (cN way) z g (cN ve) nl) nl (cN sta) (cN n)) (cN n) 20).2.2.2 (tkF (slN (rcC (cN way) z g (cN ve) nl) nl (cN sta) (cN n)) (cN n) 20).1 (toN z g (cN ve) nl (rcC (cN way) z g (cN ve) nl) (cN sta) (cN n)) (svI (tkF (slN (rcC (cN way) z g (cN ve) nl) nl (cN sta) (cN n)) (cN n) 20).2.2.2 (cN n) (toN z g (cN ve) nl (rcC (cN way) z g (cN ve) nl) (cN sta) (cN n))) wh) ∧ (∀ j, u.2.2.1 j ≤ 126) ∧ (∀ j, u.2.2.2.1 j ≤ 20)) (fun (u : Nat × Nat × (Nat → Nat) × (Nat → Nat) × Nat × Nat × Nat × Nat × Nat × Int32 × (Nat → Nat)) => [(x, .inr (7, [.ref oc, .ref oz, .ref oy, .int (nI k0), .int (nI k1), .ref pa, .int (nI ps), .ref o, .ref o5, .ref o4, .ref o6, .ref o1])), (o, .inr (2, [.ref oc, .ref q0, .ref ra, .int (nI ll), .int (nI lo), .int (nI lt)])), (q0, .inr (3, [.ref q1, .int (nI u.1), .int (nI u.2.1)])), (q1, aN cI 26 u.2.2.1), (ra, aN cI 400 u.2.2.2.1), (oc, .inr (0, [.ref a1, .ref a2, .int (nI nl), .int (nI nv)])), (a1, aN cI 640 g), (a2, aN cI 80 z), (o5, .inr (5, [.ref oc, .ref o, .ref s5, .int (nI u.2.2.2.2.1), .int (nI u.2.2.2.2.2.1), .int (nI u.2.2.2.2.2.2.1), .int (nI u.2.2.2.2.2.2.2.1), .int (nI u.2.2.2.2.2.2.2.2.1), .int u.2.2.2.2.2.2.2.2.2.1])), (s5, aN cI 20 u.2.2.2.2.2.2.2.2.2.2)])) 0 0 (mA [(x, .inr (7, [.ref oc, .ref oz, .ref oy, .int (nI k0), .int (nI k1), .ref pa, .int (nI ps), .ref o, .ref o5, .ref o4, .ref o6, .ref o1])), (o, .inr (2, [.ref oc, .ref q0, .ref ra, .int (nI ll), .int (nI lo), .int (nI lt)])), (q0, .inr (3, [.ref q1, .int (nI n1), .int (nI n2)])), (q1, aN cI 26 pt), (ra, aN cI 400 rc), (oc, .inr (0, [.ref a1, .ref a2, .int (nI nl), .int (nI nv)])), (a1, aN cI 640 g), (a2, aN cI 80 z), (o5, .inr (5, [.ref oc, .ref o, .ref s5, .int (nI va), .int (nI tc), .int (nI ts), .int (nI tn), .int (nI td), .int sv])), (s5, aN cI 20 st)]) := by
  refine Met.ofW (cc := cX7_pulled) (maxL := 8) (ret := (some .int)) (by decide) rfl ?_
  intro p e s m args below meth c s₁ BB hml hv
  obtain ⟨hargs, hP, hD0, hK⟩ := hv
  have hx := BB.exec
  have hb := BB.bytes
  have hr := BB.returns
  have hts := atoms_spec (ws := wsX7_pulled) BB.pre
  have hown : s.vm.findClass RX7 = some m.cls := findClass_of_methodNamed BB.named
  have hlocks := BB.notSynchronized
  have hcf : CallFix p m c cX7_pulled 8 s args wsX7_pulled RX7 := ⟨hx, hb, hml, hown, hts⟩
  obtain ⟨A, hAe⟩ : ∃ A, A = mA [(x, .inr (7, [.ref oc, .ref oz, .ref oy, .int (nI k0), .int (nI k1), .ref pa, .int (nI ps), .ref o, .ref o5, .ref o4, .ref o6, .ref o1])), (o, .inr (2, [.ref oc, .ref q0, .ref ra, .int (nI ll), .int (nI lo), .int (nI lt)])), (q0, .inr (3, [.ref q1, .int (nI n1), .int (nI n2)])), (q1, aN cI 26 pt), (ra, aN cI 400 rc), (oc, .inr (0, [.ref a1, .ref a2, .int (nI nl), .int (nI nv)])), (a1, aN cI 640 g), (a2, aN cI 80 z), (o5, .inr (5, [.ref oc, .ref o, .ref s5, .int (nI va), .int (nI tc), .int (nI ts), .int (nI tn), .int (nI td), .int sv])), (s5, aN cI 20 st)] := ⟨_, rfl⟩
  have hD : va_D A [(x, .inr (7, [.ref oc, .ref oz, .ref oy, .int (nI k0), .int (nI k1), .ref pa, .int (nI ps), .ref o, .ref o5, .ref o4, .ref o6, .ref o1])), (o, .inr (2, [.ref oc, .ref q0, .ref ra, .int (nI ll), .int (nI lo), .int (nI lt)])), (q0, .inr (3, [.ref q1, .int (nI n1), .int (nI n2)])), (q1, aN cI 26 pt), (ra, aN cI 400 rc), (oc, .inr (0, [.ref a1, .ref a2, .int (nI nl), .int (nI nv)])), (a1, aN cI 640 g), (a2, aN cI 80 z), (o5, .inr (5, [.ref oc, .ref o, .ref s5, .int (nI va), .int (nI tc), .int (nI ts), .int (nI tn), .int (nI td), .int sv])), (s5, aN cI 20 st)] := ⟨hD0.1, fun k q h => by rw [hAe]; exact ⟨k, q.2, h⟩⟩
  have hS : va_S A s.heap s.heap [] := va_S.rf
  rw [← hAe]
  rw [hargs, lg_entry_eq, ← hargs]
  have hl := lv_entry ([.ref x, .int ve, .int way, .int sta, .int n, .int wh]) (n := 8) (Nat.le_of_ble_eq_true rfl)
  generalize (lg_sl ([.ref x, .int ve, .int way, .int sta, .int n, .int wh]) ++ List.replicate (8 - (lg_sl ([.ref x, .int ve, .int way, .int sta, .int n, .int wh])).length) Slot.unset).toArray = ls at hl ⊢
  have hl : lv_has ls 8 [(0, .ref x), (1, .int ve), (2, .int way), (3, .int sta), (4, .int n), (5, .int wh)] := hl
  obtain ⟨Q, hQ⟩ : ∃ Q, Q = MQ below (mQi D A (fun (r : Int32) (u : Nat × Nat × (Nat → Nat) × (Nat → Nat) × Nat × Nat × Nat × Nat × Nat × Int32 × (Nat → Nat)) => r = plQ nv ve (ixB way 3 && ixB sta 20 && lnB n && ixB wh 3) (plR (tkF (slN (rcC (cN way) z g (cN ve) nl) nl (cN sta) (cN n)) (cN n) 20).2.2.2 (tkF (slN (rcC (cN way) z g (cN ve) nl) nl (cN sta) (cN n)) (cN n) 20).1 (toN z g (cN ve) nl (rcC (cN way) z g (cN ve) nl) (cN sta) (cN n)) (svI (tkF (slN (rcC (cN way) z g (cN ve) nl) nl (cN sta) (cN n)) (cN n) 20).2.2.2 (cN n) (toN z g (cN ve) nl (rcC (cN way) z g (cN ve) nl) (cN sta) (cN n))) wh) ∧ (∀ j, u.2.2.1 j ≤ 126) ∧ (∀ j, u.2.2.2.1 j ≤ 20)) (fun (u : Nat × Nat × (Nat → Nat) × (Nat → Nat) × Nat × Nat × Nat × Nat × Nat × Int32 × (Nat → Nat)) => [(x, .inr (7, [.ref oc, .ref oz, .ref oy, .int (nI k0), .int (nI k1), .ref pa, .int (nI ps), .ref o, .ref o5, .ref o4, .ref o6, .ref o1])), (o, .inr (2, [.ref oc, .ref q0, .ref ra, .int (nI ll), .int (nI lo), .int (nI lt)])), (q0, .inr (3, [.ref q1, .int (nI u.1), .int (nI u.2.1)])), (q1, aN cI 26 u.2.2.1), (ra, aN cI 400 u.2.2.2.1), (oc, .inr (0, [.ref a1, .ref a2, .int (nI nl), .int (nI nv)])), (a1, aN cI 640 g), (a2, aN cI 80 z), (o5, .inr (5, [.ref oc, .ref o, .ref s5, .int (nI u.2.2.2.2.1), .int (nI u.2.2.2.2.2.1), .int (nI u.2.2.2.2.2.2.1), .int (nI u.2.2.2.2.2.2.2.1), .int (nI u.2.2.2.2.2.2.2.2.1), .int u.2.2.2.2.2.2.2.2.2.1])), (s5, aN cI 20 u.2.2.2.2.2.2.2.2.2.2)])) args s 0 0 A := ⟨_, rfl⟩
  rw [← hQ]
  have i_X7 : ∀ w ∈ u_ws RX7 TX7 12, w ∈ wsX7_pulled := by decide +kernel
  have f_31 := hts (.fieldLink RX7 31 "SameAgain" "likeness" "LSameAgain$Likeness;") (by decide +kernel)
  have f_40 := hts (.fieldLink RX7 40 "SameAgain" "procedure" "LSameAgain$Procedure;") (by decide +kernel)
  have fn_164 := va_Nw.use (A := args) rfl (hK.2.1 ("SameAgain", 164, "SameAgain$Procedure", "takenCount", "I", "SameAgain") (by decide +kernel))
  have i_X5 : ∀ w ∈ u_ws RX5 TX5 9, w ∈ wsX7_pulled := by decide +kernel
  have fn_173 := va_Nw.use (A := args) rfl (hK.2.1 ("SameAgain", 173, "SameAgain$Procedure", "saved", "I", "SameAgain") (by decide +kernel))
  have fn_170 := va_Nw.use (A := args) rfl (hK.2.1 ("SameAgain", 170, "SameAgain$Procedure", "toldCount", "I", "SameAgain") (by decide +kernel))
  have fn_167 := va_Nw.use (A := args) rfl (hK.2.1 ("SameAgain", 167, "SameAgain$Procedure", "takenStarts", "I", "SameAgain") (by decide +kernel))
  refine lv_iload_n hx hb dX7_pulled_0 rfl (lv_at hl 2 rfl) ?_
  refine m_rdS (As := [.int way]) (rest := []) (wc := []) hcf (k_X7_isWay (l := l) (D := D) (cI := cI) (cZ := cZ) (a := way) ) (va_cwS 1 hts gX7_pulled_X7_isWay rfl rfl rfl yd_X7_isWay.2 ⟨Nat.le_of_ble_eq_true rfl, Nat.le_of_ble_eq_true rfl⟩) (m_preS hK hP hD [] (by decide) rfl) rfl hl.1 rfl (Nat.le_of_ble_eq_true rfl) dX7_pulled_1 ⟨Nat.zero_le _, Nat.zero_le _⟩ ?_
  refine m_ifB_eq (tgt := 35) hx hb dX7_pulled_4 (by decide) (fun c_4 => ?_) (fun c_4 => ?_)
  · refine lv_iconst (v := nI 0) hx hb dX7_pulled_35 (by decide) ?_
    refine lv_istore (lv' := [(6, .int (nI 0)), (0, .ref x), (1, .int ve), (2, .int way), (3, .int sta), (4, .int n), (5, .int wh)]) hx hb dX7_pulled_36 hl (by decide) rfl (fun ls hl => ?_)
    refine lv_aload_n hx hb dX7_pulled_38 rfl (lv_at hl 1 rfl) ?_
    refine lv_iload_n hx hb dX7_pulled_39 rfl (lv_at hl 2 rfl) ?_
    refine lv_iload hx hb dX7_pulled_40 (lv_at hl 0 rfl) ?_
    refine m_rdV (As := [.int ve, .int (nI 0)]) (rest := []) (wc := [(x, .inr (7, [.ref oc, .ref oz, .ref oy, .int (nI k0), .int (nI k1), .ref pa, .int (nI ps), .ref o, .ref o5, .ref o4, .ref o6, .ref o1])), (oc, .inr (0, [.ref a1, .ref a2, .int (nI nl), .int (nI nv)])), (a1, aN cI 640 g), (a2, aN cI 80 z)]) hcf (k_X7_refusalIn (l := l) (D := D) (cI := cI) (cZ := cZ) (ve := ve) (b := false) (x := x) (oc := oc) (oz := oz) (oy := oy) (k0 := k0) (k1 := k1) (pa := pa) (ps := ps) (o := o) (o5 := o5) (o4 := o4) (o6 := o6) (o1 := o1) (a1 := a1) (a2 := a2) (nl := nl) (nv := nv) (g := g) (z := z) (hnl := hnl) (hnv := hnv)) (cwV 2 hts gX7_pulled_X7_refusalIn rfl rfl rfl yd_X7_refusalIn ⟨Nat.le_of_ble_eq_true rfl, Nat.le_of_ble_eq_true rfl⟩) (m_preV hK hP hD [0, 5, 6, 7] (by decide) rfl rfl rfl) rfl hl.1 rfl (Nat.le_of_ble_eq_true rfl) dX7_pulled_42 ⟨Nat.zero_le _, Nat.zero_le _⟩ ?_
    refine lv_istore (lv' := [(7, .int (rfQ nv ve false 0)), (6, .int (nI 0)), (0, .ref x), (1, .int ve), (2, .int way), (3, .int sta), (4, .int n), (5, .int wh)]) hx hb dX7_pulled_45 hl (by decide) rfl (fun ls hl => ?_)
    refine lv_iload hx hb dX7_pulled_47 (lv_at hl 0 rfl) ?_
    refine lv_if_eq (tgt := 59) hx hb dX7_pulled_49 (by decide) (fun c_49 => ?_) (fun c_49 => ?_)
    · exact absurd (rfQ_0 c_49).2 (by decide)
    · refine lv_sipush (v := (-1000)) hx hb dX7_pulled_52 (by decide) ?_
      refine lv_iload hx hb dX7_pulled_55 (lv_at hl 0 rfl) ?_
      refine lv_iadd hx hb dX7_pulled_57 ?_
      rw [hQ]
      exact m_iwr hx hb hr hlocks (n1, n2, pt, rc, va, tc, ts, tn, td, sv, st) (⟨plQ_n c_49 (by first | (simp [c_4, c_11, c_19, c_28]; done) | (simp [c_4]; done) | (simp [c_11]; done) | (simp [c_19]; done) | (simp [c_28]; done)), hpt, hrc⟩) hP hS dX7_pulled_58
  · refine lv_iload_n hx hb dX7_pulled_7 rfl (lv_at hl 3 rfl) ?_
    refine m_rdS (As := [.int sta]) (rest := []) (wc := []) hcf (k_X7_isStart (l := l) (D := D) (cI := cI) (cZ := cZ) (a := sta) ) (va_cwS 1 hts gX7_pulled_X7_isStart rfl rfl rfl yd_X7_isStart.2 ⟨Nat.le_of_ble_eq_true rfl, Nat.le_of_ble_eq_true rfl⟩) (m_preS hK hP hD [] (by decide) rfl) rfl hl.1 rfl (Nat.le_of_ble_eq_true rfl) dX7_pulled_8 ⟨Nat.zero_le _, Nat.zero_le _⟩ ?_
    refine m_ifB_eq (tgt := 35) hx hb dX7_pulled_11 (by decide) (fun c_11 => ?_) (fun c_11 => ?_)
    · refine lv_iconst (v := nI 0) hx hb dX7_pulled_35 (by decide) ?_
      refine lv_istore (lv' := [(6, .int (nI 0)), (0, .ref x), (1, .int ve), (2, .int way), (3, .int sta), (4, .int n), (5, .int wh)]) hx hb dX7_pulled_36 hl (by decide) rfl (fun ls hl => ?_)
      refine lv_aload_n hx hb dX7_pulled_38 rfl (lv_at hl 1 rfl) ?_
      refine lv_iload_n hx hb dX7_pulled_39 rfl (lv_at hl 2 rfl) ?_
      refine lv_iload hx hb dX7_pulled_40 (lv_at hl 0 rfl) ?_
      refine m_rdV (As := [.int ve, .int (nI 0)]) (rest := []) (wc := [(x, .inr (7, [.ref oc, .ref oz, .ref oy, .int (nI k0), .int (nI k1), .ref pa, .int (nI ps), .ref o, .ref o5, .ref o4, .ref o6, .ref o1])), (oc, .inr (0, [.ref a1, .ref a2, .int (nI nl), .int (nI nv)])), (a1, aN cI 640 g), (a2, aN cI 80 z)]) hcf (k_X7_refusalIn (l := l) (D := D) (cI := cI) (cZ := cZ) (ve := ve) (b := false) (x := x) (oc := oc) (oz := oz) (oy := oy) (k0 := k0) (k1 := k1) (pa := pa) (ps := ps) (o := o) (o5 := o5) (o4 := o4) (o6 := o6) (o1 := o1) (a1 := a1) (a2 := a2) (nl := nl) (nv := nv) (g := g) (z := z) (hnl := hnl) (hnv := hnv)) (cwV 2 hts gX7_pulled_X7_refusalIn rfl rfl rfl yd_X7_refusalIn ⟨Nat.le_of_ble_eq_true rfl, Nat.le_of_ble_eq_true rfl⟩) (m_preV hK hP hD [0, 5, 6, 7] (by decide) rfl rfl rfl) rfl hl.1 rfl (Nat.le_of_ble_eq_true rfl) dX7_pulled_42 ⟨Nat.zero_le _, Nat.zero_le _⟩ ?_
      refine lv_istore (lv' := [(7, .int (rfQ nv ve false 0)), (6, .int (nI 0)), (0, .ref x), (1, .int ve), (2, .int way), (3, .int sta), (4, .int n), (5, .int wh)]) hx hb dX7_pulled_45 hl (by decide) rfl (fun ls hl => ?_)
      refine lv_iload hx hb dX7_pulled_47 (lv_at hl 0 rfl) ?_
      refine lv_if_eq (tgt := 59) hx hb dX7_pulled_49 (by decide) (fun c_49 => ?_) (fun c_49 => ?_)
      · exact absurd (rfQ_0 c_49).2 (by decide)
      · refine lv_sipush (v := (-1000)) hx hb dX7_pulled_52 (by decide) ?_
        refine lv_iload hx hb dX7_pulled_55 (lv_at hl 0 rfl) ?_
        refine lv_iadd hx hb dX7_pulled_57 ?_
        rw [hQ]
        exact m_iwr hx hb hr hlocks (n1, n2, pt, rc, va, tc, ts, tn, td, sv, st) (⟨plQ_n c_49 (by first | (simp [c_4, c_11, c_19, c_28]; done) | (simp [c_4]; done) | (simp [c_11]; done) | (simp [c_19]; done) | (simp [c_28]; done)), hpt, hrc⟩) hP hS dX7_pulled_58
    · refine lv_iload hx hb dX7_pulled_14 (lv_at hl 4 rfl) ?_
      refine m_rdS (As := [.int n]) (rest := []) (wc := []) hcf (k_X7_isLength (l := l) (D := D) (cI := cI) (cZ := cZ) (a := n) ) (va_cwS 1 hts gX7_pulled_X7_isLength rfl rfl rfl yd_X7_isLength.2 ⟨Nat.le_of_ble_eq_true rfl, Nat.le_of_ble_eq_true rfl⟩) (m_preS hK hP hD [] (by decide) rfl) rfl hl.1 rfl (Nat.le_of_ble_eq_true rfl) dX7_pulled_16 ⟨Nat.zero_le _, Nat.zero_le _⟩ ?_
      refine m_ifB_eq (tgt := 35) hx hb dX7_pulled_19 (by decide) (fun c_19 => ?_) (fun c_19 => ?_)
      · refine lv_iconst (v := nI 0) hx hb dX7_pulled_35 (by decide) ?_
        refine lv_istore (lv' := [(6, .int (nI 0)), (0, .ref x), (1, .int ve), (2, .int way), (3, .int sta), (4, .int n), (5, .int wh)]) hx hb dX7_pulled_36 hl (by decide) rfl (fun ls hl => ?_)
        refine lv_aload_n hx hb dX7_pulled_38 rfl (lv_at hl 1 rfl) ?_
        refine lv_iload_n hx hb dX7_pulled_39 rfl (lv_at hl 2 rfl) ?_
        refine lv_iload hx hb dX7_pulled_40 (lv_at hl 0 rfl) ?_
        refine m_rdV (As := [.int ve, .int (nI 0)]) (rest := []) (wc := [(x, .inr (7, [.ref oc, .ref oz, .ref oy, .int (nI k0), .int (nI k1), .ref pa, .int (nI ps), .ref o, .ref o5, .ref o4, .ref o6, .ref o1])), (oc, .inr (0, [.ref a1, .ref a2, .int (nI nl), .int (nI nv)])), (a1, aN cI 640 g), (a2, aN cI 80 z)]) hcf (k_X7_refusalIn (l := l) (D := D) (cI := cI) (cZ := cZ) (ve := ve) (b := false) (x := x) (oc := oc) (oz := oz) (oy := oy) (k0 := k0) (k1 := k1) (pa := pa) (ps := ps) (o := o) (o5 := o5) (o4 := o4) (o6 := o6) (o1 := o1) (a1 := a1) (a2 := a2) (nl := nl) (nv := nv) (g := g) (z := z) (hnl := hnl) (hnv := hnv)) (cwV 2 hts gX7_pulled_X7_refusalIn rfl rfl rfl yd_X7_refusalIn ⟨Nat.le_of_ble_eq_true rfl, Nat.le_of_ble_eq_true rfl⟩) (m_preV hK hP hD [0, 5, 6, 7] (by decide) rfl rfl rfl) rfl hl.1 rfl (Nat.le_of_ble_eq_true rfl) dX7_pulled_42 ⟨Nat.zero_le _, Nat.zero_le _⟩ ?_
        refine lv_istore (lv' := [(7, .int (rfQ nv ve false 0)), (6, .int (nI 0)), (0, .ref x), (1, .int ve), (2, .int way), (3, .int sta), (4, .int n), (5, .int wh)]) hx hb dX7_pulled_45 hl (by decide) rfl (fun ls hl => ?_)
        refine lv_iload hx hb dX7_pulled_47 (lv_at hl 0 rfl) ?_
        refine lv_if_eq (tgt := 59) hx hb dX7_pulled_49 (by decide) (fun c_49 => ?_) (fun c_49 => ?_)
        · exact absurd (rfQ_0 c_49).2 (by decide)
        · refine lv_sipush (v := (-1000)) hx hb dX7_pulled_52 (by decide) ?_
          refine lv_iload hx hb dX7_pulled_55 (lv_at hl 0 rfl) ?_
          refine lv_iadd hx hb dX7_pulled_57 ?_
          rw [hQ]
          exact m_iwr hx hb hr hlocks (n1, n2, pt, rc, va, tc, ts, tn, td, sv, st) (⟨plQ_n c_49 (by first | (simp [c_4, c_11, c_19, c_28]; done) | (simp [c_4]; done) | (simp [c_11]; done) | (simp [c_19]; done) | (simp [c_28]; done)), hpt, hrc⟩) hP hS dX7_pulled_58
      · refine lv_iload hx hb dX7_pulled_22 (lv_at hl 5 rfl) ?_
        refine lv_iconst (v := nI 2) hx hb dX7_pulled_24 (by decide) ?_
        refine m_rdS (As := [.int wh, .int (nI 2)]) (rest := []) (wc := []) hcf (k_X7_isUpTo (l := l) (D := D) (cI := cI) (cZ := cZ) (a := wh) (b := 2) (hb9 := by omega)) (va_cwS 2 hts gX7_pulled_X7_isUpTo rfl rfl rfl yd_X7_isUpTo.2 ⟨Nat.le_of_ble_eq_true rfl, Nat.le_of_ble_eq_true rfl⟩) (m_preS hK hP hD [] (by decide) rfl) rfl hl.1 rfl (Nat.le_of_ble_eq_true rfl) dX7_pulled_25 ⟨Nat.zero_le _, Nat.zero_le _⟩ ?_
        refine m_ifB_eq (tgt := 35) hx hb dX7_pulled_28 (by decide) (fun c_28 => ?_) (fun c_28 => ?_)
        · refine lv_iconst (v := nI 0) hx hb dX7_pulled_35 (by decide) ?_
          refine lv_istore (lv' := [(6, .int (nI 0)), (0, .ref x), (1, .int ve), (2, .int way), (3, .int sta), (4, .int n), (5, .int wh)]) hx hb dX7_pulled_36 hl (by decide) rfl (fun ls hl => ?_)
          refine lv_aload_n hx hb dX7_pulled_38 rfl (lv_at hl 1 rfl) ?_
          refine lv_iload_n hx hb dX7_pulled_39 rfl (lv_at hl 2 rfl) ?_
          refine lv_iload hx hb dX7_pulled_40 (lv_at hl 0 rfl) ?_
          refine m_rdV (As := [.int ve, .int (nI 0)]) (rest := []) (wc := [(x, .inr (7, [.ref oc, .ref oz, .ref oy, .int (nI k0), .int (nI k1), .ref pa, .int (nI ps), .ref o, .ref o5, .ref o4, .ref o6, .ref o1])), (oc, .inr (0, [.ref a1, .ref a2, .int (nI nl), .int (nI nv)])), (a1, aN cI 640 g), (a2, aN cI 80 z)]) hcf (k_X7_refusalIn (l := l) (D := D) (cI := cI) (cZ := cZ) (ve := ve) (b := false) (x := x) (oc := oc) (oz := oz) (oy := oy) (k0 := k0) (k1 := k1) (pa := pa) (ps := ps) (o := o) (o5 := o5) (o4 := o4) (o6 := o6) (o1 := o1) (a1 := a1) (a2 := a2) (nl := nl) (nv := nv) (g := g) (z := z) (hnl := hnl) (hnv := hnv)) (cwV 2 hts gX7_pulled_X7_refusalIn rfl rfl rfl yd_X7_refusalIn ⟨Nat.le_of_ble_eq_true rfl, Nat.le_of_ble_eq_true rfl⟩) (m_preV hK hP hD [0, 5, 6, 7] (by decide) rfl rfl rfl) rfl hl.1 rfl (Nat.le_of_ble_eq_true rfl) dX7_pulled_42 ⟨Nat.zero_le _, Nat.zero_le _⟩ ?_
          refine lv_istore (lv' := [(7, .int (rfQ nv ve false 0)), (6, .int (nI 0)), (0, .ref x), (1, .int ve), (2, .int way), (3, .int sta), (4, .int n), (5, .int wh)]) hx hb dX7_pulled_45 hl (by decide) rfl (fun ls hl => ?_)
          refine lv_iload hx hb dX7_pulled_47 (lv_at hl 0 rfl) ?_
          refine lv_if_eq (tgt := 59) hx hb dX7_pulled_49 (by decide) (fun c_49 => ?_) (fun c_49 => ?_)
          · exact absurd (rfQ_0 c_49).2 (by decide)
          · refine lv_sipush (v := (-1000)) hx hb dX7_pulled_52 (by decide) ?_
            refine lv_iload hx hb dX7_pulled_55 (lv_at hl 0 rfl) ?_
            refine lv_iadd hx hb dX7_pulled_57 ?_
            rw [hQ]
            exact m_iwr hx hb hr hlocks (n1, n2, pt, rc, va, tc, ts, tn, td, sv, st) (⟨plQ_n c_49 (by first | (simp [c_4, c_11, c_19, c_28]; done) | (simp [c_4]; done) | (simp [c_11]; done) | (simp [c_19]; done) | (simp [c_28]; done)), hpt, hrc⟩) hP hS dX7_pulled_58
        · refine lv_iconst (v := nI 1) hx hb dX7_pulled_31 (by decide) ?_
          refine lv_goto (tgt := 36) hx hb dX7_pulled_32 (by decide) ?_
          refine lv_istore (lv' := [(6, .int (nI 1)), (0, .ref x), (1, .int ve), (2, .int way), (3, .int sta), (4, .int n), (5, .int wh)]) hx hb dX7_pulled_36 hl (by decide) rfl (fun ls hl => ?_)
          refine lv_aload_n hx hb dX7_pulled_38 rfl (lv_at hl 1 rfl) ?_
          refine lv_iload_n hx hb dX7_pulled_39 rfl (lv_at hl 2 rfl) ?_
          refine lv_iload hx hb dX7_pulled_40 (lv_at hl 0 rfl) ?_
          refine m_rdV (As := [.int ve, .int (nI 1)]) (rest := []) (wc := [(x, .inr (7, [.ref oc, .ref oz, .ref oy, .int (nI k0), .int (nI k1), .ref pa, .int (nI ps), .ref o, .ref o5, .ref o4, .ref o6, .ref o1])), (oc, .inr (0, [.ref a1, .ref a2, .int (nI nl), .int (nI nv)])), (a1, aN cI 640 g), (a2, aN cI 80 z)]) hcf (k_X7_refusalIn (l := l) (D := D) (cI := cI) (cZ := cZ) (ve := ve) (b := true) (x := x) (oc := oc) (oz := oz) (oy := oy) (k0 := k0) (k1 := k1) (pa := pa) (ps := ps) (o := o) (o5 := o5) (o4 := o4) (o6 := o6) (o1 := o1) (a1 := a1) (a2 := a2) (nl := nl) (nv := nv) (g := g) (z := z) (hnl := hnl) (hnv := hnv)) (cwV 2 hts gX7_pulled_X7_refusalIn rfl rfl rfl yd_X7_refusalIn ⟨Nat.le_of_ble_eq_true rfl, Nat.le_of_ble_eq_true rfl⟩) (m_preV hK hP hD [0, 5, 6, 7] (by decide) rfl rfl rfl) rfl hl.1 rfl (Nat.le_of_ble_eq_true rfl) dX7_pulled_42 ⟨Nat.zero_le _, Nat.zero_le _⟩ ?_
          refine lv_istore (lv' := [(7, .int (rfQ nv ve true 0)), (6, .int (nI 1)), (0, .ref x), (1, .int ve), (2, .int way), (3, .int sta), (4, .int n), (5, .int wh)]) hx hb dX7_pulled_45 hl (by decide) rfl (fun ls hl => ?_)
          refine lv_iload hx hb dX7_pulled_47 (lv_at hl 0 rfl) ?_
          refine lv_if_eq (tgt := 59) hx hb dX7_pulled_49 (by decide) (fun c_49 => ?_) (fun c_49 => ?_)
          · have K_v := (rfQ_0 c_49).1
            have KI : (ixB way 3 && ixB sta 20 && lnB n && ixB wh 3) = true := by first | (simp [c_4, c_11, c_19, c_28]; done) | (simp [c_4]; done) | (simp [c_11]; done) | (simp [c_19]; done) | (simp [c_28]; done)
            obtain ⟨e_v, i_v⟩ := ixB_cN (by omega) K_v
            obtain ⟨e_w, i_w⟩ := ixB_cN (by decide) c_4
            obtain ⟨e_s, i_s⟩ := ixB_cN (by decide) c_11
            obtain ⟨e_n, i_n, j_n⟩ := lnB_cN c_19
            have hl : lv_has ls 8 [(7, .int (rfQ nv ve true 0)), (6, .int (nI 1)), (0, .ref x), (1, .int (nI (cN ve))), (2, .int (nI (cN way))), (3, .int (nI (cN sta))), (4, .int (nI (cN n))), (5, .int wh)] := by rw [← e_v, ← e_w, ← e_s, ← e_n]; exact hl
            refine lv_aload_n hx hb dX7_pulled_59 rfl (lv_at hl 2 rfl) ?_
            refine va_get (D := D) (ci := 7) (v := .ref o) (C := RX7) (T := TX7) (N := 12) hx hb hts i_X7 hown hK.1 hP 0 rfl rfl 7 (by decide) f_31 (fun _ h9 => h9) rfl dX7_pulled_60 ?_
            refine lv_iload_n hx hb dX7_pulled_63 rfl (lv_at hl 3 rfl) ?_
            refine lv_iload_n hx hb dX7_pulled_64 rfl (lv_at hl 4 rfl) ?_
            refine m_wvV (As := [.int (nI (cN ve)), .int (nI (cN way))]) (rest := []) (wc := [(o, .inr (2, [.ref oc, .ref q0, .ref ra, .int (nI ll), .int (nI lo), .int (nI lt)])), (q0, .inr (3, [.ref q1, .int (nI n1), .int (nI n2)])), (q1, aN cI 26 pt), (ra, aN cI 400 rc), (oc, .inr (0, [.ref a1, .ref a2, .int (nI nl), .int (nI nv)])), (a1, aN cI 640 g), (a2, aN cI 80 z)]) hcf (k_X2_compareAll (l := l) (D := D) (cI := cI) (cZ := cZ) (v := cN ve) (way := cN way) (o := o) (oc := oc) (q0 := q0) (ra := ra) (ll := ll) (lo := lo) (lt := lt) (q1 := q1) (n1 := n1) (n2 := n2) (pt := pt) (rc := rc) (a1 := a1) (a2 := a2) (nl := nl) (nv := nv) (g := g) (z := z) (hnl := hnl) (hnv := hnv) (hz := hz) (hg := hg) (hpt := hpt) (hrc := hrc) (hw := by omega) (hv := by omega)) (cwV 2 hts gX7_pulled_X2_compareAll rfl rfl rfl yd_X2_compareAll ⟨Nat.le_of_ble_eq_true rfl, Nat.le_of_ble_eq_true rfl⟩) hK hP hD hS [1, 2, 3, 4, 5, 6, 7] (by decide) rfl rfl rfl rfl hl.1 rfl (Nat.le_of_ble_eq_true rfl) dX7_pulled_65 ⟨Nat.zero_le _, Nat.zero_le _⟩ (fun _ => rfl) (fun (u : Nat × Nat × (Nat → Nat) × (Nat → Nat)) => [(x, .inr (7, [.ref oc, .ref oz, .ref oy, .int (nI k0), .int (nI k1), .ref pa, .int (nI ps), .ref o, .ref o5, .ref o4, .ref o6, .ref o1])), (o, .inr (2, [.ref oc, .ref q0, .ref ra, .int (nI ll), .int (nI lo), .int (nI lt)])), (q0, .inr (3, [.ref q1, .int (nI u.1), .int (nI u.2.1)])), (q1, aN cI 26 u.2.2.1), (ra, aN cI 400 u.2.2.2), (oc, .inr (0, [.ref a1, .ref a2, .int (nI nl), .int (nI nv)])), (a1, aN cI 640 g), (a2, aN cI 80 z), (o5, .inr (5, [.ref oc, .ref o, .ref s5, .int (nI va), .int (nI tc), .int (nI ts), .int (nI tn), .int (nI td), .int sv])), (s5, aN cI 20 st)]) (fun _ => rfl) (fun u H locs hp_65 hP hD hS => ?_)
            obtain ⟨n1u_65, n2u_65, ptu_65, rcu_65⟩ := u
            have hP : va_P D vwCl [(x, .inr (7, [.ref oc, .ref oz, .ref oy, .int (nI k0), .int (nI k1), .ref pa, .int (nI ps), .ref o, .ref o5, .ref o4, .ref o6, .ref o1])), (o, .inr (2, [.ref oc, .ref q0, .ref ra, .int (nI ll), .int (nI lo), .int (nI lt)])), (q0, .inr (3, [.ref q1, .int (nI n1u_65), .int (nI n2u_65)])), (q1, aN cI 26 ptu_65), (ra, aN cI 400 rcu_65), (oc, .inr (0, [.ref a1, .ref a2, .int (nI nl), .int (nI nv)])), (a1, aN cI 640 g), (a2, aN cI 80 z), (o5, .inr (5, [.ref oc, .ref o, .ref s5, .int (nI va), .int (nI tc), .int (nI ts), .int (nI tn), .int (nI td), .int sv])), (s5, aN cI 20 st)] H := hP
            have hD : va_D A [(x, .inr (7, [.ref oc, .ref oz, .ref oy, .int (nI k0), .int (nI k1), .ref pa, .int (nI ps), .ref o, .ref o5, .ref o4, .ref o6, .ref o1])), (o, .inr (2, [.ref oc, .ref q0, .ref ra, .int (nI ll), .int (nI lo), .int (nI lt)])), (q0, .inr (3, [.ref q1, .int (nI n1u_65), .int (nI n2u_65)])), (q1, aN cI 26 ptu_65), (ra, aN cI 400 rcu_65), (oc, .inr (0, [.ref a1, .ref a2, .int (nI nl), .int (nI nv)])), (a1, aN cI 640 g), (a2, aN cI 80 z), (o5, .inr (5, [.ref oc, .ref o, .ref s5, .int (nI va), .int (nI tc), .int (nI ts), .int (nI tn), .int (nI td), .int sv])), (s5, aN cI 20 st)] := hD
            try dsimp only at hp_65
            refine lv_aload_n hx hb dX7_pulled_68 rfl (lv_at hl 2 rfl) ?_
            refine va_get (D := D) (ci := 7) (v := .ref o5) (C := RX7) (T := TX7) (N := 12) hx hb hts i_X7 hown hK.1 hP 0 rfl rfl 8 (by decide) f_40 (fun _ h9 => h9) rfl dX7_pulled_69 ?_
            refine lv_iload_n hx hb dX7_pulled_72 rfl (lv_at hl 3 rfl) ?_
            refine lv_iload_n hx hb dX7_pulled_73 rfl (lv_at hl 5 rfl) ?_
            refine lv_iload hx hb dX7_pulled_74 (lv_at hl 6 rfl) ?_
            refine m_wvV (As := [.int (nI (cN ve)), .int (nI (cN sta)), .int (nI (cN n))]) (rest := []) (wc := [(o5, .inr (5, [.ref oc, .ref o, .ref s5, .int (nI va), .int (nI tc), .int (nI ts), .int (nI tn), .int (nI td), .int sv])), (s5, aN cI 20 st), (o, .inr (2, [.ref oc, .ref q0, .ref ra, .int (nI ll), .int (nI lo), .int (nI lt)])), (q0, .inr (3, [.ref q1, .int (nI n1u_65), .int (nI n2u_65)])), (q1, aN cI 26 ptu_65), (ra, aN cI 400 rcu_65), (oc, .inr (0, [.ref a1, .ref a2, .int (nI nl), .int (nI nv)])), (a1, aN cI 640 g), (a2, aN cI 80 z)]) hcf (k_X5_pullOut (l := l) (D := D) (cI := cI) (cZ := cZ) (v := cN ve) (start := cN sta) (n := cN n) (o5 := o5) (oc := oc) (o := o) (s5 := s5) (va := va) (tc := tc) (ts := ts) (tn := tn) (td := td) (sv := sv) (st := st) (q0 := q0) (ra := ra) (ll := ll) (lo := lo) (lt := lt) (q1 := q1) (n1 := n1u_65) (n2 := n2u_65) (pt := ptu_65) (rc := rcu_65) (a1 := a1) (a2 := a2) (nl := nl) (nv := nv) (g := g) (z := z) (hnl := hnl) (hnv := hnv) (hz := hz) (hg := hg) (hrc := hp_65.2.1) (hv := by omega) (h1 := by omega) (hn1 := by omega) (hn := by omega) (hgp := fun t h => (slN_end hp_65.1 i_n h).1)) (cwV 3 hts gX7_pulled_X5_pullOut rfl rfl rfl yd_X5_pullOut ⟨Nat.le_of_ble_eq_true rfl, Nat.le_of_ble_eq_true rfl⟩) hK hP hD hS [8, 9, 1, 2, 3, 4, 5, 6, 7] (by decide) rfl rfl rfl rfl hl.1 rfl (Nat.le_of_ble_eq_true rfl) dX7_pulled_76 ⟨Nat.zero_le _, Nat.zero_le _⟩ (fun _ => rfl) (fun (u : (Nat → Nat)) => [(x, .inr (7, [.ref oc, .ref oz, .ref oy, .int (nI k0), .int (nI k1), .ref pa, .int (nI ps), .ref o, .ref o5, .ref o4, .ref o6, .ref o1])), (o, .inr (2, [.ref oc, .ref q0, .ref ra, .int (nI ll), .int (nI lo), .int (nI lt)])), (q0, .inr (3, [.ref q1, .int (nI n1u_65), .int (nI n2u_65)])), (q1, aN cI 26 ptu_65), (ra, aN cI 400 rcu_65), (oc, .inr (0, [.ref a1, .ref a2, .int (nI nl), .int (nI nv)])), (a1, aN cI 640 g), (a2, aN cI 80 z), (o5, .inr (5, [.ref oc, .ref o, .ref s5, .int (nI (cN ve)), .int (nI ((tkF (slN rcu_65 nl (cN sta) (cN n)) (cN n) 20).2.2.2)), .int (nI ((tkF (slN rcu_65 nl (cN sta) (cN n)) (cN n) 20).1)), .int (nI ((tkF (slN rcu_65 nl (cN sta) (cN n)) (cN n) 20).2.2.1)), .int (nI (toN z g (cN ve) nl rcu_65 (cN sta) (cN n))), .int (svI (tkF (slN rcu_65 nl (cN sta) (cN n)) (cN n) 20).2.2.2 (cN n) (toN z g (cN ve) nl rcu_65 (cN sta) (cN n)))])), (s5, aN cI 20 u)]) (fun _ => rfl) (fun u H locs hp_76 hP hD hS => ?_)
            obtain ⟨stu_76, rfl⟩ : ∃ z, z = u := ⟨_, rfl⟩
            have hP : va_P D vwCl [(x, .inr (7, [.ref oc, .ref oz, .ref oy, .int (nI k0), .int (nI k1), .ref pa, .int (nI ps), .ref o, .ref o5, .ref o4, .ref o6, .ref o1])), (o, .inr (2, [.ref oc, .ref q0, .ref ra, .int (nI ll), .int (nI lo), .int (nI lt)])), (q0, .inr (3, [.ref q1, .int (nI n1u_65), .int (nI n2u_65)])), (q1, aN cI 26 ptu_65), (ra, aN cI 400 rcu_65), (oc, .inr (0, [.ref a1, .ref a2, .int (nI nl), .int (nI nv)])), (a1, aN cI 640 g), (a2, aN cI 80 z), (o5, .inr (5, [.ref oc, .ref o, .ref s5, .int (nI (cN ve)), .int (nI ((tkF (slN rcu_65 nl (cN sta) (cN n)) (cN n) 20).2.2.2)), .int (nI ((tkF (slN rcu_65 nl (cN sta) (cN n)) (cN n) 20).1)), .int (nI ((tkF (slN rcu_65 nl (cN sta) (cN n)) (cN n) 20).2.2.1)), .int (nI (toN z g (cN ve) nl rcu_65 (cN sta) (cN n))), .int (svI (tkF (slN rcu_65 nl (cN sta) (cN n)) (cN n) 20).2.2.2 (cN n) (toN z g (cN ve) nl rcu_65 (cN sta) (cN n)))])), (s5, aN cI 20 stu_76)] H := hP
            have hD : va_D A [(x, .inr (7, [.ref oc, .ref oz, .ref oy, .int (nI k0), .int (nI k1), .ref pa, .int (nI ps), .ref o, .ref o5, .ref o4, .ref o6, .ref o1])), (o, .inr (2, [.ref oc, .ref q0, .ref ra, .int (nI ll), .int (nI lo), .int (nI lt)])), (q0, .inr (3, [.ref q1, .int (nI n1u_65), .int (nI n2u_65)])), (q1, aN cI 26 ptu_65), (ra, aN cI 400 rcu_65), (oc, .inr (0, [.ref a1, .ref a2, .int (nI nl), .int (nI nv)])), (a1, aN cI 640 g), (a2, aN cI 80 z), (o5, .inr (5, [.ref oc, .ref o, .ref s5, .int (nI (cN ve)), .int (nI ((tkF (slN rcu_65 nl (cN sta) (cN n)) (cN n) 20).2.2.2)), .int (nI ((tkF (slN rcu_65 nl (cN sta) (cN n)) (cN n) 20).1)), .int (nI ((tkF (slN rcu_65 nl (cN sta) (cN n)) (cN n) 20).2.2.1)), .int (nI (toN z g (cN ve) nl rcu_65 (cN sta) (cN n))), .int (svI (tkF (slN rcu_65 nl (cN sta) (cN n)) (cN n) 20).2.2.2 (cN n) (toN z g (cN ve) nl rcu_65 (cN sta) (cN n)))])), (s5, aN cI 20 stu_76)] := hD
            try dsimp only at hp_76
            refine lv_aload_n hx hb dX7_pulled_79 rfl (lv_at hl 2 rfl) ?_
            refine va_get (D := D) (ci := 7) (v := .ref o5) (C := RX7) (T := TX7) (N := 12) hx hb hts i_X7 hown hK.1 hP 0 rfl rfl 8 (by decide) f_40 (fun _ h9 => h9) rfl dX7_pulled_80 ?_
            refine va_getN (D := D) (ci := 5) (v := .int (nI ((tkF (slN rcu_65 nl (cN sta) (cN n)) (cN n) 20).2.2.2))) (C := RX5) (T := TX5) (N := 9) hx hb hts i_X5 hown hK.1 hP 8 rfl rfl 4 (by decide) fn_164 (fun _ h9 => h9) rfl dX7_pulled_83 ?_
            refine lv_iconst (v := nI 2) hx hb dX7_pulled_86 (by decide) ?_
            refine m_cmp_ge (tgt := 94) hx hb dX7_pulled_87 (by decide) (by have := (tkI_ok (gr := slN rcu_65 nl (cN sta) (cN n)) (n := cN n) (fun t h => Nat.le_trans (slN_end hp_65.1 i_n h).1 hnl) 20).2.2.1; omega) (by omega) (fun c_87 => ?_) (fun c_87 => ?_)
            · refine lv_iload hx hb dX7_pulled_94 (lv_at hl 7 rfl) ?_
              refine lv_if_ne (tgt := 107) hx hb dX7_pulled_96 (by decide) (fun c_96 => ?_) (fun c_96 => ?_)
              · refine lv_iload hx hb dX7_pulled_107 (lv_at hl 7 rfl) ?_
                refine lv_iconst (v := nI 1) hx hb dX7_pulled_109 (by decide) ?_
                refine lv_icmp_ne (tgt := 123) hx hb dX7_pulled_110 (by decide) (fun c_110 => ?_) (fun c_110 => ?_)
                · refine lv_aload_n hx hb dX7_pulled_123 rfl (lv_at hl 2 rfl) ?_
                  refine va_get (D := D) (ci := 7) (v := .ref o5) (C := RX7) (T := TX7) (N := 12) hx hb hts i_X7 hown hK.1 hP 0 rfl rfl 8 (by decide) f_40 (fun _ h9 => h9) rfl dX7_pulled_124 ?_
                  refine va_getN (D := D) (ci := 5) (v := .int (svI (tkF (slN rcu_65 nl (cN sta) (cN n)) (cN n) 20).2.2.2 (cN n) (toN z g (cN ve) nl rcu_65 (cN sta) (cN n)))) (C := RX5) (T := TX5) (N := 9) hx hb hts i_X5 hown hK.1 hP 8 rfl rfl 8 (by decide) fn_173 (fun _ h9 => h9) rfl dX7_pulled_127 ?_
                  rw [hQ]
                  exact m_iwr hx hb hr hlocks (n1u_65, n2u_65, ptu_65, rcu_65, (cN ve), (tkF (slN rcu_65 nl (cN sta) (cN n)) (cN n) 20).2.2.2, (tkF (slN rcu_65 nl (cN sta) (cN n)) (cN n) 20).1, (tkF (slN rcu_65 nl (cN sta) (cN n)) (cN n) 20).2.2.1, toN z g (cN ve) nl rcu_65 (cN sta) (cN n), svI (tkF (slN rcu_65 nl (cN sta) (cN n)) (cN n) 20).2.2.2 (cN n) (toN z g (cN ve) nl rcu_65 (cN sta) (cN n)), stu_76) (⟨by rw [plQ_v K_v KI, ← slN_C hnl hp_65.1, ← toN_C hnl hp_65.1]; unfold plR; rw [if_neg (by omega), if_neg c_96, if_neg (show ¬ wh = 1 from c_110)], hp_65.2.2, hp_65.2.1⟩) hP hS dX7_pulled_130
                · refine lv_aload_n hx hb dX7_pulled_113 rfl (lv_at hl 2 rfl) ?_
                  refine va_get (D := D) (ci := 7) (v := .ref o5) (C := RX7) (T := TX7) (N := 12) hx hb hts i_X7 hown hK.1 hP 0 rfl rfl 8 (by decide) f_40 (fun _ h9 => h9) rfl dX7_pulled_114 ?_
                  refine va_getN (D := D) (ci := 5) (v := .int (nI (toN z g (cN ve) nl rcu_65 (cN sta) (cN n)))) (C := RX5) (T := TX5) (N := 9) hx hb hts i_X5 hown hK.1 hP 8 rfl rfl 7 (by decide) fn_170 (fun _ h9 => h9) rfl dX7_pulled_117 ?_
                  refine lv_goto (tgt := 130) hx hb dX7_pulled_120 (by decide) ?_
                  rw [hQ]
                  exact m_iwr hx hb hr hlocks (n1u_65, n2u_65, ptu_65, rcu_65, (cN ve), (tkF (slN rcu_65 nl (cN sta) (cN n)) (cN n) 20).2.2.2, (tkF (slN rcu_65 nl (cN sta) (cN n)) (cN n) 20).1, (tkF (slN rcu_65 nl (cN sta) (cN n)) (cN n) 20).2.2.1, toN z g (cN ve) nl rcu_65 (cN sta) (cN n), svI (tkF (slN rcu_65 nl (cN sta) (cN n)) (cN n) 20).2.2.2 (cN n) (toN z g (cN ve) nl rcu_65 (cN sta) (cN n)), stu_76) (⟨by rw [plQ_v K_v KI, ← slN_C hnl hp_65.1, ← toN_C hnl hp_65.1]; unfold plR; rw [if_neg (by omega), if_neg c_96, if_pos (show wh = 1 from c_110)], hp_65.2.2, hp_65.2.1⟩) hP hS dX7_pulled_130
              · refine lv_aload_n hx hb dX7_pulled_99 rfl (lv_at hl 2 rfl) ?_
                refine va_get (D := D) (ci := 7) (v := .ref o5) (C := RX7) (T := TX7) (N := 12) hx hb hts i_X7 hown hK.1 hP 0 rfl rfl 8 (by decide) f_40 (fun _ h9 => h9) rfl dX7_pulled_100 ?_
                refine va_getN (D := D) (ci := 5) (v := .int (nI ((tkF (slN rcu_65 nl (cN sta) (cN n)) (cN n) 20).1))) (C := RX5) (T := TX5) (N := 9) hx hb hts i_X5 hown hK.1 hP 8 rfl rfl 5 (by decide) fn_167 (fun _ h9 => h9) rfl dX7_pulled_103 ?_
                rw [hQ]
                exact m_iwr hx hb hr hlocks (n1u_65, n2u_65, ptu_65, rcu_65, (cN ve), (tkF (slN rcu_65 nl (cN sta) (cN n)) (cN n) 20).2.2.2, (tkF (slN rcu_65 nl (cN sta) (cN n)) (cN n) 20).1, (tkF (slN rcu_65 nl (cN sta) (cN n)) (cN n) 20).2.2.1, toN z g (cN ve) nl rcu_65 (cN sta) (cN n), svI (tkF (slN rcu_65 nl (cN sta) (cN n)) (cN n) 20).2.2.2 (cN n) (toN z g (cN ve) nl rcu_65 (cN sta) (cN n)), stu_76) (⟨by rw [plQ_v K_v KI, ← slN_C hnl hp_65.1, ← toN_C hnl hp_65.1]; unfold plR; rw [if_neg (by omega), if_pos c_96], hp_65.2.2, hp_65.2.1⟩) hP hS dX7_pulled_106
            · refine lv_sipush (v := (-1005)) hx hb dX7_pulled_90 (by decide) ?_
              rw [hQ]
              exact m_iwr hx hb hr hlocks (n1u_65, n2u_65, ptu_65, rcu_65, (cN ve), (tkF (slN rcu_65 nl (cN sta) (cN n)) (cN n) 20).2.2.2, (tkF (slN rcu_65 nl (cN sta) (cN n)) (cN n) 20).1, (tkF (slN rcu_65 nl (cN sta) (cN n)) (cN n) 20).2.2.1, toN z g (cN ve) nl rcu_65 (cN sta) (cN n), svI (tkF (slN rcu_65 nl (cN sta) (cN n)) (cN n) 20).2.2.2 (cN n) (toN z g (cN ve) nl rcu_65 (cN sta) (cN n)), stu_76) (⟨by rw [plQ_v K_v KI, ← slN_C hnl hp_65.1, ← toN_C hnl hp_65.1]; unfold plR; rw [if_pos c_87], hp_65.2.2, hp_65.2.1⟩) hP hS dX7_pulled_93
          · refine lv_sipush (v := (-1000)) hx hb dX7_pulled_52 (by decide) ?_
            refine lv_iload hx hb dX7_pulled_55 (lv_at hl 0 rfl) ?_
            refine lv_iadd hx hb dX7_pulled_57 ?_
            rw [hQ]
            exact m_iwr hx hb hr hlocks (n1, n2, pt, rc, va, tc, ts, tn, td, sv, st) (⟨plQ_n c_49 (by first | (simp [c_4, c_11, c_19, c_28]; done) | (simp [c_4]; done) | (simp [c_11]; done) | (simp [c_19]; done) | (simp [c_28]; done)), hpt, hrc⟩) hP hS dX7_pulled_58

theorem yd_X7_best : yX7_best.cls = RX7 ∧ yX7_best.cls ≠ "java/lang/invoke/MethodHandle" ∧ yX7_best.cls ≠ "java/lang/invoke/VarHandle" ∧ (parseMethodDescriptor yX7_best.desc).map (fun d => d.parameters.length) = some 3 := by decide +kernel
set_option maxHeartbeats 4000000 in
set_option maxRecDepth 100000 in
theorem k_X7_best (l : Launch) (D : va_G) (cI cZ : ClassId) (x oz oy k0 k1 pa ps o5 o4 o6 o1 : Nat) (o q0 q1 ra oc a1 a2 ll lo lt n1 n2 nl nv : Nat) (pt rc z g : Nat → Nat) (s5 va tc ts tn td : Nat) (sv : Int32) (st : Nat → Nat) (s4 l4 ct bs bt bl : Nat) (sa li : Nat → Nat) (ve way wh : Int32) (hnl : nl ≤ 20) (hnv : nv ≤ 4) (hz : ∀ j, z j ≤ 8) (hg : ∀ j, g j ≤ 126) (hpt : ∀ j, pt j ≤ 126) (hrc : ∀ j, rc j ≤ 20) (hsa : ∀ j, sa j ≤ 1000) (hli : ∀ j, li j < 2 ^ 20) : Met l yX7_best wsX7_best ({ frames := 6, cells := 0, slots := 0, locals := 148 }) (mPc [.ref x, .int ve, .int way, .int wh] D cI cZ [(x, .inr (7, [.ref oc, .ref oz, .ref oy, .int (nI k0), .int (nI k1), .ref pa, .int (nI ps), .ref o, .ref o5, .ref o4, .ref o6, .ref o1])), (o, .inr (2, [.ref oc, .ref q0, .ref ra, .int (nI ll), .int (nI lo), .int (nI lt)])), (q0, .inr (3, [.ref q1, .int (nI n1), .int (nI n2)])), (q1, aN cI 26 pt), (ra, aN cI 400 rc), (oc, .inr (0, [.ref a1, .ref a2, .int (nI nl), .int (nI nv)])), (a1, aN cI 640 g), (a2, aN cI 80 z), (o5, .inr (5, [.ref oc, .ref o, .ref s5, .int (nI va), .int (nI tc), .int (nI ts), .int (nI tn), .int (nI td), .int sv])), (s5, aN cI 20 st), (o4, .inr (4, [.ref oc, .ref o, .ref o5, .ref s4, .ref l4, .int (nI ct), .int (nI bs), .int (nI bt), .int (nI bl)])), (s4, aN cI 200 sa), (l4, aN cI 200 li)]) (mQi D (mA [(x, .inr (7, [.ref oc, .ref oz, .ref oy, .int (nI k0), .int (nI k1), .ref pa, .int (nI ps), .ref o, .ref o5, .ref o4, .ref o6, .ref o1])), (o, .inr (2, [.ref oc, .ref q0, .ref ra, .int (nI ll), .int (nI lo), .int (nI lt)])), (q0, .inr (3, [.ref q1, .int (nI n1), .int (nI n2)])), (q1, aN cI 26 pt), (ra, aN cI 400 rc), (oc, .inr (0, [.ref a1, .ref a2, .int (nI nl), .int (nI nv)])), (a1, aN cI 640 g), (a2, aN cI 80 z), (o5, .inr (5, [.ref oc, .ref o, .ref s5, .int (nI va), .int (nI tc), .int (nI ts), .int (nI tn), .int (nI td), .int sv])), (s5, aN cI 20 st), (o4, .inr (4, [.ref oc, .ref o, .ref o5, .ref s4, .ref l4, .int (nI ct), .int (nI bs), .int (nI bt), .int (nI bl)])), (s4, aN cI 200 sa), (l4, aN cI 200 li)]) (fun (r : Int32) (u : Nat × Nat × (Nat → Nat) × (Nat → Nat) × Nat × Nat × Nat × Nat × Nat × Int32 × (Nat → Nat) × Nat × Nat × Nat × Nat × (Nat → Nat) × (Nat → Nat)) => r = rfQ nv ve (ixB way 3 && ixB wh 3) (beR (allL (cvO z g (cN ve) nl (rcC (cN way) z g (cN ve) nl)) nl nl) wh) ∧ (∀ j, u.2.2.1 j ≤ 126) ∧ (∀ j, u.2.2.2.1 j ≤ 20) ∧ (∀ j, u.2.2.2.2.2.2.2.2.2.2.2.2.2.2.2.1 j ≤ 1000) ∧ (∀ j, u.2.2.2.2.2.2.2.2.2.2.2.2.2.2.2.2 j < 2 ^ 20)) (fun (u : Nat × Nat × (Nat → Nat) × (Nat → Nat) × Nat × Nat × Nat × Nat × Nat × Int32 × (Nat → Nat) × Nat × Nat × Nat × Nat × (Nat → Nat) × (Nat → Nat)) => [(x, .inr (7, [.ref oc, .ref oz, .ref oy, .int (nI k0), .int (nI k1), .ref pa, .int (nI ps), .ref o, .ref o5, .ref o4, .ref o6, .ref o1])), (o, .inr (2, [.ref oc, .ref q0, .ref ra, .int (nI ll), .int (nI lo), .int (nI lt)])), (q0, .inr (3, [.ref q1, .int (nI u.1), .int (nI u.2.1)])), (q1, aN cI 26 u.2.2.1), (ra, aN cI 400 u.2.2.2.1), (oc, .inr (0, [.ref a1, .ref a2, .int (nI nl), .int (nI nv)])), (a1, aN cI 640 g), (a2, aN cI 80 z), (o5, .inr (5, [.ref oc, .ref o, .ref s5, .int (nI u.2.2.2.2.1), .int (nI u.2.2.2.2.2.1), .int (nI u.2.2.2.2.2.2.1), .int (nI u.2.2.2.2.2.2.2.1), .int (nI u.2.2.2.2.2.2.2.2.1), .int u.2.2.2.2.2.2.2.2.2.1])), (s5, aN cI 20 u.2.2.2.2.2.2.2.2.2.2.1), (o4, .inr (4, [.ref oc, .ref o, .ref o5, .ref s4, .ref l4, .int (nI u.2.2.2.2.2.2.2.2.2.2.2.1), .int (nI u.2.2.2.2.2.2.2.2.2.2.2.2.1), .int (nI u.2.2.2.2.2.2.2.2.2.2.2.2.2.1), .int (nI u.2.2.2.2.2.2.2.2.2.2.2.2.2.2.1)])), (s4, aN cI 200 u.2.2.2.2.2.2.2.2.2.2.2.2.2.2.2.1), (l4, aN cI 200 u.2.2.2.2.2.2.2.2.2.2.2.2.2.2.2.2)])) 0 0 (mA [(x, .inr (7, [.ref oc, .ref oz, .ref oy, .int (nI k0), .int (nI k1), .ref pa, .int (nI ps), .ref o, .ref o5, .ref o4, .ref o6, .ref o1])), (o, .inr (2, [.ref oc, .ref q0, .ref ra, .int (nI ll), .int (nI lo), .int (nI lt)])), (q0, .inr (3, [.ref q1, .int (nI n1), .int (nI n2)])), (q1, aN cI 26 pt), (ra, aN cI 400 rc), (oc, .inr (0, [.ref a1, .ref a2, .int (nI nl), .int (nI nv)])), (a1, aN cI 640 g), (a2, aN cI 80 z), (o5, .inr (5, [.ref oc, .ref o, .ref s5, .int (nI va), .int (nI tc), .int (nI ts), .int (nI tn), .int (nI td), .int sv])), (s5, aN cI 20 st), (o4, .inr (4, [.ref oc, .ref o, .ref o5, .ref s4, .ref l4, .int (nI ct), .int (nI bs), .int (nI bt), .int (nI bl)])), (s4, aN cI 200 sa), (l4, aN cI 200 li)]) := by
  refine Met.ofW (cc := cX7_best) (maxL := 5) (ret := (some .int)) (by decide) rfl ?_
  intro p e s m args below meth c s₁ BB hml hv
  obtain ⟨hargs, hP, hD0, hK⟩ := hv
  have hx := BB.exec
  have hb := BB.bytes
  have hr := BB.returns
  have hts := atoms_spec (ws := wsX7_best) BB.pre
  have hown : s.vm.findClass RX7 = some m.cls := findClass_of_methodNamed BB.named
  have hlocks := BB.notSynchronized
  have hcf : CallFix p m c cX7_best 5 s args wsX7_best RX7 := ⟨hx, hb, hml, hown, hts⟩
  obtain ⟨A, hAe⟩ : ∃ A, A = mA [(x, .inr (7, [.ref oc, .ref oz, .ref oy, .int (nI k0), .int (nI k1), .ref pa, .int (nI ps), .ref o, .ref o5, .ref o4, .ref o6, .ref o1])), (o, .inr (2, [.ref oc, .ref q0, .ref ra, .int (nI ll), .int (nI lo), .int (nI lt)])), (q0, .inr (3, [.ref q1, .int (nI n1), .int (nI n2)])), (q1, aN cI 26 pt), (ra, aN cI 400 rc), (oc, .inr (0, [.ref a1, .ref a2, .int (nI nl), .int (nI nv)])), (a1, aN cI 640 g), (a2, aN cI 80 z), (o5, .inr (5, [.ref oc, .ref o, .ref s5, .int (nI va), .int (nI tc), .int (nI ts), .int (nI tn), .int (nI td), .int sv])), (s5, aN cI 20 st), (o4, .inr (4, [.ref oc, .ref o, .ref o5, .ref s4, .ref l4, .int (nI ct), .int (nI bs), .int (nI bt), .int (nI bl)])), (s4, aN cI 200 sa), (l4, aN cI 200 li)] := ⟨_, rfl⟩
  have hD : va_D A [(x, .inr (7, [.ref oc, .ref oz, .ref oy, .int (nI k0), .int (nI k1), .ref pa, .int (nI ps), .ref o, .ref o5, .ref o4, .ref o6, .ref o1])), (o, .inr (2, [.ref oc, .ref q0, .ref ra, .int (nI ll), .int (nI lo), .int (nI lt)])), (q0, .inr (3, [.ref q1, .int (nI n1), .int (nI n2)])), (q1, aN cI 26 pt), (ra, aN cI 400 rc), (oc, .inr (0, [.ref a1, .ref a2, .int (nI nl), .int (nI nv)])), (a1, aN cI 640 g), (a2, aN cI 80 z), (o5, .inr (5, [.ref oc, .ref o, .ref s5, .int (nI va), .int (nI tc), .int (nI ts), .int (nI tn), .int (nI td), .int sv])), (s5, aN cI 20 st), (o4, .inr (4, [.ref oc, .ref o, .ref o5, .ref s4, .ref l4, .int (nI ct), .int (nI bs), .int (nI bt), .int (nI bl)])), (s4, aN cI 200 sa), (l4, aN cI 200 li)] := ⟨hD0.1, fun k q h => by rw [hAe]; exact ⟨k, q.2, h⟩⟩
  have hS : va_S A s.heap s.heap [] := va_S.rf
  rw [← hAe]
  rw [hargs, lg_entry_eq, ← hargs]
  have hl := lv_entry ([.ref x, .int ve, .int way, .int wh]) (n := 5) (Nat.le_of_ble_eq_true rfl)
  generalize (lg_sl ([.ref x, .int ve, .int way, .int wh]) ++ List.replicate (5 - (lg_sl ([.ref x, .int ve, .int way, .int wh])).length) Slot.unset).toArray = ls at hl ⊢
  have hl : lv_has ls 5 [(0, .ref x), (1, .int ve), (2, .int way), (3, .int wh)] := hl
  obtain ⟨Q, hQ⟩ : ∃ Q, Q = MQ below (mQi D A (fun (r : Int32) (u : Nat × Nat × (Nat → Nat) × (Nat → Nat) × Nat × Nat × Nat × Nat × Nat × Int32 × (Nat → Nat) × Nat × Nat × Nat × Nat × (Nat → Nat) × (Nat → Nat)) => r = rfQ nv ve (ixB way 3 && ixB wh 3) (beR (allL (cvO z g (cN ve) nl (rcC (cN way) z g (cN ve) nl)) nl nl) wh) ∧ (∀ j, u.2.2.1 j ≤ 126) ∧ (∀ j, u.2.2.2.1 j ≤ 20) ∧ (∀ j, u.2.2.2.2.2.2.2.2.2.2.2.2.2.2.2.1 j ≤ 1000) ∧ (∀ j, u.2.2.2.2.2.2.2.2.2.2.2.2.2.2.2.2 j < 2 ^ 20)) (fun (u : Nat × Nat × (Nat → Nat) × (Nat → Nat) × Nat × Nat × Nat × Nat × Nat × Int32 × (Nat → Nat) × Nat × Nat × Nat × Nat × (Nat → Nat) × (Nat → Nat)) => [(x, .inr (7, [.ref oc, .ref oz, .ref oy, .int (nI k0), .int (nI k1), .ref pa, .int (nI ps), .ref o, .ref o5, .ref o4, .ref o6, .ref o1])), (o, .inr (2, [.ref oc, .ref q0, .ref ra, .int (nI ll), .int (nI lo), .int (nI lt)])), (q0, .inr (3, [.ref q1, .int (nI u.1), .int (nI u.2.1)])), (q1, aN cI 26 u.2.2.1), (ra, aN cI 400 u.2.2.2.1), (oc, .inr (0, [.ref a1, .ref a2, .int (nI nl), .int (nI nv)])), (a1, aN cI 640 g), (a2, aN cI 80 z), (o5, .inr (5, [.ref oc, .ref o, .ref s5, .int (nI u.2.2.2.2.1), .int (nI u.2.2.2.2.2.1), .int (nI u.2.2.2.2.2.2.1), .int (nI u.2.2.2.2.2.2.2.1), .int (nI u.2.2.2.2.2.2.2.2.1), .int u.2.2.2.2.2.2.2.2.2.1])), (s5, aN cI 20 u.2.2.2.2.2.2.2.2.2.2.1), (o4, .inr (4, [.ref oc, .ref o, .ref o5, .ref s4, .ref l4, .int (nI u.2.2.2.2.2.2.2.2.2.2.2.1), .int (nI u.2.2.2.2.2.2.2.2.2.2.2.2.1), .int (nI u.2.2.2.2.2.2.2.2.2.2.2.2.2.1), .int (nI u.2.2.2.2.2.2.2.2.2.2.2.2.2.2.1)])), (s4, aN cI 200 u.2.2.2.2.2.2.2.2.2.2.2.2.2.2.2.1), (l4, aN cI 200 u.2.2.2.2.2.2.2.2.2.2.2.2.2.2.2.2)])) args s 0 0 A := ⟨_, rfl⟩
  rw [← hQ]
  have i_X7 : ∀ w ∈ u_ws RX7 TX7 12, w ∈ wsX7_best := by decide +kernel
  have f_31 := hts (.fieldLink RX7 31 "SameAgain" "likeness" "LSameAgain$Likeness;") (by decide +kernel)
  have f_49 := hts (.fieldLink RX7 49 "SameAgain" "plan" "LSameAgain$Plan;") (by decide +kernel)
  have fn_180 := va_Nw.use (A := args) rfl (hK.2.1 ("SameAgain", 180, "SameAgain$Plan", "bestSaved", "I", "SameAgain") (by decide +kernel))
  have i_X4 : ∀ w ∈ u_ws RX4 TX4 9, w ∈ wsX7_best := by decide +kernel
  have fn_186 := va_Nw.use (A := args) rfl (hK.2.1 ("SameAgain", 186, "SameAgain$Plan", "bestLength", "I", "SameAgain") (by decide +kernel))
  have fn_183 := va_Nw.use (A := args) rfl (hK.2.1 ("SameAgain", 183, "SameAgain$Plan", "bestStart", "I", "SameAgain") (by decide +kernel))
  refine lv_aload_n hx hb dX7_best_0 rfl (lv_at hl 0 rfl) ?_
  refine lv_iload_n hx hb dX7_best_1 rfl (lv_at hl 1 rfl) ?_
  refine lv_iload_n hx hb dX7_best_2 rfl (lv_at hl 2 rfl) ?_
  refine m_rdS (As := [.int way]) (rest := [.int ve, .ref x]) (wc := []) hcf (k_X7_isWay (l := l) (D := D) (cI := cI) (cZ := cZ) (a := way) ) (va_cwS 1 hts gX7_best_X7_isWay rfl rfl rfl yd_X7_isWay.2 ⟨Nat.le_of_ble_eq_true rfl, Nat.le_of_ble_eq_true rfl⟩) (m_preS hK hP hD [] (by decide) rfl) rfl hl.1 rfl (Nat.le_of_ble_eq_true rfl) dX7_best_3 ⟨Nat.zero_le _, Nat.zero_le _⟩ ?_
  refine m_ifB_eq (tgt := 21) hx hb dX7_best_6 (by decide) (fun c_6 => ?_) (fun c_6 => ?_)
  · refine lv_iconst (v := nI 0) hx hb dX7_best_21 (by decide) ?_
    refine m_rdV (As := [.int ve, .int (nI 0)]) (rest := []) (wc := [(x, .inr (7, [.ref oc, .ref oz, .ref oy, .int (nI k0), .int (nI k1), .ref pa, .int (nI ps), .ref o, .ref o5, .ref o4, .ref o6, .ref o1])), (oc, .inr (0, [.ref a1, .ref a2, .int (nI nl), .int (nI nv)])), (a1, aN cI 640 g), (a2, aN cI 80 z)]) hcf (k_X7_refusalIn (l := l) (D := D) (cI := cI) (cZ := cZ) (ve := ve) (b := false) (x := x) (oc := oc) (oz := oz) (oy := oy) (k0 := k0) (k1 := k1) (pa := pa) (ps := ps) (o := o) (o5 := o5) (o4 := o4) (o6 := o6) (o1 := o1) (a1 := a1) (a2 := a2) (nl := nl) (nv := nv) (g := g) (z := z) (hnl := hnl) (hnv := hnv)) (cwV 2 hts gX7_best_X7_refusalIn rfl rfl rfl yd_X7_refusalIn ⟨Nat.le_of_ble_eq_true rfl, Nat.le_of_ble_eq_true rfl⟩) (m_preV hK hP hD [0, 5, 6, 7] (by decide) rfl rfl rfl) rfl hl.1 rfl (Nat.le_of_ble_eq_true rfl) dX7_best_22 ⟨Nat.zero_le _, Nat.zero_le _⟩ ?_
    refine lv_istore (lv' := [(4, .int (rfQ nv ve false 0)), (0, .ref x), (1, .int ve), (2, .int way), (3, .int wh)]) hx hb dX7_best_25 hl (by decide) rfl (fun ls hl => ?_)
    refine lv_iload hx hb dX7_best_27 (lv_at hl 0 rfl) ?_
    refine lv_if_eq (tgt := 35) hx hb dX7_best_29 (by decide) (fun c_29 => ?_) (fun c_29 => ?_)
    · exact absurd (rfQ_0 c_29).2 (by decide)
    · refine lv_iload hx hb dX7_best_32 (lv_at hl 0 rfl) ?_
      rw [hQ]
      exact m_iwr hx hb hr hlocks (n1, n2, pt, rc, va, tc, ts, tn, td, sv, st, ct, bs, bt, bl, sa, li) (⟨rfQ_n c_29 (by first | (simp [c_6, c_14]; done) | (simp [c_6]; done) | (simp [c_14]; done)), hpt, hrc, hsa, hli⟩) hP hS dX7_best_34
  · refine lv_iload_n hx hb dX7_best_9 rfl (lv_at hl 3 rfl) ?_
    refine lv_iconst (v := nI 2) hx hb dX7_best_10 (by decide) ?_
    refine m_rdS (As := [.int wh, .int (nI 2)]) (rest := [.int ve, .ref x]) (wc := []) hcf (k_X7_isUpTo (l := l) (D := D) (cI := cI) (cZ := cZ) (a := wh) (b := 2) (hb9 := by omega)) (va_cwS 2 hts gX7_best_X7_isUpTo rfl rfl rfl yd_X7_isUpTo.2 ⟨Nat.le_of_ble_eq_true rfl, Nat.le_of_ble_eq_true rfl⟩) (m_preS hK hP hD [] (by decide) rfl) rfl hl.1 rfl (Nat.le_of_ble_eq_true rfl) dX7_best_11 ⟨Nat.zero_le _, Nat.zero_le _⟩ ?_
    refine m_ifB_eq (tgt := 21) hx hb dX7_best_14 (by decide) (fun c_14 => ?_) (fun c_14 => ?_)
    · refine lv_iconst (v := nI 0) hx hb dX7_best_21 (by decide) ?_
      refine m_rdV (As := [.int ve, .int (nI 0)]) (rest := []) (wc := [(x, .inr (7, [.ref oc, .ref oz, .ref oy, .int (nI k0), .int (nI k1), .ref pa, .int (nI ps), .ref o, .ref o5, .ref o4, .ref o6, .ref o1])), (oc, .inr (0, [.ref a1, .ref a2, .int (nI nl), .int (nI nv)])), (a1, aN cI 640 g), (a2, aN cI 80 z)]) hcf (k_X7_refusalIn (l := l) (D := D) (cI := cI) (cZ := cZ) (ve := ve) (b := false) (x := x) (oc := oc) (oz := oz) (oy := oy) (k0 := k0) (k1 := k1) (pa := pa) (ps := ps) (o := o) (o5 := o5) (o4 := o4) (o6 := o6) (o1 := o1) (a1 := a1) (a2 := a2) (nl := nl) (nv := nv) (g := g) (z := z) (hnl := hnl) (hnv := hnv)) (cwV 2 hts gX7_best_X7_refusalIn rfl rfl rfl yd_X7_refusalIn ⟨Nat.le_of_ble_eq_true rfl, Nat.le_of_ble_eq_true rfl⟩) (m_preV hK hP hD [0, 5, 6, 7] (by decide) rfl rfl rfl) rfl hl.1 rfl (Nat.le_of_ble_eq_true rfl) dX7_best_22 ⟨Nat.zero_le _, Nat.zero_le _⟩ ?_
      refine lv_istore (lv' := [(4, .int (rfQ nv ve false 0)), (0, .ref x), (1, .int ve), (2, .int way), (3, .int wh)]) hx hb dX7_best_25 hl (by decide) rfl (fun ls hl => ?_)
      refine lv_iload hx hb dX7_best_27 (lv_at hl 0 rfl) ?_
      refine lv_if_eq (tgt := 35) hx hb dX7_best_29 (by decide) (fun c_29 => ?_) (fun c_29 => ?_)
      · exact absurd (rfQ_0 c_29).2 (by decide)
      · refine lv_iload hx hb dX7_best_32 (lv_at hl 0 rfl) ?_
        rw [hQ]
        exact m_iwr hx hb hr hlocks (n1, n2, pt, rc, va, tc, ts, tn, td, sv, st, ct, bs, bt, bl, sa, li) (⟨rfQ_n c_29 (by first | (simp [c_6, c_14]; done) | (simp [c_6]; done) | (simp [c_14]; done)), hpt, hrc, hsa, hli⟩) hP hS dX7_best_34
    · refine lv_iconst (v := nI 1) hx hb dX7_best_17 (by decide) ?_
      refine lv_goto (tgt := 22) hx hb dX7_best_18 (by decide) ?_
      refine m_rdV (As := [.int ve, .int (nI 1)]) (rest := []) (wc := [(x, .inr (7, [.ref oc, .ref oz, .ref oy, .int (nI k0), .int (nI k1), .ref pa, .int (nI ps), .ref o, .ref o5, .ref o4, .ref o6, .ref o1])), (oc, .inr (0, [.ref a1, .ref a2, .int (nI nl), .int (nI nv)])), (a1, aN cI 640 g), (a2, aN cI 80 z)]) hcf (k_X7_refusalIn (l := l) (D := D) (cI := cI) (cZ := cZ) (ve := ve) (b := true) (x := x) (oc := oc) (oz := oz) (oy := oy) (k0 := k0) (k1 := k1) (pa := pa) (ps := ps) (o := o) (o5 := o5) (o4 := o4) (o6 := o6) (o1 := o1) (a1 := a1) (a2 := a2) (nl := nl) (nv := nv) (g := g) (z := z) (hnl := hnl) (hnv := hnv)) (cwV 2 hts gX7_best_X7_refusalIn rfl rfl rfl yd_X7_refusalIn ⟨Nat.le_of_ble_eq_true rfl, Nat.le_of_ble_eq_true rfl⟩) (m_preV hK hP hD [0, 5, 6, 7] (by decide) rfl rfl rfl) rfl hl.1 rfl (Nat.le_of_ble_eq_true rfl) dX7_best_22 ⟨Nat.zero_le _, Nat.zero_le _⟩ ?_
      refine lv_istore (lv' := [(4, .int (rfQ nv ve true 0)), (0, .ref x), (1, .int ve), (2, .int way), (3, .int wh)]) hx hb dX7_best_25 hl (by decide) rfl (fun ls hl => ?_)
      refine lv_iload hx hb dX7_best_27 (lv_at hl 0 rfl) ?_
      refine lv_if_eq (tgt := 35) hx hb dX7_best_29 (by decide) (fun c_29 => ?_) (fun c_29 => ?_)
      · have K_v := (rfQ_0 c_29).1
        have KI : (ixB way 3 && ixB wh 3) = true := by first | (simp [c_6, c_14]; done) | (simp [c_6]; done) | (simp [c_14]; done)
        obtain ⟨e_v, i_v⟩ := ixB_cN (by omega) K_v
        obtain ⟨e_w, i_w⟩ := ixB_cN (by decide) c_6
        have hl : lv_has ls 5 [(4, .int (rfQ nv ve true 0)), (0, .ref x), (1, .int (nI (cN ve))), (2, .int (nI (cN way))), (3, .int wh)] := by rw [← e_v, ← e_w]; exact hl
        refine lv_aload_n hx hb dX7_best_35 rfl (lv_at hl 1 rfl) ?_
        refine va_get (D := D) (ci := 7) (v := .ref o) (C := RX7) (T := TX7) (N := 12) hx hb hts i_X7 hown hK.1 hP 0 rfl rfl 7 (by decide) f_31 (fun _ h9 => h9) rfl dX7_best_36 ?_
        refine lv_iload_n hx hb dX7_best_39 rfl (lv_at hl 2 rfl) ?_
        refine lv_iload_n hx hb dX7_best_40 rfl (lv_at hl 3 rfl) ?_
        refine m_wvV (As := [.int (nI (cN ve)), .int (nI (cN way))]) (rest := []) (wc := [(o, .inr (2, [.ref oc, .ref q0, .ref ra, .int (nI ll), .int (nI lo), .int (nI lt)])), (q0, .inr (3, [.ref q1, .int (nI n1), .int (nI n2)])), (q1, aN cI 26 pt), (ra, aN cI 400 rc), (oc, .inr (0, [.ref a1, .ref a2, .int (nI nl), .int (nI nv)])), (a1, aN cI 640 g), (a2, aN cI 80 z)]) hcf (k_X2_compareAll (l := l) (D := D) (cI := cI) (cZ := cZ) (v := cN ve) (way := cN way) (o := o) (oc := oc) (q0 := q0) (ra := ra) (ll := ll) (lo := lo) (lt := lt) (q1 := q1) (n1 := n1) (n2 := n2) (pt := pt) (rc := rc) (a1 := a1) (a2 := a2) (nl := nl) (nv := nv) (g := g) (z := z) (hnl := hnl) (hnv := hnv) (hz := hz) (hg := hg) (hpt := hpt) (hrc := hrc) (hw := by omega) (hv := by omega)) (cwV 2 hts gX7_best_X2_compareAll rfl rfl rfl yd_X2_compareAll ⟨Nat.le_of_ble_eq_true rfl, Nat.le_of_ble_eq_true rfl⟩) hK hP hD hS [1, 2, 3, 4, 5, 6, 7] (by decide) rfl rfl rfl rfl hl.1 rfl (Nat.le_of_ble_eq_true rfl) dX7_best_41 ⟨Nat.zero_le _, Nat.zero_le _⟩ (fun _ => rfl) (fun (u : Nat × Nat × (Nat → Nat) × (Nat → Nat)) => [(x, .inr (7, [.ref oc, .ref oz, .ref oy, .int (nI k0), .int (nI k1), .ref pa, .int (nI ps), .ref o, .ref o5, .ref o4, .ref o6, .ref o1])), (o, .inr (2, [.ref oc, .ref q0, .ref ra, .int (nI ll), .int (nI lo), .int (nI lt)])), (q0, .inr (3, [.ref q1, .int (nI u.1), .int (nI u.2.1)])), (q1, aN cI 26 u.2.2.1), (ra, aN cI 400 u.2.2.2), (oc, .inr (0, [.ref a1, .ref a2, .int (nI nl), .int (nI nv)])), (a1, aN cI 640 g), (a2, aN cI 80 z), (o5, .inr (5, [.ref oc, .ref o, .ref s5, .int (nI va), .int (nI tc), .int (nI ts), .int (nI tn), .int (nI td), .int sv])), (s5, aN cI 20 st), (o4, .inr (4, [.ref oc, .ref o, .ref o5, .ref s4, .ref l4, .int (nI ct), .int (nI bs), .int (nI bt), .int (nI bl)])), (s4, aN cI 200 sa), (l4, aN cI 200 li)]) (fun _ => rfl) (fun u H locs hp_41 hP hD hS => ?_)
        obtain ⟨n1u_41, n2u_41, ptu_41, rcu_41⟩ := u
        have hP : va_P D vwCl [(x, .inr (7, [.ref oc, .ref oz, .ref oy, .int (nI k0), .int (nI k1), .ref pa, .int (nI ps), .ref o, .ref o5, .ref o4, .ref o6, .ref o1])), (o, .inr (2, [.ref oc, .ref q0, .ref ra, .int (nI ll), .int (nI lo), .int (nI lt)])), (q0, .inr (3, [.ref q1, .int (nI n1u_41), .int (nI n2u_41)])), (q1, aN cI 26 ptu_41), (ra, aN cI 400 rcu_41), (oc, .inr (0, [.ref a1, .ref a2, .int (nI nl), .int (nI nv)])), (a1, aN cI 640 g), (a2, aN cI 80 z), (o5, .inr (5, [.ref oc, .ref o, .ref s5, .int (nI va), .int (nI tc), .int (nI ts), .int (nI tn), .int (nI td), .int sv])), (s5, aN cI 20 st), (o4, .inr (4, [.ref oc, .ref o, .ref o5, .ref s4, .ref l4, .int (nI ct), .int (nI bs), .int (nI bt), .int (nI bl)])), (s4, aN cI 200 sa), (l4, aN cI 200 li)] H := hP
        have hD : va_D A [(x, .inr (7, [.ref oc, .ref oz, .ref oy, .int (nI k0), .int (nI k1), .ref pa, .int (nI ps), .ref o, .ref o5, .ref o4, .ref o6, .ref o1])), (o, .inr (2, [.ref oc, .ref q0, .ref ra, .int (nI ll), .int (nI lo), .int (nI lt)])), (q0, .inr (3, [.ref q1, .int (nI n1u_41), .int (nI n2u_41)])), (q1, aN cI 26 ptu_41), (ra, aN cI 400 rcu_41), (oc, .inr (0, [.ref a1, .ref a2, .int (nI nl), .int (nI nv)])), (a1, aN cI 640 g), (a2, aN cI 80 z), (o5, .inr (5, [.ref oc, .ref o, .ref s5, .int (nI va), .int (nI tc), .int (nI ts), .int (nI tn), .int (nI td), .int sv])), (s5, aN cI 20 st), (o4, .inr (4, [.ref oc, .ref o, .ref o5, .ref s4, .ref l4, .int (nI ct), .int (nI bs), .int (nI bt), .int (nI bl)])), (s4, aN cI 200 sa), (l4, aN cI 200 li)] := hD
        try dsimp only at hp_41
        refine lv_aload_n hx hb dX7_best_44 rfl (lv_at hl 1 rfl) ?_
        refine va_get (D := D) (ci := 7) (v := .ref o4) (C := RX7) (T := TX7) (N := 12) hx hb hts i_X7 hown hK.1 hP 0 rfl rfl 9 (by decide) f_49 (fun _ h9 => h9) rfl dX7_best_45 ?_
        refine lv_iload_n hx hb dX7_best_48 rfl (lv_at hl 2 rfl) ?_
        refine m_wvV (As := [.int (nI (cN ve))]) (rest := []) (wc := [(o4, .inr (4, [.ref oc, .ref o, .ref o5, .ref s4, .ref l4, .int (nI ct), .int (nI bs), .int (nI bt), .int (nI bl)])), (s4, aN cI 200 sa), (l4, aN cI 200 li), (o5, .inr (5, [.ref oc, .ref o, .ref s5, .int (nI va), .int (nI tc), .int (nI ts), .int (nI tn), .int (nI td), .int sv])), (s5, aN cI 20 st), (o, .inr (2, [.ref oc, .ref q0, .ref ra, .int (nI ll), .int (nI lo), .int (nI lt)])), (q0, .inr (3, [.ref q1, .int (nI n1u_41), .int (nI n2u_41)])), (q1, aN cI 26 ptu_41), (ra, aN cI 400 rcu_41), (oc, .inr (0, [.ref a1, .ref a2, .int (nI nl), .int (nI nv)])), (a1, aN cI 640 g), (a2, aN cI 80 z)]) hcf (k_X4_lookAtAll (l := l) (D := D) (cI := cI) (cZ := cZ) (v := cN ve) (o4 := o4) (oc := oc) (o := o) (o5 := o5) (s4 := s4) (l4 := l4) (ct := ct) (bs := bs) (bt := bt) (bl := bl) (sa := sa) (li := li) (s5 := s5) (va := va) (tc := tc) (ts := ts) (tn := tn) (td := td) (sv := sv) (st := st) (q0 := q0) (ra := ra) (ll := ll) (lo := lo) (lt := lt) (q1 := q1) (n1 := n1u_41) (n2 := n2u_41) (pt := ptu_41) (rc := rcu_41) (a1 := a1) (a2 := a2) (nl := nl) (nv := nv) (g := g) (z := z) (hnl := hnl) (hnv := hnv) (hz := hz) (hg := hg) (hrc := hp_41.2.1) (hsa := hsa) (hli := hli) (hv := by omega) (hgA := fun _ _ t h1 h => (slN_end hp_41.1 h1 h).1)) (cwV 1 hts gX7_best_X4_lookAtAll rfl rfl rfl yd_X4_lookAtAll ⟨Nat.le_of_ble_eq_true rfl, Nat.le_of_ble_eq_true rfl⟩) hK hP hD hS [10, 11, 12, 8, 9, 1, 2, 3, 4, 5, 6, 7] (by decide) rfl rfl rfl rfl hl.1 rfl (Nat.le_of_ble_eq_true rfl) dX7_best_49 ⟨Nat.zero_le _, Nat.zero_le _⟩ (fun _ => rfl) (fun (u : Nat × (Nat → Nat) × (Nat → Nat) × Nat × Nat × Nat × Nat × Nat × Nat × Nat × Nat × Int32 × (Nat → Nat)) => [(x, .inr (7, [.ref oc, .ref oz, .ref oy, .int (nI k0), .int (nI k1), .ref pa, .int (nI ps), .ref o, .ref o5, .ref o4, .ref o6, .ref o1])), (o, .inr (2, [.ref oc, .ref q0, .ref ra, .int (nI ll), .int (nI lo), .int (nI lt)])), (q0, .inr (3, [.ref q1, .int (nI n1u_41), .int (nI n2u_41)])), (q1, aN cI 26 ptu_41), (ra, aN cI 400 rcu_41), (oc, .inr (0, [.ref a1, .ref a2, .int (nI nl), .int (nI nv)])), (a1, aN cI 640 g), (a2, aN cI 80 z), (o5, .inr (5, [.ref oc, .ref o, .ref s5, .int (nI u.2.2.2.2.2.2.1), .int (nI u.2.2.2.2.2.2.2.1), .int (nI u.2.2.2.2.2.2.2.2.1), .int (nI u.2.2.2.2.2.2.2.2.2.1), .int (nI u.2.2.2.2.2.2.2.2.2.2.1), .int u.2.2.2.2.2.2.2.2.2.2.2.1])), (s5, aN cI 20 u.2.2.2.2.2.2.2.2.2.2.2.2), (o4, .inr (4, [.ref oc, .ref o, .ref o5, .ref s4, .ref l4, .int (nI u.1), .int (nI u.2.2.2.1), .int (nI u.2.2.2.2.1), .int (nI u.2.2.2.2.2.1)])), (s4, aN cI 200 u.2.1), (l4, aN cI 200 u.2.2.1)]) (fun _ => rfl) (fun u H locs hp_49 hP hD hS => ?_)
        obtain ⟨ctu_49, sau_49, liu_49, bsu_49, btu_49, blu_49, vau_49, tcu_49, tsu_49, tnu_49, tdu_49, svu_49, stu_49⟩ := u
        have hP : va_P D vwCl [(x, .inr (7, [.ref oc, .ref oz, .ref oy, .int (nI k0), .int (nI k1), .ref pa, .int (nI ps), .ref o, .ref o5, .ref o4, .ref o6, .ref o1])), (o, .inr (2, [.ref oc, .ref q0, .ref ra, .int (nI ll), .int (nI lo), .int (nI lt)])), (q0, .inr (3, [.ref q1, .int (nI n1u_41), .int (nI n2u_41)])), (q1, aN cI 26 ptu_41), (ra, aN cI 400 rcu_41), (oc, .inr (0, [.ref a1, .ref a2, .int (nI nl), .int (nI nv)])), (a1, aN cI 640 g), (a2, aN cI 80 z), (o5, .inr (5, [.ref oc, .ref o, .ref s5, .int (nI vau_49), .int (nI tcu_49), .int (nI tsu_49), .int (nI tnu_49), .int (nI tdu_49), .int svu_49])), (s5, aN cI 20 stu_49), (o4, .inr (4, [.ref oc, .ref o, .ref o5, .ref s4, .ref l4, .int (nI ctu_49), .int (nI bsu_49), .int (nI btu_49), .int (nI blu_49)])), (s4, aN cI 200 sau_49), (l4, aN cI 200 liu_49)] H := hP
        have hD : va_D A [(x, .inr (7, [.ref oc, .ref oz, .ref oy, .int (nI k0), .int (nI k1), .ref pa, .int (nI ps), .ref o, .ref o5, .ref o4, .ref o6, .ref o1])), (o, .inr (2, [.ref oc, .ref q0, .ref ra, .int (nI ll), .int (nI lo), .int (nI lt)])), (q0, .inr (3, [.ref q1, .int (nI n1u_41), .int (nI n2u_41)])), (q1, aN cI 26 ptu_41), (ra, aN cI 400 rcu_41), (oc, .inr (0, [.ref a1, .ref a2, .int (nI nl), .int (nI nv)])), (a1, aN cI 640 g), (a2, aN cI 80 z), (o5, .inr (5, [.ref oc, .ref o, .ref s5, .int (nI vau_49), .int (nI tcu_49), .int (nI tsu_49), .int (nI tnu_49), .int (nI tdu_49), .int svu_49])), (s5, aN cI 20 stu_49), (o4, .inr (4, [.ref oc, .ref o, .ref o5, .ref s4, .ref l4, .int (nI ctu_49), .int (nI bsu_49), .int (nI btu_49), .int (nI blu_49)])), (s4, aN cI 200 sau_49), (l4, aN cI 200 liu_49)] := hD
        try dsimp only at hp_49
        refine lv_aload_n hx hb dX7_best_52 rfl (lv_at hl 1 rfl) ?_
        refine va_get (D := D) (ci := 7) (v := .ref o4) (C := RX7) (T := TX7) (N := 12) hx hb hts i_X7 hown hK.1 hP 0 rfl rfl 9 (by decide) f_49 (fun _ h9 => h9) rfl dX7_best_53 ?_
        refine va_getN (D := D) (ci := 4) (v := .int (nI bsu_49)) (C := RX4) (T := TX4) (N := 9) hx hb hts i_X4 hown hK.1 hP 10 rfl rfl 6 (by decide) fn_180 (fun _ h9 => h9) rfl dX7_best_56 ?_
        refine m_if_ne (tgt := 65) hx hb dX7_best_59 (by decide) (by have := hp_49.1.2.2.2.2.1; omega) (fun c_59 => ?_) (fun c_59 => ?_)
        · refine lv_iload_n hx hb dX7_best_65 rfl (lv_at hl 4 rfl) ?_
          refine lv_if_ne (tgt := 77) hx hb dX7_best_66 (by decide) (fun c_66 => ?_) (fun c_66 => ?_)
          · refine lv_iload_n hx hb dX7_best_77 rfl (lv_at hl 4 rfl) ?_
            refine lv_iconst (v := nI 1) hx hb dX7_best_78 (by decide) ?_
            refine lv_icmp_ne (tgt := 92) hx hb dX7_best_79 (by decide) (fun c_79 => ?_) (fun c_79 => ?_)
            · refine lv_aload_n hx hb dX7_best_92 rfl (lv_at hl 1 rfl) ?_
              refine va_get (D := D) (ci := 7) (v := .ref o4) (C := RX7) (T := TX7) (N := 12) hx hb hts i_X7 hown hK.1 hP 0 rfl rfl 9 (by decide) f_49 (fun _ h9 => h9) rfl dX7_best_93 ?_
              refine va_getN (D := D) (ci := 4) (v := .int (nI blu_49)) (C := RX4) (T := TX4) (N := 9) hx hb hts i_X4 hown hK.1 hP 10 rfl rfl 8 (by decide) fn_186 (fun _ h9 => h9) rfl dX7_best_96 ?_
              rw [hQ]
              exact m_iwr hx hb hr hlocks (n1u_41, n2u_41, ptu_41, rcu_41, vau_49, tcu_49, tsu_49, tnu_49, tdu_49, svu_49, stu_49, ctu_49, bsu_49, btu_49, blu_49, sau_49, liu_49) (⟨by rw [rfQ_v K_v KI, ← cvO_C hnl hp_41.1]; rw [(beR_of hp_49.1 wh).2 c_59, if_neg c_66, if_neg (show ¬ wh = 1 from c_79)], hp_41.2.2, hp_41.2.1, hp_49.1.2.2.2.2.2.2.1, hp_49.1.2.2.2.2.2.2.2⟩) hP hS dX7_best_99
            · refine lv_aload_n hx hb dX7_best_82 rfl (lv_at hl 1 rfl) ?_
              refine va_get (D := D) (ci := 7) (v := .ref o4) (C := RX7) (T := TX7) (N := 12) hx hb hts i_X7 hown hK.1 hP 0 rfl rfl 9 (by decide) f_49 (fun _ h9 => h9) rfl dX7_best_83 ?_
              refine va_getN (D := D) (ci := 4) (v := .int (nI btu_49)) (C := RX4) (T := TX4) (N := 9) hx hb hts i_X4 hown hK.1 hP 10 rfl rfl 7 (by decide) fn_183 (fun _ h9 => h9) rfl dX7_best_86 ?_
              refine lv_goto (tgt := 99) hx hb dX7_best_89 (by decide) ?_
              rw [hQ]
              exact m_iwr hx hb hr hlocks (n1u_41, n2u_41, ptu_41, rcu_41, vau_49, tcu_49, tsu_49, tnu_49, tdu_49, svu_49, stu_49, ctu_49, bsu_49, btu_49, blu_49, sau_49, liu_49) (⟨by rw [rfQ_v K_v KI, ← cvO_C hnl hp_41.1]; rw [(beR_of hp_49.1 wh).2 c_59, if_neg c_66, if_pos (show wh = 1 from c_79)], hp_41.2.2, hp_41.2.1, hp_49.1.2.2.2.2.2.2.1, hp_49.1.2.2.2.2.2.2.2⟩) hP hS dX7_best_99
          · refine lv_aload_n hx hb dX7_best_69 rfl (lv_at hl 1 rfl) ?_
            refine va_get (D := D) (ci := 7) (v := .ref o4) (C := RX7) (T := TX7) (N := 12) hx hb hts i_X7 hown hK.1 hP 0 rfl rfl 9 (by decide) f_49 (fun _ h9 => h9) rfl dX7_best_70 ?_
            refine va_getN (D := D) (ci := 4) (v := .int (nI bsu_49)) (C := RX4) (T := TX4) (N := 9) hx hb hts i_X4 hown hK.1 hP 10 rfl rfl 6 (by decide) fn_180 (fun _ h9 => h9) rfl dX7_best_73 ?_
            rw [hQ]
            exact m_iwr hx hb hr hlocks (n1u_41, n2u_41, ptu_41, rcu_41, vau_49, tcu_49, tsu_49, tnu_49, tdu_49, svu_49, stu_49, ctu_49, bsu_49, btu_49, blu_49, sau_49, liu_49) (⟨by rw [rfQ_v K_v KI, ← cvO_C hnl hp_41.1]; rw [(beR_of hp_49.1 wh).2 c_59, if_pos c_66], hp_41.2.2, hp_41.2.1, hp_49.1.2.2.2.2.2.2.1, hp_49.1.2.2.2.2.2.2.2⟩) hP hS dX7_best_76
        · refine lv_bipush (v := (-6)) hx hb dX7_best_62 (by decide) ?_
          rw [hQ]
          exact m_iwr hx hb hr hlocks (n1u_41, n2u_41, ptu_41, rcu_41, vau_49, tcu_49, tsu_49, tnu_49, tdu_49, svu_49, stu_49, ctu_49, bsu_49, btu_49, blu_49, sau_49, liu_49) (⟨by rw [rfQ_v K_v KI, ← cvO_C hnl hp_41.1]; rw [(beR_of hp_49.1 wh).1 c_59], hp_41.2.2, hp_41.2.1, hp_49.1.2.2.2.2.2.2.1, hp_49.1.2.2.2.2.2.2.2⟩) hP hS dX7_best_64
      · refine lv_iload hx hb dX7_best_32 (lv_at hl 0 rfl) ?_
        rw [hQ]
        exact m_iwr hx hb hr hlocks (n1, n2, pt, rc, va, tc, ts, tn, td, sv, st, ct, bs, bt, bl, sa, li) (⟨rfQ_n c_29 (by first | (simp [c_6, c_14]; done) | (simp [c_6]; done) | (simp [c_14]; done)), hpt, hrc, hsa, hli⟩) hP hS dX7_best_34

theorem yd_X7_two : yX7_two.cls = RX7 ∧ yX7_two.cls ≠ "java/lang/invoke/MethodHandle" ∧ yX7_two.cls ≠ "java/lang/invoke/VarHandle" ∧ (parseMethodDescriptor yX7_two.desc).map (fun d => d.parameters.length) = some 2 := by decide +kernel
set_option maxHeartbeats 4000000 in
set_option maxRecDepth 100000 in
theorem k_X7_two (l : Launch) (D : va_G) (cI cZ : ClassId) (x oz oy k0 k1 pa ps o5 o4 o6 o1 : Nat) (o q0 q1 ra oc a1 a2 ll lo lt n1 n2 nl nv : Nat) (pt rc z g : Nat → Nat) (s5 va tc ts tn td : Nat) (sv : Int32) (st : Nat → Nat) (s4 l4 ct bs bt bl : Nat) (sa li : Nat → Nat) (ve way : Int32) (hnl : nl ≤ 20) (hnv : nv ≤ 4) (hz : ∀ j, z j ≤ 8) (hg : ∀ j, g j ≤ 126) (hpt : ∀ j, pt j ≤ 126) (hrc : ∀ j, rc j ≤ 20) (hsa : ∀ j, sa j ≤ 1000) (hli : ∀ j, li j < 2 ^ 20) : Met l yX7_two wsX7_two ({ frames := 6, cells := 0, slots := 0, locals := 148 }) (mPc [.ref x, .int ve, .int way] D cI cZ [(x, .inr (7, [.ref oc, .ref oz, .ref oy, .int (nI k0), .int (nI k1), .ref pa, .int (nI ps), .ref o, .ref o5, .ref o4, .ref o6, .ref o1])), (o, .inr (2, [.ref oc, .ref q0, .ref ra, .int (nI ll), .int (nI lo), .int (nI lt)])), (q0, .inr (3, [.ref q1, .int (nI n1), .int (nI n2)])), (q1, aN cI 26 pt), (ra, aN cI 400 rc), (oc, .inr (0, [.ref a1, .ref a2, .int (nI nl), .int (nI nv)])), (a1, aN cI 640 g), (a2, aN cI 80 z), (o5, .inr (5, [.ref oc, .ref o, .ref s5, .int (nI va), .int (nI tc), .int (nI ts), .int (nI tn), .int (nI td), .int sv])), (s5, aN cI 20 st), (o4, .inr (4, [.ref oc, .ref o, .ref o5, .ref s4, .ref l4, .int (nI ct), .int (nI bs), .int (nI bt), .int (nI bl)])), (s4, aN cI 200 sa), (l4, aN cI 200 li)]) (mQi D (mA [(x, .inr (7, [.ref oc, .ref oz, .ref oy, .int (nI k0), .int (nI k1), .ref pa, .int (nI ps), .ref o, .ref o5, .ref o4, .ref o6, .ref o1])), (o, .inr (2, [.ref oc, .ref q0, .ref ra, .int (nI ll), .int (nI lo), .int (nI lt)])), (q0, .inr (3, [.ref q1, .int (nI n1), .int (nI n2)])), (q1, aN cI 26 pt), (ra, aN cI 400 rc), (oc, .inr (0, [.ref a1, .ref a2, .int (nI nl), .int (nI nv)])), (a1, aN cI 640 g), (a2, aN cI 80 z), (o5, .inr (5, [.ref oc, .ref o, .ref s5, .int (nI va), .int (nI tc), .int (nI ts), .int (nI tn), .int (nI td), .int sv])), (s5, aN cI 20 st), (o4, .inr (4, [.ref oc, .ref o, .ref o5, .ref s4, .ref l4, .int (nI ct), .int (nI bs), .int (nI bt), .int (nI bl)])), (s4, aN cI 200 sa), (l4, aN cI 200 li)]) (fun (r : Int32) (u : Nat × Nat × (Nat → Nat) × (Nat → Nat) × Nat × Nat × Nat × Nat × Nat × Int32 × (Nat → Nat) × Nat × Nat × Nat × Nat × (Nat → Nat) × (Nat → Nat)) => r = rfQ nv ve (ixB way 3) (nI (twN (allL (cvO z g (cN ve) nl (rcC (cN way) z g (cN ve) nl)) nl nl))) ∧ (∀ j, u.2.2.1 j ≤ 126) ∧ (∀ j, u.2.2.2.1 j ≤ 20) ∧ (∀ j, u.2.2.2.2.2.2.2.2.2.2.2.2.2.2.2.1 j ≤ 1000) ∧ (∀ j, u.2.2.2.2.2.2.2.2.2.2.2.2.2.2.2.2 j < 2 ^ 20)) (fun (u : Nat × Nat × (Nat → Nat) × (Nat → Nat) × Nat × Nat × Nat × Nat × Nat × Int32 × (Nat → Nat) × Nat × Nat × Nat × Nat × (Nat → Nat) × (Nat → Nat)) => [(x, .inr (7, [.ref oc, .ref oz, .ref oy, .int (nI k0), .int (nI k1), .ref pa, .int (nI ps), .ref o, .ref o5, .ref o4, .ref o6, .ref o1])), (o, .inr (2, [.ref oc, .ref q0, .ref ra, .int (nI ll), .int (nI lo), .int (nI lt)])), (q0, .inr (3, [.ref q1, .int (nI u.1), .int (nI u.2.1)])), (q1, aN cI 26 u.2.2.1), (ra, aN cI 400 u.2.2.2.1), (oc, .inr (0, [.ref a1, .ref a2, .int (nI nl), .int (nI nv)])), (a1, aN cI 640 g), (a2, aN cI 80 z), (o5, .inr (5, [.ref oc, .ref o, .ref s5, .int (nI u.2.2.2.2.1), .int (nI u.2.2.2.2.2.1), .int (nI u.2.2.2.2.2.2.1), .int (nI u.2.2.2.2.2.2.2.1), .int (nI u.2.2.2.2.2.2.2.2.1), .int u.2.2.2.2.2.2.2.2.2.1])), (s5, aN cI 20 u.2.2.2.2.2.2.2.2.2.2.1), (o4, .inr (4, [.ref oc, .ref o, .ref o5, .ref s4, .ref l4, .int (nI u.2.2.2.2.2.2.2.2.2.2.2.1), .int (nI u.2.2.2.2.2.2.2.2.2.2.2.2.1), .int (nI u.2.2.2.2.2.2.2.2.2.2.2.2.2.1), .int (nI u.2.2.2.2.2.2.2.2.2.2.2.2.2.2.1)])), (s4, aN cI 200 u.2.2.2.2.2.2.2.2.2.2.2.2.2.2.2.1), (l4, aN cI 200 u.2.2.2.2.2.2.2.2.2.2.2.2.2.2.2.2)])) 0 0 (mA [(x, .inr (7, [.ref oc, .ref oz, .ref oy, .int (nI k0), .int (nI k1), .ref pa, .int (nI ps), .ref o, .ref o5, .ref o4, .ref o6, .ref o1])), (o, .inr (2, [.ref oc, .ref q0, .ref ra, .int (nI ll), .int (nI lo), .int (nI lt)])), (q0, .inr (3, [.ref q1, .int (nI n1), .int (nI n2)])), (q1, aN cI 26 pt), (ra, aN cI 400 rc), (oc, .inr (0, [.ref a1, .ref a2, .int (nI nl), .int (nI nv)])), (a1, aN cI 640 g), (a2, aN cI 80 z), (o5, .inr (5, [.ref oc, .ref o, .ref s5, .int (nI va), .int (nI tc), .int (nI ts), .int (nI tn), .int (nI td), .int sv])), (s5, aN cI 20 st), (o4, .inr (4, [.ref oc, .ref o, .ref o5, .ref s4, .ref l4, .int (nI ct), .int (nI bs), .int (nI bt), .int (nI bl)])), (s4, aN cI 200 sa), (l4, aN cI 200 li)]) := by
  refine Met.ofW (cc := cX7_two) (maxL := 4) (ret := (some .int)) (by decide) rfl ?_
  intro p e s m args below meth c s₁ BB hml hv
  obtain ⟨hargs, hP, hD0, hK⟩ := hv
  have hx := BB.exec
  have hb := BB.bytes
  have hr := BB.returns
  have hts := atoms_spec (ws := wsX7_two) BB.pre
  have hown : s.vm.findClass RX7 = some m.cls := findClass_of_methodNamed BB.named
  have hlocks := BB.notSynchronized
  have hcf : CallFix p m c cX7_two 4 s args wsX7_two RX7 := ⟨hx, hb, hml, hown, hts⟩
  obtain ⟨A, hAe⟩ : ∃ A, A = mA [(x, .inr (7, [.ref oc, .ref oz, .ref oy, .int (nI k0), .int (nI k1), .ref pa, .int (nI ps), .ref o, .ref o5, .ref o4, .ref o6, .ref o1])), (o, .inr (2, [.ref oc, .ref q0, .ref ra, .int (nI ll), .int (nI lo), .int (nI lt)])), (q0, .inr (3, [.ref q1, .int (nI n1), .int (nI n2)])), (q1, aN cI 26 pt), (ra, aN cI 400 rc), (oc, .inr (0, [.ref a1, .ref a2, .int (nI nl), .int (nI nv)])), (a1, aN cI 640 g), (a2, aN cI 80 z), (o5, .inr (5, [.ref oc, .ref o, .ref s5, .int (nI va), .int (nI tc), .int (nI ts), .int (nI tn), .int (nI td), .int sv])), (s5, aN cI 20 st), (o4, .inr (4, [.ref oc, .ref o, .ref o5, .ref s4, .ref l4, .int (nI ct), .int (nI bs), .int (nI bt), .int (nI bl)])), (s4, aN cI 200 sa), (l4, aN cI 200 li)] := ⟨_, rfl⟩
  have hD : va_D A [(x, .inr (7, [.ref oc, .ref oz, .ref oy, .int (nI k0), .int (nI k1), .ref pa, .int (nI ps), .ref o, .ref o5, .ref o4, .ref o6, .ref o1])), (o, .inr (2, [.ref oc, .ref q0, .ref ra, .int (nI ll), .int (nI lo), .int (nI lt)])), (q0, .inr (3, [.ref q1, .int (nI n1), .int (nI n2)])), (q1, aN cI 26 pt), (ra, aN cI 400 rc), (oc, .inr (0, [.ref a1, .ref a2, .int (nI nl), .int (nI nv)])), (a1, aN cI 640 g), (a2, aN cI 80 z), (o5, .inr (5, [.ref oc, .ref o, .ref s5, .int (nI va), .int (nI tc), .int (nI ts), .int (nI tn), .int (nI td), .int sv])), (s5, aN cI 20 st), (o4, .inr (4, [.ref oc, .ref o, .ref o5, .ref s4, .ref l4, .int (nI ct), .int (nI bs), .int (nI bt), .int (nI bl)])), (s4, aN cI 200 sa), (l4, aN cI 200 li)] := ⟨hD0.1, fun k q h => by rw [hAe]; exact ⟨k, q.2, h⟩⟩
  have hS : va_S A s.heap s.heap [] := va_S.rf
  rw [← hAe]
  rw [hargs, lg_entry_eq, ← hargs]
  have hl := lv_entry ([.ref x, .int ve, .int way]) (n := 4) (Nat.le_of_ble_eq_true rfl)
  generalize (lg_sl ([.ref x, .int ve, .int way]) ++ List.replicate (4 - (lg_sl ([.ref x, .int ve, .int way])).length) Slot.unset).toArray = ls at hl ⊢
  have hl : lv_has ls 4 [(0, .ref x), (1, .int ve), (2, .int way)] := hl
  obtain ⟨Q, hQ⟩ : ∃ Q, Q = MQ below (mQi D A (fun (r : Int32) (u : Nat × Nat × (Nat → Nat) × (Nat → Nat) × Nat × Nat × Nat × Nat × Nat × Int32 × (Nat → Nat) × Nat × Nat × Nat × Nat × (Nat → Nat) × (Nat → Nat)) => r = rfQ nv ve (ixB way 3) (nI (twN (allL (cvO z g (cN ve) nl (rcC (cN way) z g (cN ve) nl)) nl nl))) ∧ (∀ j, u.2.2.1 j ≤ 126) ∧ (∀ j, u.2.2.2.1 j ≤ 20) ∧ (∀ j, u.2.2.2.2.2.2.2.2.2.2.2.2.2.2.2.1 j ≤ 1000) ∧ (∀ j, u.2.2.2.2.2.2.2.2.2.2.2.2.2.2.2.2 j < 2 ^ 20)) (fun (u : Nat × Nat × (Nat → Nat) × (Nat → Nat) × Nat × Nat × Nat × Nat × Nat × Int32 × (Nat → Nat) × Nat × Nat × Nat × Nat × (Nat → Nat) × (Nat → Nat)) => [(x, .inr (7, [.ref oc, .ref oz, .ref oy, .int (nI k0), .int (nI k1), .ref pa, .int (nI ps), .ref o, .ref o5, .ref o4, .ref o6, .ref o1])), (o, .inr (2, [.ref oc, .ref q0, .ref ra, .int (nI ll), .int (nI lo), .int (nI lt)])), (q0, .inr (3, [.ref q1, .int (nI u.1), .int (nI u.2.1)])), (q1, aN cI 26 u.2.2.1), (ra, aN cI 400 u.2.2.2.1), (oc, .inr (0, [.ref a1, .ref a2, .int (nI nl), .int (nI nv)])), (a1, aN cI 640 g), (a2, aN cI 80 z), (o5, .inr (5, [.ref oc, .ref o, .ref s5, .int (nI u.2.2.2.2.1), .int (nI u.2.2.2.2.2.1), .int (nI u.2.2.2.2.2.2.1), .int (nI u.2.2.2.2.2.2.2.1), .int (nI u.2.2.2.2.2.2.2.2.1), .int u.2.2.2.2.2.2.2.2.2.1])), (s5, aN cI 20 u.2.2.2.2.2.2.2.2.2.2.1), (o4, .inr (4, [.ref oc, .ref o, .ref o5, .ref s4, .ref l4, .int (nI u.2.2.2.2.2.2.2.2.2.2.2.1), .int (nI u.2.2.2.2.2.2.2.2.2.2.2.2.1), .int (nI u.2.2.2.2.2.2.2.2.2.2.2.2.2.1), .int (nI u.2.2.2.2.2.2.2.2.2.2.2.2.2.2.1)])), (s4, aN cI 200 u.2.2.2.2.2.2.2.2.2.2.2.2.2.2.2.1), (l4, aN cI 200 u.2.2.2.2.2.2.2.2.2.2.2.2.2.2.2.2)])) args s 0 0 A := ⟨_, rfl⟩
  rw [← hQ]
  have i_X7 : ∀ w ∈ u_ws RX7 TX7 12, w ∈ wsX7_two := by decide +kernel
  have f_31 := hts (.fieldLink RX7 31 "SameAgain" "likeness" "LSameAgain$Likeness;") (by decide +kernel)
  have f_49 := hts (.fieldLink RX7 49 "SameAgain" "plan" "LSameAgain$Plan;") (by decide +kernel)
  refine lv_aload_n hx hb dX7_two_0 rfl (lv_at hl 0 rfl) ?_
  refine lv_iload_n hx hb dX7_two_1 rfl (lv_at hl 1 rfl) ?_
  refine lv_iload_n hx hb dX7_two_2 rfl (lv_at hl 2 rfl) ?_
  refine m_rdS (As := [.int way]) (rest := [.int ve, .ref x]) (wc := []) hcf (k_X7_isWay (l := l) (D := D) (cI := cI) (cZ := cZ) (a := way) ) (va_cwS 1 hts gX7_two_X7_isWay rfl rfl rfl yd_X7_isWay.2 ⟨Nat.le_of_ble_eq_true rfl, Nat.le_of_ble_eq_true rfl⟩) (m_preS hK hP hD [] (by decide) rfl) rfl hl.1 rfl (Nat.le_of_ble_eq_true rfl) dX7_two_3 ⟨Nat.zero_le _, Nat.zero_le _⟩ ?_
  refine m_rdV (As := [.int ve, .int (bI (ixB way 3))]) (rest := []) (wc := [(x, .inr (7, [.ref oc, .ref oz, .ref oy, .int (nI k0), .int (nI k1), .ref pa, .int (nI ps), .ref o, .ref o5, .ref o4, .ref o6, .ref o1])), (oc, .inr (0, [.ref a1, .ref a2, .int (nI nl), .int (nI nv)])), (a1, aN cI 640 g), (a2, aN cI 80 z)]) hcf (k_X7_refusalIn (l := l) (D := D) (cI := cI) (cZ := cZ) (ve := ve) (b := ixB way 3) (x := x) (oc := oc) (oz := oz) (oy := oy) (k0 := k0) (k1 := k1) (pa := pa) (ps := ps) (o := o) (o5 := o5) (o4 := o4) (o6 := o6) (o1 := o1) (a1 := a1) (a2 := a2) (nl := nl) (nv := nv) (g := g) (z := z) (hnl := hnl) (hnv := hnv)) (cwV 2 hts gX7_two_X7_refusalIn rfl rfl rfl yd_X7_refusalIn ⟨Nat.le_of_ble_eq_true rfl, Nat.le_of_ble_eq_true rfl⟩) (m_preV hK hP hD [0, 5, 6, 7] (by decide) rfl rfl rfl) rfl hl.1 rfl (Nat.le_of_ble_eq_true rfl) dX7_two_6 ⟨Nat.zero_le _, Nat.zero_le _⟩ ?_
  refine lv_istore_n (lv' := [(3, .int (rfQ nv ve (ixB way 3) 0)), (0, .ref x), (1, .int ve), (2, .int way)]) hx hb dX7_two_9 rfl hl (by decide) rfl (fun ls hl => ?_)
  refine lv_iload_n hx hb dX7_two_10 rfl (lv_at hl 0 rfl) ?_
  refine lv_if_eq (tgt := 16) hx hb dX7_two_11 (by decide) (fun c_11 => ?_) (fun c_11 => ?_)
  · obtain ⟨K_v, KI⟩ := rfQ_0 c_11
    obtain ⟨e_v, i_v⟩ := ixB_cN (by omega) K_v
    obtain ⟨e_w, i_w⟩ := ixB_cN (by decide) KI
    have hl : lv_has ls 4 [(3, .int (rfQ nv ve (ixB way 3) 0)), (0, .ref x), (1, .int (nI (cN ve))), (2, .int (nI (cN way)))] := by rw [← e_v, ← e_w]; exact hl
    refine lv_aload_n hx hb dX7_two_16 rfl (lv_at hl 1 rfl) ?_
    refine va_get (D := D) (ci := 7) (v := .ref o) (C := RX7) (T := TX7) (N := 12) hx hb hts i_X7 hown hK.1 hP 0 rfl rfl 7 (by decide) f_31 (fun _ h9 => h9) rfl dX7_two_17 ?_
    refine lv_iload_n hx hb dX7_two_20 rfl (lv_at hl 2 rfl) ?_
    refine lv_iload_n hx hb dX7_two_21 rfl (lv_at hl 3 rfl) ?_
    refine m_wvV (As := [.int (nI (cN ve)), .int (nI (cN way))]) (rest := []) (wc := [(o, .inr (2, [.ref oc, .ref q0, .ref ra, .int (nI ll), .int (nI lo), .int (nI lt)])), (q0, .inr (3, [.ref q1, .int (nI n1), .int (nI n2)])), (q1, aN cI 26 pt), (ra, aN cI 400 rc), (oc, .inr (0, [.ref a1, .ref a2, .int (nI nl), .int (nI nv)])), (a1, aN cI 640 g), (a2, aN cI 80 z)]) hcf (k_X2_compareAll (l := l) (D := D) (cI := cI) (cZ := cZ) (v := cN ve) (way := cN way) (o := o) (oc := oc) (q0 := q0) (ra := ra) (ll := ll) (lo := lo) (lt := lt) (q1 := q1) (n1 := n1) (n2 := n2) (pt := pt) (rc := rc) (a1 := a1) (a2 := a2) (nl := nl) (nv := nv) (g := g) (z := z) (hnl := hnl) (hnv := hnv) (hz := hz) (hg := hg) (hpt := hpt) (hrc := hrc) (hw := by omega) (hv := by omega)) (cwV 2 hts gX7_two_X2_compareAll rfl rfl rfl yd_X2_compareAll ⟨Nat.le_of_ble_eq_true rfl, Nat.le_of_ble_eq_true rfl⟩) hK hP hD hS [1, 2, 3, 4, 5, 6, 7] (by decide) rfl rfl rfl rfl hl.1 rfl (Nat.le_of_ble_eq_true rfl) dX7_two_22 ⟨Nat.zero_le _, Nat.zero_le _⟩ (fun _ => rfl) (fun (u : Nat × Nat × (Nat → Nat) × (Nat → Nat)) => [(x, .inr (7, [.ref oc, .ref oz, .ref oy, .int (nI k0), .int (nI k1), .ref pa, .int (nI ps), .ref o, .ref o5, .ref o4, .ref o6, .ref o1])), (o, .inr (2, [.ref oc, .ref q0, .ref ra, .int (nI ll), .int (nI lo), .int (nI lt)])), (q0, .inr (3, [.ref q1, .int (nI u.1), .int (nI u.2.1)])), (q1, aN cI 26 u.2.2.1), (ra, aN cI 400 u.2.2.2), (oc, .inr (0, [.ref a1, .ref a2, .int (nI nl), .int (nI nv)])), (a1, aN cI 640 g), (a2, aN cI 80 z), (o5, .inr (5, [.ref oc, .ref o, .ref s5, .int (nI va), .int (nI tc), .int (nI ts), .int (nI tn), .int (nI td), .int sv])), (s5, aN cI 20 st), (o4, .inr (4, [.ref oc, .ref o, .ref o5, .ref s4, .ref l4, .int (nI ct), .int (nI bs), .int (nI bt), .int (nI bl)])), (s4, aN cI 200 sa), (l4, aN cI 200 li)]) (fun _ => rfl) (fun u H locs hp_22 hP hD hS => ?_)
    obtain ⟨n1u_22, n2u_22, ptu_22, rcu_22⟩ := u
    have hP : va_P D vwCl [(x, .inr (7, [.ref oc, .ref oz, .ref oy, .int (nI k0), .int (nI k1), .ref pa, .int (nI ps), .ref o, .ref o5, .ref o4, .ref o6, .ref o1])), (o, .inr (2, [.ref oc, .ref q0, .ref ra, .int (nI ll), .int (nI lo), .int (nI lt)])), (q0, .inr (3, [.ref q1, .int (nI n1u_22), .int (nI n2u_22)])), (q1, aN cI 26 ptu_22), (ra, aN cI 400 rcu_22), (oc, .inr (0, [.ref a1, .ref a2, .int (nI nl), .int (nI nv)])), (a1, aN cI 640 g), (a2, aN cI 80 z), (o5, .inr (5, [.ref oc, .ref o, .ref s5, .int (nI va), .int (nI tc), .int (nI ts), .int (nI tn), .int (nI td), .int sv])), (s5, aN cI 20 st), (o4, .inr (4, [.ref oc, .ref o, .ref o5, .ref s4, .ref l4, .int (nI ct), .int (nI bs), .int (nI bt), .int (nI bl)])), (s4, aN cI 200 sa), (l4, aN cI 200 li)] H := hP
    have hD : va_D A [(x, .inr (7, [.ref oc, .ref oz, .ref oy, .int (nI k0), .int (nI k1), .ref pa, .int (nI ps), .ref o, .ref o5, .ref o4, .ref o6, .ref o1])), (o, .inr (2, [.ref oc, .ref q0, .ref ra, .int (nI ll), .int (nI lo), .int (nI lt)])), (q0, .inr (3, [.ref q1, .int (nI n1u_22), .int (nI n2u_22)])), (q1, aN cI 26 ptu_22), (ra, aN cI 400 rcu_22), (oc, .inr (0, [.ref a1, .ref a2, .int (nI nl), .int (nI nv)])), (a1, aN cI 640 g), (a2, aN cI 80 z), (o5, .inr (5, [.ref oc, .ref o, .ref s5, .int (nI va), .int (nI tc), .int (nI ts), .int (nI tn), .int (nI td), .int sv])), (s5, aN cI 20 st), (o4, .inr (4, [.ref oc, .ref o, .ref o5, .ref s4, .ref l4, .int (nI ct), .int (nI bs), .int (nI bt), .int (nI bl)])), (s4, aN cI 200 sa), (l4, aN cI 200 li)] := hD
    try dsimp only at hp_22
    refine lv_aload_n hx hb dX7_two_25 rfl (lv_at hl 1 rfl) ?_
    refine va_get (D := D) (ci := 7) (v := .ref o4) (C := RX7) (T := TX7) (N := 12) hx hb hts i_X7 hown hK.1 hP 0 rfl rfl 9 (by decide) f_49 (fun _ h9 => h9) rfl dX7_two_26 ?_
    refine lv_iload_n hx hb dX7_two_29 rfl (lv_at hl 2 rfl) ?_
    refine m_wvV (As := [.int (nI (cN ve))]) (rest := []) (wc := [(o4, .inr (4, [.ref oc, .ref o, .ref o5, .ref s4, .ref l4, .int (nI ct), .int (nI bs), .int (nI bt), .int (nI bl)])), (s4, aN cI 200 sa), (l4, aN cI 200 li), (o5, .inr (5, [.ref oc, .ref o, .ref s5, .int (nI va), .int (nI tc), .int (nI ts), .int (nI tn), .int (nI td), .int sv])), (s5, aN cI 20 st), (o, .inr (2, [.ref oc, .ref q0, .ref ra, .int (nI ll), .int (nI lo), .int (nI lt)])), (q0, .inr (3, [.ref q1, .int (nI n1u_22), .int (nI n2u_22)])), (q1, aN cI 26 ptu_22), (ra, aN cI 400 rcu_22), (oc, .inr (0, [.ref a1, .ref a2, .int (nI nl), .int (nI nv)])), (a1, aN cI 640 g), (a2, aN cI 80 z)]) hcf (k_X4_lookAtAll (l := l) (D := D) (cI := cI) (cZ := cZ) (v := cN ve) (o4 := o4) (oc := oc) (o := o) (o5 := o5) (s4 := s4) (l4 := l4) (ct := ct) (bs := bs) (bt := bt) (bl := bl) (sa := sa) (li := li) (s5 := s5) (va := va) (tc := tc) (ts := ts) (tn := tn) (td := td) (sv := sv) (st := st) (q0 := q0) (ra := ra) (ll := ll) (lo := lo) (lt := lt) (q1 := q1) (n1 := n1u_22) (n2 := n2u_22) (pt := ptu_22) (rc := rcu_22) (a1 := a1) (a2 := a2) (nl := nl) (nv := nv) (g := g) (z := z) (hnl := hnl) (hnv := hnv) (hz := hz) (hg := hg) (hrc := hp_22.2.1) (hsa := hsa) (hli := hli) (hv := by omega) (hgA := fun _ _ t h1 h => (slN_end hp_22.1 h1 h).1)) (cwV 1 hts gX7_two_X4_lookAtAll rfl rfl rfl yd_X4_lookAtAll ⟨Nat.le_of_ble_eq_true rfl, Nat.le_of_ble_eq_true rfl⟩) hK hP hD hS [10, 11, 12, 8, 9, 1, 2, 3, 4, 5, 6, 7] (by decide) rfl rfl rfl rfl hl.1 rfl (Nat.le_of_ble_eq_true rfl) dX7_two_30 ⟨Nat.zero_le _, Nat.zero_le _⟩ (fun _ => rfl) (fun (u : Nat × (Nat → Nat) × (Nat → Nat) × Nat × Nat × Nat × Nat × Nat × Nat × Nat × Nat × Int32 × (Nat → Nat)) => [(x, .inr (7, [.ref oc, .ref oz, .ref oy, .int (nI k0), .int (nI k1), .ref pa, .int (nI ps), .ref o, .ref o5, .ref o4, .ref o6, .ref o1])), (o, .inr (2, [.ref oc, .ref q0, .ref ra, .int (nI ll), .int (nI lo), .int (nI lt)])), (q0, .inr (3, [.ref q1, .int (nI n1u_22), .int (nI n2u_22)])), (q1, aN cI 26 ptu_22), (ra, aN cI 400 rcu_22), (oc, .inr (0, [.ref a1, .ref a2, .int (nI nl), .int (nI nv)])), (a1, aN cI 640 g), (a2, aN cI 80 z), (o5, .inr (5, [.ref oc, .ref o, .ref s5, .int (nI u.2.2.2.2.2.2.1), .int (nI u.2.2.2.2.2.2.2.1), .int (nI u.2.2.2.2.2.2.2.2.1), .int (nI u.2.2.2.2.2.2.2.2.2.1), .int (nI u.2.2.2.2.2.2.2.2.2.2.1), .int u.2.2.2.2.2.2.2.2.2.2.2.1])), (s5, aN cI 20 u.2.2.2.2.2.2.2.2.2.2.2.2), (o4, .inr (4, [.ref oc, .ref o, .ref o5, .ref s4, .ref l4, .int (nI u.1), .int (nI u.2.2.2.1), .int (nI u.2.2.2.2.1), .int (nI u.2.2.2.2.2.1)])), (s4, aN cI 200 u.2.1), (l4, aN cI 200 u.2.2.1)]) (fun _ => rfl) (fun u H locs hp_30 hP hD hS => ?_)
    obtain ⟨ctu_30, sau_30, liu_30, bsu_30, btu_30, blu_30, vau_30, tcu_30, tsu_30, tnu_30, tdu_30, svu_30, stu_30⟩ := u
    have hP : va_P D vwCl [(x, .inr (7, [.ref oc, .ref oz, .ref oy, .int (nI k0), .int (nI k1), .ref pa, .int (nI ps), .ref o, .ref o5, .ref o4, .ref o6, .ref o1])), (o, .inr (2, [.ref oc, .ref q0, .ref ra, .int (nI ll), .int (nI lo), .int (nI lt)])), (q0, .inr (3, [.ref q1, .int (nI n1u_22), .int (nI n2u_22)])), (q1, aN cI 26 ptu_22), (ra, aN cI 400 rcu_22), (oc, .inr (0, [.ref a1, .ref a2, .int (nI nl), .int (nI nv)])), (a1, aN cI 640 g), (a2, aN cI 80 z), (o5, .inr (5, [.ref oc, .ref o, .ref s5, .int (nI vau_30), .int (nI tcu_30), .int (nI tsu_30), .int (nI tnu_30), .int (nI tdu_30), .int svu_30])), (s5, aN cI 20 stu_30), (o4, .inr (4, [.ref oc, .ref o, .ref o5, .ref s4, .ref l4, .int (nI ctu_30), .int (nI bsu_30), .int (nI btu_30), .int (nI blu_30)])), (s4, aN cI 200 sau_30), (l4, aN cI 200 liu_30)] H := hP
    have hD : va_D A [(x, .inr (7, [.ref oc, .ref oz, .ref oy, .int (nI k0), .int (nI k1), .ref pa, .int (nI ps), .ref o, .ref o5, .ref o4, .ref o6, .ref o1])), (o, .inr (2, [.ref oc, .ref q0, .ref ra, .int (nI ll), .int (nI lo), .int (nI lt)])), (q0, .inr (3, [.ref q1, .int (nI n1u_22), .int (nI n2u_22)])), (q1, aN cI 26 ptu_22), (ra, aN cI 400 rcu_22), (oc, .inr (0, [.ref a1, .ref a2, .int (nI nl), .int (nI nv)])), (a1, aN cI 640 g), (a2, aN cI 80 z), (o5, .inr (5, [.ref oc, .ref o, .ref s5, .int (nI vau_30), .int (nI tcu_30), .int (nI tsu_30), .int (nI tnu_30), .int (nI tdu_30), .int svu_30])), (s5, aN cI 20 stu_30), (o4, .inr (4, [.ref oc, .ref o, .ref o5, .ref s4, .ref l4, .int (nI ctu_30), .int (nI bsu_30), .int (nI btu_30), .int (nI blu_30)])), (s4, aN cI 200 sau_30), (l4, aN cI 200 liu_30)] := hD
    try dsimp only at hp_30
    refine lv_aload_n hx hb dX7_two_33 rfl (lv_at hl 1 rfl) ?_
    refine va_get (D := D) (ci := 7) (v := .ref o4) (C := RX7) (T := TX7) (N := 12) hx hb hts i_X7 hown hK.1 hP 0 rfl rfl 9 (by decide) f_49 (fun _ h9 => h9) rfl dX7_two_34 ?_
    refine m_rdV (As := []) (rest := []) (wc := [(o4, .inr (4, [.ref oc, .ref o, .ref o5, .ref s4, .ref l4, .int (nI ctu_30), .int (nI bsu_30), .int (nI btu_30), .int (nI blu_30)])), (s4, aN cI 200 sau_30), (l4, aN cI 200 liu_30)]) hcf (k_X4_bestSumOfTwo (l := l) (D := D) (cI := cI) (cZ := cZ) (o4 := o4) (oc := oc) (o := o) (o5 := o5) (s4 := s4) (l4 := l4) (ct := ctu_30) (bs := bsu_30) (bt := btu_30) (bl := blu_30) (sa := sau_30) (li := liu_30) (hct := hp_30.2) (hbs := hp_30.1.2.2.2.2.1) (hsa := hp_30.1.2.2.2.2.2.2.1) (hli := hp_30.1.2.2.2.2.2.2.2)) (cwV 0 hts gX7_two_X4_bestSumOfTwo rfl rfl rfl yd_X4_bestSumOfTwo ⟨Nat.le_of_ble_eq_true rfl, Nat.le_of_ble_eq_true rfl⟩) (m_preV hK hP hD [10, 11, 12] (by decide) rfl rfl rfl) rfl hl.1 rfl (Nat.le_of_ble_eq_true rfl) dX7_two_37 ⟨Nat.zero_le _, Nat.zero_le _⟩ ?_
    rw [hQ]
    exact m_iwr hx hb hr hlocks (n1u_22, n2u_22, ptu_22, rcu_22, vau_30, tcu_30, tsu_30, tnu_30, tdu_30, svu_30, stu_30, ctu_30, bsu_30, btu_30, blu_30, sau_30, liu_30) (⟨by rw [rfQ_v K_v KI, ← cvO_C hnl hp_22.1, twN_of hp_30.1], hp_22.2.2, hp_22.2.1, hp_30.1.2.2.2.2.2.2.1, hp_30.1.2.2.2.2.2.2.2⟩) hP hS dX7_two_40
  · refine lv_iload_n hx hb dX7_two_14 rfl (lv_at hl 0 rfl) ?_
    rw [hQ]
    exact m_iwr hx hb hr hlocks (n1, n2, pt, rc, va, tc, ts, tn, td, sv, st, ct, bs, bt, bl, sa, li) (⟨rfQ_n c_11 rfl, hpt, hrc, hsa, hli⟩) hP hS dX7_two_15

theorem yd_X7_forgotten : yX7_forgotten.cls = RX7 ∧ yX7_forgotten.cls ≠ "java/lang/invoke/MethodHandle" ∧ yX7_forgotten.cls ≠ "java/lang/invoke/VarHandle" ∧ (parseMethodDescriptor yX7_forgotten.desc).map (fun d => d.parameters.length) = some 5 := by decide +kernel
set_option maxHeartbeats 4000000 in
set_option maxRecDepth 100000 in
theorem k_X7_forgotten (l : Launch) (D : va_G) (cI cZ : ClassId) (x oz oy k0 k1 pa ps o5 o4 o6 o1 : Nat) (o q0 q1 ra oc a1 a2 ll lo lt n1 n2 nl nv : Nat) (pt rc z g : Nat → Nat) (sp sn : Nat) (ve one oth n wh : Int32) (hnl : nl ≤ 20) (hnv : nv ≤ 4) (hz : ∀ j, z j ≤ 8) (hg : ∀ j, g j ≤ 126) (hpt : ∀ j, pt j ≤ 126) : Met l yX7_forgotten wsX7_forgotten ({ frames := 7, cells := 0, slots := 0, locals := 176 }) (mPc [.ref x, .int ve, .int one, .int oth, .int n, .int wh] D cI cZ [(x, .inr (7, [.ref oc, .ref oz, .ref oy, .int (nI k0), .int (nI k1), .ref pa, .int (nI ps), .ref o, .ref o5, .ref o4, .ref o6, .ref o1])), (o, .inr (2, [.ref oc, .ref q0, .ref ra, .int (nI ll), .int (nI lo), .int (nI lt)])), (q0, .inr (3, [.ref q1, .int (nI n1), .int (nI n2)])), (q1, aN cI 26 pt), (ra, aN cI 400 rc), (oc, .inr (0, [.ref a1, .ref a2, .int (nI nl), .int (nI nv)])), (a1, aN cI 640 g), (a2, aN cI 80 z), (o6, .inr (6, [.ref oc, .ref o, .int (nI sp), .int (nI sn)]))]) (mQi D (mA [(x, .inr (7, [.ref oc, .ref oz, .ref oy, .int (nI k0), .int (nI k1), .ref pa, .int (nI ps), .ref o, .ref o5, .ref o4, .ref o6, .ref o1])), (o, .inr (2, [.ref oc, .ref q0, .ref ra, .int (nI ll), .int (nI lo), .int (nI lt)])), (q0, .inr (3, [.ref q1, .int (nI n1), .int (nI n2)])), (q1, aN cI 26 pt), (ra, aN cI 400 rc), (oc, .inr (0, [.ref a1, .ref a2, .int (nI nl), .int (nI nv)])), (a1, aN cI 640 g), (a2, aN cI 80 z), (o6, .inr (6, [.ref oc, .ref o, .int (nI sp), .int (nI sn)]))]) (fun (r : Int32) (u : Nat × Nat × (Nat → Nat) × Nat × Nat) => r = rfQ nv ve (arB one oth n && ixB wh 2) (foR u.2.2.2.1 u.2.2.2.2 wh) ∧ (∀ j, u.2.2.1 j ≤ 126) ∧ (ixB ve nv = true → (arB one oth n && ixB wh 2) = true → (¬ okS z g (cN ve) nl (cN one) (cN oth) (cN n) → u.2.2.2.2 = 0) ∧ (okS z g (cN ve) nl (cN one) (cN oth) (cN n) → fgI (fgF z g (cN ve) (cN one) (cN oth) (cN n)) (fun a => z (cN ve * 20 + (cN oth + a))) (cN n) 0 u.2.2.2.1 u.2.2.2.2))) (fun (u : Nat × Nat × (Nat → Nat) × Nat × Nat) => [(x, .inr (7, [.ref oc, .ref oz, .ref oy, .int (nI k0), .int (nI k1), .ref pa, .int (nI ps), .ref o, .ref o5, .ref o4, .ref o6, .ref o1])), (o, .inr (2, [.ref oc, .ref q0, .ref ra, .int (nI ll), .int (nI lo), .int (nI lt)])), (q0, .inr (3, [.ref q1, .int (nI u.1), .int (nI u.2.1)])), (q1, aN cI 26 u.2.2.1), (ra, aN cI 400 rc), (oc, .inr (0, [.ref a1, .ref a2, .int (nI nl), .int (nI nv)])), (a1, aN cI 640 g), (a2, aN cI 80 z), (o6, .inr (6, [.ref oc, .ref o, .int (nI u.2.2.2.1), .int (nI u.2.2.2.2)]))])) 0 0 (mA [(x, .inr (7, [.ref oc, .ref oz, .ref oy, .int (nI k0), .int (nI k1), .ref pa, .int (nI ps), .ref o, .ref o5, .ref o4, .ref o6, .ref o1])), (o, .inr (2, [.ref oc, .ref q0, .ref ra, .int (nI ll), .int (nI lo), .int (nI lt)])), (q0, .inr (3, [.ref q1, .int (nI n1), .int (nI n2)])), (q1, aN cI 26 pt), (ra, aN cI 400 rc), (oc, .inr (0, [.ref a1, .ref a2, .int (nI nl), .int (nI nv)])), (a1, aN cI 640 g), (a2, aN cI 80 z), (o6, .inr (6, [.ref oc, .ref o, .int (nI sp), .int (nI sn)]))]) := by
  refine Met.ofW (cc := cX7_forgotten) (maxL := 7) (ret := (some .int)) (by decide) rfl ?_
  intro p e s m args below meth c s₁ BB hml hv
  obtain ⟨hargs, hP, hD0, hK⟩ := hv
  have hx := BB.exec
  have hb := BB.bytes
  have hr := BB.returns
  have hts := atoms_spec (ws := wsX7_forgotten) BB.pre
  have hown : s.vm.findClass RX7 = some m.cls := findClass_of_methodNamed BB.named
  have hlocks := BB.notSynchronized
  have hcf : CallFix p m c cX7_forgotten 7 s args wsX7_forgotten RX7 := ⟨hx, hb, hml, hown, hts⟩
  obtain ⟨A, hAe⟩ : ∃ A, A = mA [(x, .inr (7, [.ref oc, .ref oz, .ref oy, .int (nI k0), .int (nI k1), .ref pa, .int (nI ps), .ref o, .ref o5, .ref o4, .ref o6, .ref o1])), (o, .inr (2, [.ref oc, .ref q0, .ref ra, .int (nI ll), .int (nI lo), .int (nI lt)])), (q0, .inr (3, [.ref q1, .int (nI n1), .int (nI n2)])), (q1, aN cI 26 pt), (ra, aN cI 400 rc), (oc, .inr (0, [.ref a1, .ref a2, .int (nI nl), .int (nI nv)])), (a1, aN cI 640 g), (a2, aN cI 80 z), (o6, .inr (6, [.ref oc, .ref o, .int (nI sp), .int (nI sn)]))] := ⟨_, rfl⟩
  have hD : va_D A [(x, .inr (7, [.ref oc, .ref oz, .ref oy, .int (nI k0), .int (nI k1), .ref pa, .int (nI ps), .ref o, .ref o5, .ref o4, .ref o6, .ref o1])), (o, .inr (2, [.ref oc, .ref q0, .ref ra, .int (nI ll), .int (nI lo), .int (nI lt)])), (q0, .inr (3, [.ref q1, .int (nI n1), .int (nI n2)])), (q1, aN cI 26 pt), (ra, aN cI 400 rc), (oc, .inr (0, [.ref a1, .ref a2, .int (nI nl), .int (nI nv)])), (a1, aN cI 640 g), (a2, aN cI 80 z), (o6, .inr (6, [.ref oc, .ref o, .int (nI sp), .int (nI sn)]))] := ⟨hD0.1, fun k q h => by rw [hAe]; exact ⟨k, q.2, h⟩⟩
  have hS : va_S A s.heap s.heap [] := va_S.rf
  rw [← hAe]
  rw [hargs, lg_entry_eq, ← hargs]
  have hl := lv_entry ([.ref x, .int ve, .int one, .int oth, .int n, .int wh]) (n := 7) (Nat.le_of_ble_eq_true rfl)
  generalize (lg_sl ([.ref x, .int ve, .int one, .int oth, .int n, .int wh]) ++ List.replicate (7 - (lg_sl ([.ref x, .int ve, .int one, .int oth, .int n, .int wh])).length) Slot.unset).toArray = ls at hl ⊢
  have hl : lv_has ls 7 [(0, .ref x), (1, .int ve), (2, .int one), (3, .int oth), (4, .int n), (5, .int wh)] := hl
  obtain ⟨Q, hQ⟩ : ∃ Q, Q = MQ below (mQi D A (fun (r : Int32) (u : Nat × Nat × (Nat → Nat) × Nat × Nat) => r = rfQ nv ve (arB one oth n && ixB wh 2) (foR u.2.2.2.1 u.2.2.2.2 wh) ∧ (∀ j, u.2.2.1 j ≤ 126) ∧ (ixB ve nv = true → (arB one oth n && ixB wh 2) = true → (¬ okS z g (cN ve) nl (cN one) (cN oth) (cN n) → u.2.2.2.2 = 0) ∧ (okS z g (cN ve) nl (cN one) (cN oth) (cN n) → fgI (fgF z g (cN ve) (cN one) (cN oth) (cN n)) (fun a => z (cN ve * 20 + (cN oth + a))) (cN n) 0 u.2.2.2.1 u.2.2.2.2))) (fun (u : Nat × Nat × (Nat → Nat) × Nat × Nat) => [(x, .inr (7, [.ref oc, .ref oz, .ref oy, .int (nI k0), .int (nI k1), .ref pa, .int (nI ps), .ref o, .ref o5, .ref o4, .ref o6, .ref o1])), (o, .inr (2, [.ref oc, .ref q0, .ref ra, .int (nI ll), .int (nI lo), .int (nI lt)])), (q0, .inr (3, [.ref q1, .int (nI u.1), .int (nI u.2.1)])), (q1, aN cI 26 u.2.2.1), (ra, aN cI 400 rc), (oc, .inr (0, [.ref a1, .ref a2, .int (nI nl), .int (nI nv)])), (a1, aN cI 640 g), (a2, aN cI 80 z), (o6, .inr (6, [.ref oc, .ref o, .int (nI u.2.2.2.1), .int (nI u.2.2.2.2)]))])) args s 0 0 A := ⟨_, rfl⟩
  rw [← hQ]
  have i_X7 : ∀ w ∈ u_ws RX7 TX7 12, w ∈ wsX7_forgotten := by decide +kernel
  have f_56 := hts (.fieldLink RX7 56 "SameAgain" "slip" "LSameAgain$Slip;") (by decide +kernel)
  have fn_196 := va_Nw.use (A := args) rfl (hK.2.1 ("SameAgain", 196, "SameAgain$Slip", "name", "I", "SameAgain") (by decide +kernel))
  have i_X6 : ∀ w ∈ u_ws RX6 TX6 4, w ∈ wsX7_forgotten := by decide +kernel
  have fn_199 := va_Nw.use (A := args) rfl (hK.2.1 ("SameAgain", 199, "SameAgain$Slip", "place", "I", "SameAgain") (by decide +kernel))
  refine lv_aload_n hx hb dX7_forgotten_0 rfl (lv_at hl 0 rfl) ?_
  refine lv_iload_n hx hb dX7_forgotten_1 rfl (lv_at hl 1 rfl) ?_
  refine lv_iload_n hx hb dX7_forgotten_2 rfl (lv_at hl 2 rfl) ?_
  refine lv_iload_n hx hb dX7_forgotten_3 rfl (lv_at hl 3 rfl) ?_
  refine lv_iload hx hb dX7_forgotten_4 (lv_at hl 4 rfl) ?_
  refine m_rdS (As := [.int one, .int oth, .int n]) (rest := [.int ve, .ref x]) (wc := []) hcf (k_X7_areRows (l := l) (D := D) (cI := cI) (cZ := cZ) (a := one) (b := oth) (n := n) ) (va_cwS 3 hts gX7_forgotten_X7_areRows rfl rfl rfl yd_X7_areRows.2 ⟨Nat.le_of_ble_eq_true rfl, Nat.le_of_ble_eq_true rfl⟩) (m_preS hK hP hD [] (by decide) rfl) rfl hl.1 rfl (Nat.le_of_ble_eq_true rfl) dX7_forgotten_6 ⟨Nat.zero_le _, Nat.zero_le _⟩ ?_
  refine m_ifB_eq (tgt := 25) hx hb dX7_forgotten_9 (by decide) (fun c_9 => ?_) (fun c_9 => ?_)
  · refine lv_iconst (v := nI 0) hx hb dX7_forgotten_25 (by decide) ?_
    refine m_rdV (As := [.int ve, .int (nI 0)]) (rest := []) (wc := [(x, .inr (7, [.ref oc, .ref oz, .ref oy, .int (nI k0), .int (nI k1), .ref pa, .int (nI ps), .ref o, .ref o5, .ref o4, .ref o6, .ref o1])), (oc, .inr (0, [.ref a1, .ref a2, .int (nI nl), .int (nI nv)])), (a1, aN cI 640 g), (a2, aN cI 80 z)]) hcf (k_X7_refusalIn (l := l) (D := D) (cI := cI) (cZ := cZ) (ve := ve) (b := false) (x := x) (oc := oc) (oz := oz) (oy := oy) (k0 := k0) (k1 := k1) (pa := pa) (ps := ps) (o := o) (o5 := o5) (o4 := o4) (o6 := o6) (o1 := o1) (a1 := a1) (a2 := a2) (nl := nl) (nv := nv) (g := g) (z := z) (hnl := hnl) (hnv := hnv)) (cwV 2 hts gX7_forgotten_X7_refusalIn rfl rfl rfl yd_X7_refusalIn ⟨Nat.le_of_ble_eq_true rfl, Nat.le_of_ble_eq_true rfl⟩) (m_preV hK hP hD [0, 5, 6, 7] (by decide) rfl rfl rfl) rfl hl.1 rfl (Nat.le_of_ble_eq_true rfl) dX7_forgotten_26 ⟨Nat.zero_le _, Nat.zero_le _⟩ ?_
    refine lv_istore (lv' := [(6, .int (rfQ nv ve false 0)), (0, .ref x), (1, .int ve), (2, .int one), (3, .int oth), (4, .int n), (5, .int wh)]) hx hb dX7_forgotten_29 hl (by decide) rfl (fun ls hl => ?_)
    refine lv_iload hx hb dX7_forgotten_31 (lv_at hl 0 rfl) ?_
    refine lv_if_eq (tgt := 39) hx hb dX7_forgotten_33 (by decide) (fun c_33 => ?_) (fun c_33 => ?_)
    · exact absurd (rfQ_0 c_33).2 (by decide)
    · refine lv_iload hx hb dX7_forgotten_36 (lv_at hl 0 rfl) ?_
      rw [hQ]
      exact m_iwr hx hb hr hlocks (n1, n2, pt, sp, sn) (⟨rfQ_n c_33 (by first | (simp [c_9, c_18]; done) | (simp [c_9]; done) | (simp [c_18]; done)), hpt, fun h1 h2 => (rfQ_x c_33 (by first | (simp [c_9, c_18]; done) | (simp [c_9]; done) | (simp [c_18]; done)) h1 h2).elim⟩) hP hS dX7_forgotten_38
  · refine lv_iload hx hb dX7_forgotten_12 (lv_at hl 5 rfl) ?_
    refine lv_iconst (v := nI 1) hx hb dX7_forgotten_14 (by decide) ?_
    refine m_rdS (As := [.int wh, .int (nI 1)]) (rest := [.int ve, .ref x]) (wc := []) hcf (k_X7_isUpTo (l := l) (D := D) (cI := cI) (cZ := cZ) (a := wh) (b := 1) (hb9 := by omega)) (va_cwS 2 hts gX7_forgotten_X7_isUpTo rfl rfl rfl yd_X7_isUpTo.2 ⟨Nat.le_of_ble_eq_true rfl, Nat.le_of_ble_eq_true rfl⟩) (m_preS hK hP hD [] (by decide) rfl) rfl hl.1 rfl (Nat.le_of_ble_eq_true rfl) dX7_forgotten_15 ⟨Nat.zero_le _, Nat.zero_le _⟩ ?_
    refine m_ifB_eq (tgt := 25) hx hb dX7_forgotten_18 (by decide) (fun c_18 => ?_) (fun c_18 => ?_)
    · refine lv_iconst (v := nI 0) hx hb dX7_forgotten_25 (by decide) ?_
      refine m_rdV (As := [.int ve, .int (nI 0)]) (rest := []) (wc := [(x, .inr (7, [.ref oc, .ref oz, .ref oy, .int (nI k0), .int (nI k1), .ref pa, .int (nI ps), .ref o, .ref o5, .ref o4, .ref o6, .ref o1])), (oc, .inr (0, [.ref a1, .ref a2, .int (nI nl), .int (nI nv)])), (a1, aN cI 640 g), (a2, aN cI 80 z)]) hcf (k_X7_refusalIn (l := l) (D := D) (cI := cI) (cZ := cZ) (ve := ve) (b := false) (x := x) (oc := oc) (oz := oz) (oy := oy) (k0 := k0) (k1 := k1) (pa := pa) (ps := ps) (o := o) (o5 := o5) (o4 := o4) (o6 := o6) (o1 := o1) (a1 := a1) (a2 := a2) (nl := nl) (nv := nv) (g := g) (z := z) (hnl := hnl) (hnv := hnv)) (cwV 2 hts gX7_forgotten_X7_refusalIn rfl rfl rfl yd_X7_refusalIn ⟨Nat.le_of_ble_eq_true rfl, Nat.le_of_ble_eq_true rfl⟩) (m_preV hK hP hD [0, 5, 6, 7] (by decide) rfl rfl rfl) rfl hl.1 rfl (Nat.le_of_ble_eq_true rfl) dX7_forgotten_26 ⟨Nat.zero_le _, Nat.zero_le _⟩ ?_
      refine lv_istore (lv' := [(6, .int (rfQ nv ve false 0)), (0, .ref x), (1, .int ve), (2, .int one), (3, .int oth), (4, .int n), (5, .int wh)]) hx hb dX7_forgotten_29 hl (by decide) rfl (fun ls hl => ?_)
      refine lv_iload hx hb dX7_forgotten_31 (lv_at hl 0 rfl) ?_
      refine lv_if_eq (tgt := 39) hx hb dX7_forgotten_33 (by decide) (fun c_33 => ?_) (fun c_33 => ?_)
      · exact absurd (rfQ_0 c_33).2 (by decide)
      · refine lv_iload hx hb dX7_forgotten_36 (lv_at hl 0 rfl) ?_
        rw [hQ]
        exact m_iwr hx hb hr hlocks (n1, n2, pt, sp, sn) (⟨rfQ_n c_33 (by first | (simp [c_9, c_18]; done) | (simp [c_9]; done) | (simp [c_18]; done)), hpt, fun h1 h2 => (rfQ_x c_33 (by first | (simp [c_9, c_18]; done) | (simp [c_9]; done) | (simp [c_18]; done)) h1 h2).elim⟩) hP hS dX7_forgotten_38
    · refine lv_iconst (v := nI 1) hx hb dX7_forgotten_21 (by decide) ?_
      refine lv_goto (tgt := 26) hx hb dX7_forgotten_22 (by decide) ?_
      refine m_rdV (As := [.int ve, .int (nI 1)]) (rest := []) (wc := [(x, .inr (7, [.ref oc, .ref oz, .ref oy, .int (nI k0), .int (nI k1), .ref pa, .int (nI ps), .ref o, .ref o5, .ref o4, .ref o6, .ref o1])), (oc, .inr (0, [.ref a1, .ref a2, .int (nI nl), .int (nI nv)])), (a1, aN cI 640 g), (a2, aN cI 80 z)]) hcf (k_X7_refusalIn (l := l) (D := D) (cI := cI) (cZ := cZ) (ve := ve) (b := true) (x := x) (oc := oc) (oz := oz) (oy := oy) (k0 := k0) (k1 := k1) (pa := pa) (ps := ps) (o := o) (o5 := o5) (o4 := o4) (o6 := o6) (o1 := o1) (a1 := a1) (a2 := a2) (nl := nl) (nv := nv) (g := g) (z := z) (hnl := hnl) (hnv := hnv)) (cwV 2 hts gX7_forgotten_X7_refusalIn rfl rfl rfl yd_X7_refusalIn ⟨Nat.le_of_ble_eq_true rfl, Nat.le_of_ble_eq_true rfl⟩) (m_preV hK hP hD [0, 5, 6, 7] (by decide) rfl rfl rfl) rfl hl.1 rfl (Nat.le_of_ble_eq_true rfl) dX7_forgotten_26 ⟨Nat.zero_le _, Nat.zero_le _⟩ ?_
      refine lv_istore (lv' := [(6, .int (rfQ nv ve true 0)), (0, .ref x), (1, .int ve), (2, .int one), (3, .int oth), (4, .int n), (5, .int wh)]) hx hb dX7_forgotten_29 hl (by decide) rfl (fun ls hl => ?_)
      refine lv_iload hx hb dX7_forgotten_31 (lv_at hl 0 rfl) ?_
      refine lv_if_eq (tgt := 39) hx hb dX7_forgotten_33 (by decide) (fun c_33 => ?_) (fun c_33 => ?_)
      · have K_v := (rfQ_0 c_33).1
        have KI : (arB one oth n && ixB wh 2) = true := by first | (simp [c_9, c_18]; done) | (simp [c_9]; done) | (simp [c_18]; done)
        obtain ⟨e_v, i_v⟩ := ixB_cN (by omega) K_v
        obtain ⟨K1, K2, K3⟩ := arB_iff.mp c_9
        obtain ⟨e_1, i_1⟩ := ixB_cN (by decide) K1
        obtain ⟨e_2, i_2⟩ := ixB_cN (by decide) K2
        obtain ⟨e_n, i_n, j_n⟩ := lnB_cN K3
        have hl : lv_has ls 7 [(6, .int (rfQ nv ve true 0)), (0, .ref x), (1, .int (nI (cN ve))), (2, .int (nI (cN one))), (3, .int (nI (cN oth))), (4, .int (nI (cN n))), (5, .int wh)] := by rw [← e_v, ← e_1, ← e_2, ← e_n]; exact hl
        refine lv_aload_n hx hb dX7_forgotten_39 rfl (lv_at hl 1 rfl) ?_
        refine va_get (D := D) (ci := 7) (v := .ref o6) (C := RX7) (T := TX7) (N := 12) hx hb hts i_X7 hown hK.1 hP 0 rfl rfl 10 (by decide) f_56 (fun _ h9 => h9) rfl dX7_forgotten_40 ?_
        refine lv_iload_n hx hb dX7_forgotten_43 rfl (lv_at hl 2 rfl) ?_
        refine lv_iload_n hx hb dX7_forgotten_44 rfl (lv_at hl 3 rfl) ?_
        refine lv_iload_n hx hb dX7_forgotten_45 rfl (lv_at hl 4 rfl) ?_
        refine lv_iload hx hb dX7_forgotten_46 (lv_at hl 5 rfl) ?_
        refine m_wvV (As := [.int (nI (cN ve)), .int (nI (cN one)), .int (nI (cN oth)), .int (nI (cN n))]) (rest := []) (wc := [(o6, .inr (6, [.ref oc, .ref o, .int (nI sp), .int (nI sn)])), (o, .inr (2, [.ref oc, .ref q0, .ref ra, .int (nI ll), .int (nI lo), .int (nI lt)])), (q0, .inr (3, [.ref q1, .int (nI n1), .int (nI n2)])), (q1, aN cI 26 pt), (ra, aN cI 400 rc), (oc, .inr (0, [.ref a1, .ref a2, .int (nI nl), .int (nI nv)])), (a1, aN cI 640 g), (a2, aN cI 80 z)]) hcf (k_X6_seek (l := l) (D := D) (cI := cI) (cZ := cZ) (v := cN ve) (one := cN one) (other := cN oth) (n := cN n) (o6 := o6) (oc := oc) (o := o) (sp := sp) (sn := sn) (q0 := q0) (ra := ra) (ll := ll) (lo := lo) (lt := lt) (q1 := q1) (n1 := n1) (n2 := n2) (pt := pt) (rc := rc) (a1 := a1) (a2 := a2) (nl := nl) (nv := nv) (g := g) (z := z) (hnl := hnl) (hnv := hnv) (hz := hz) (hg := hg) (hpt := hpt) (hv := by omega) (h1 := by omega) (h2 := by omega) (hn := by omega)) (cwV 4 hts gX7_forgotten_X6_seek rfl rfl rfl yd_X6_seek ⟨Nat.le_of_ble_eq_true rfl, Nat.le_of_ble_eq_true rfl⟩) hK hP hD hS [8, 1, 2, 3, 4, 5, 6, 7] (by decide) rfl rfl rfl rfl hl.1 rfl (Nat.le_of_ble_eq_true rfl) dX7_forgotten_48 ⟨Nat.zero_le _, Nat.zero_le _⟩ (fun _ => rfl) (fun (u : Nat × Nat × Nat × Nat × (Nat → Nat)) => [(x, .inr (7, [.ref oc, .ref oz, .ref oy, .int (nI k0), .int (nI k1), .ref pa, .int (nI ps), .ref o, .ref o5, .ref o4, .ref o6, .ref o1])), (o, .inr (2, [.ref oc, .ref q0, .ref ra, .int (nI ll), .int (nI lo), .int (nI lt)])), (q0, .inr (3, [.ref q1, .int (nI u.2.2.1), .int (nI u.2.2.2.1)])), (q1, aN cI 26 u.2.2.2.2), (ra, aN cI 400 rc), (oc, .inr (0, [.ref a1, .ref a2, .int (nI nl), .int (nI nv)])), (a1, aN cI 640 g), (a2, aN cI 80 z), (o6, .inr (6, [.ref oc, .ref o, .int (nI u.1), .int (nI u.2.1)]))]) (fun _ => rfl) (fun u H locs hp_48 hP hD hS => ?_)
        obtain ⟨pu_48, nmu_48, n1u_48, n2u_48, ptu_48⟩ := u
        have hP : va_P D vwCl [(x, .inr (7, [.ref oc, .ref oz, .ref oy, .int (nI k0), .int (nI k1), .ref pa, .int (nI ps), .ref o, .ref o5, .ref o4, .ref o6, .ref o1])), (o, .inr (2, [.ref oc, .ref q0, .ref ra, .int (nI ll), .int (nI lo), .int (nI lt)])), (q0, .inr (3, [.ref q1, .int (nI n1u_48), .int (nI n2u_48)])), (q1, aN cI 26 ptu_48), (ra, aN cI 400 rc), (oc, .inr (0, [.ref a1, .ref a2, .int (nI nl), .int (nI nv)])), (a1, aN cI 640 g), (a2, aN cI 80 z), (o6, .inr (6, [.ref oc, .ref o, .int (nI pu_48), .int (nI nmu_48)]))] H := hP
        have hD : va_D A [(x, .inr (7, [.ref oc, .ref oz, .ref oy, .int (nI k0), .int (nI k1), .ref pa, .int (nI ps), .ref o, .ref o5, .ref o4, .ref o6, .ref o1])), (o, .inr (2, [.ref oc, .ref q0, .ref ra, .int (nI ll), .int (nI lo), .int (nI lt)])), (q0, .inr (3, [.ref q1, .int (nI n1u_48), .int (nI n2u_48)])), (q1, aN cI 26 ptu_48), (ra, aN cI 400 rc), (oc, .inr (0, [.ref a1, .ref a2, .int (nI nl), .int (nI nv)])), (a1, aN cI 640 g), (a2, aN cI 80 z), (o6, .inr (6, [.ref oc, .ref o, .int (nI pu_48), .int (nI nmu_48)]))] := hD
        try dsimp only at hp_48
        refine lv_aload_n hx hb dX7_forgotten_51 rfl (lv_at hl 1 rfl) ?_
        refine va_get (D := D) (ci := 7) (v := .ref o6) (C := RX7) (T := TX7) (N := 12) hx hb hts i_X7 hown hK.1 hP 0 rfl rfl 10 (by decide) f_56 (fun _ h9 => h9) rfl dX7_forgotten_52 ?_
        refine va_getN (D := D) (ci := 6) (v := .int (nI nmu_48)) (C := RX6) (T := TX6) (N := 4) hx hb hts i_X6 hown hK.1 hP 8 rfl rfl 3 (by decide) fn_196 (fun _ h9 => h9) rfl dX7_forgotten_55 ?_
        refine m_if_ne (tgt := 64) hx hb dX7_forgotten_58 (by decide) (by have := hp_48.2.1; omega) (fun c_58 => ?_) (fun c_58 => ?_)
        · refine lv_iload hx hb dX7_forgotten_64 (lv_at hl 6 rfl) ?_
          refine lv_if_ne (tgt := 79) hx hb dX7_forgotten_66 (by decide) (fun c_66 => ?_) (fun c_66 => ?_)
          · refine lv_aload_n hx hb dX7_forgotten_79 rfl (lv_at hl 1 rfl) ?_
            refine va_get (D := D) (ci := 7) (v := .ref o6) (C := RX7) (T := TX7) (N := 12) hx hb hts i_X7 hown hK.1 hP 0 rfl rfl 10 (by decide) f_56 (fun _ h9 => h9) rfl dX7_forgotten_80 ?_
            refine va_getN (D := D) (ci := 6) (v := .int (nI nmu_48)) (C := RX6) (T := TX6) (N := 4) hx hb hts i_X6 hown hK.1 hP 8 rfl rfl 3 (by decide) fn_196 (fun _ h9 => h9) rfl dX7_forgotten_83 ?_
            rw [hQ]
            exact m_iwr hx hb hr hlocks (n1u_48, n2u_48, ptu_48, pu_48, nmu_48) (⟨by rw [rfQ_v K_v KI]; unfold foR; rw [if_neg c_58, if_neg c_66], hp_48.1, fun _ _ => ⟨hp_48.2.2.1, hp_48.2.2.2⟩⟩) hP hS dX7_forgotten_86
          · refine lv_aload_n hx hb dX7_forgotten_69 rfl (lv_at hl 1 rfl) ?_
            refine va_get (D := D) (ci := 7) (v := .ref o6) (C := RX7) (T := TX7) (N := 12) hx hb hts i_X7 hown hK.1 hP 0 rfl rfl 10 (by decide) f_56 (fun _ h9 => h9) rfl dX7_forgotten_70 ?_
            refine va_getN (D := D) (ci := 6) (v := .int (nI pu_48)) (C := RX6) (T := TX6) (N := 4) hx hb hts i_X6 hown hK.1 hP 8 rfl rfl 2 (by decide) fn_199 (fun _ h9 => h9) rfl dX7_forgotten_73 ?_
            refine lv_goto (tgt := 86) hx hb dX7_forgotten_76 (by decide) ?_
            rw [hQ]
            exact m_iwr hx hb hr hlocks (n1u_48, n2u_48, ptu_48, pu_48, nmu_48) (⟨by rw [rfQ_v K_v KI]; unfold foR; rw [if_neg c_58, if_pos c_66], hp_48.1, fun _ _ => ⟨hp_48.2.2.1, hp_48.2.2.2⟩⟩) hP hS dX7_forgotten_86
        · refine lv_bipush (v := (-6)) hx hb dX7_forgotten_61 (by decide) ?_
          rw [hQ]
          exact m_iwr hx hb hr hlocks (n1u_48, n2u_48, ptu_48, pu_48, nmu_48) (⟨by rw [rfQ_v K_v KI]; unfold foR; rw [if_pos c_58], hp_48.1, fun _ _ => ⟨hp_48.2.2.1, hp_48.2.2.2⟩⟩) hP hS dX7_forgotten_63
      · refine lv_iload hx hb dX7_forgotten_36 (lv_at hl 0 rfl) ?_
        rw [hQ]
        exact m_iwr hx hb hr hlocks (n1, n2, pt, sp, sn) (⟨rfQ_n c_33 (by first | (simp [c_9, c_18]; done) | (simp [c_9]; done) | (simp [c_18]; done)), hpt, fun h1 h2 => (rfQ_x c_33 (by first | (simp [c_9, c_18]; done) | (simp [c_9]; done) | (simp [c_18]; done)) h1 h2).elim⟩) hP hS dX7_forgotten_38

theorem yd_X7_parted : yX7_parted.cls = RX7 ∧ yX7_parted.cls ≠ "java/lang/invoke/MethodHandle" ∧ yX7_parted.cls ≠ "java/lang/invoke/VarHandle" ∧ (parseMethodDescriptor yX7_parted.desc).map (fun d => d.parameters.length) = some 4 := by decide +kernel
set_option maxHeartbeats 4000000 in
set_option maxRecDepth 100000 in
theorem k_X7_parted (l : Launch) (D : va_G) (cI cZ : ClassId) (x oz oy k0 k1 pa ps o5 o4 o6 o1 : Nat) (o q0 q1 ra oc a1 a2 ll lo lt n1 n2 nl nv : Nat) (pt rc z g : Nat → Nat) (way one oth n : Int32) (hnl : nl ≤ 20) (hnv : nv ≤ 4) (hz : ∀ j, z j ≤ 8) (hg : ∀ j, g j ≤ 126) (hpt : ∀ j, pt j ≤ 126) : Met l yX7_parted wsX7_parted ({ frames := 6, cells := 0, slots := 0, locals := 147 }) (mPc [.ref x, .int way, .int one, .int oth, .int n] D cI cZ [(x, .inr (7, [.ref oc, .ref oz, .ref oy, .int (nI k0), .int (nI k1), .ref pa, .int (nI ps), .ref o, .ref o5, .ref o4, .ref o6, .ref o1])), (o, .inr (2, [.ref oc, .ref q0, .ref ra, .int (nI ll), .int (nI lo), .int (nI lt)])), (q0, .inr (3, [.ref q1, .int (nI n1), .int (nI n2)])), (q1, aN cI 26 pt), (ra, aN cI 400 rc), (oc, .inr (0, [.ref a1, .ref a2, .int (nI nl), .int (nI nv)])), (a1, aN cI 640 g), (a2, aN cI 80 z)]) (mQi D (mA [(x, .inr (7, [.ref oc, .ref oz, .ref oy, .int (nI k0), .int (nI k1), .ref pa, .int (nI ps), .ref o, .ref o5, .ref o4, .ref o6, .ref o1])), (o, .inr (2, [.ref oc, .ref q0, .ref ra, .int (nI ll), .int (nI lo), .int (nI lt)])), (q0, .inr (3, [.ref q1, .int (nI n1), .int (nI n2)])), (q1, aN cI 26 pt), (ra, aN cI 400 rc), (oc, .inr (0, [.ref a1, .ref a2, .int (nI nl), .int (nI nv)])), (a1, aN cI 640 g), (a2, aN cI 80 z)]) (fun (r : Int32) (u : Nat × Nat × (Nat → Nat)) => r = paR (ixB way 3 && arB one oth n) (ptF (fun w => raB (cN way) z g w nl (cN one) (cN oth) (cN n)) nv 0 false) ∧ (∀ j, u.2.2 j ≤ 126)) (fun (u : Nat × Nat × (Nat → Nat)) => [(x, .inr (7, [.ref oc, .ref oz, .ref oy, .int (nI k0), .int (nI k1), .ref pa, .int (nI ps), .ref o, .ref o5, .ref o4, .ref o6, .ref o1])), (o, .inr (2, [.ref oc, .ref q0, .ref ra, .int (nI ll), .int (nI lo), .int (nI lt)])), (q0, .inr (3, [.ref q1, .int (nI u.1), .int (nI u.2.1)])), (q1, aN cI 26 u.2.2), (ra, aN cI 400 rc), (oc, .inr (0, [.ref a1, .ref a2, .int (nI nl), .int (nI nv)])), (a1, aN cI 640 g), (a2, aN cI 80 z)])) 0 0 (mA [(x, .inr (7, [.ref oc, .ref oz, .ref oy, .int (nI k0), .int (nI k1), .ref pa, .int (nI ps), .ref o, .ref o5, .ref o4, .ref o6, .ref o1])), (o, .inr (2, [.ref oc, .ref q0, .ref ra, .int (nI ll), .int (nI lo), .int (nI lt)])), (q0, .inr (3, [.ref q1, .int (nI n1), .int (nI n2)])), (q1, aN cI 26 pt), (ra, aN cI 400 rc), (oc, .inr (0, [.ref a1, .ref a2, .int (nI nl), .int (nI nv)])), (a1, aN cI 640 g), (a2, aN cI 80 z)]) := by
  refine Met.ofW (cc := cX7_parted) (maxL := 8) (ret := (some .int)) (by decide) rfl ?_
  intro p e s m args below meth c s₁ BB hml hv
  obtain ⟨hargs, hP, hD0, hK⟩ := hv
  have hx := BB.exec
  have hb := BB.bytes
  have hr := BB.returns
  have hts := atoms_spec (ws := wsX7_parted) BB.pre
  have hown : s.vm.findClass RX7 = some m.cls := findClass_of_methodNamed BB.named
  have hlocks := BB.notSynchronized
  have hcf : CallFix p m c cX7_parted 8 s args wsX7_parted RX7 := ⟨hx, hb, hml, hown, hts⟩
  obtain ⟨A, hAe⟩ : ∃ A, A = mA [(x, .inr (7, [.ref oc, .ref oz, .ref oy, .int (nI k0), .int (nI k1), .ref pa, .int (nI ps), .ref o, .ref o5, .ref o4, .ref o6, .ref o1])), (o, .inr (2, [.ref oc, .ref q0, .ref ra, .int (nI ll), .int (nI lo), .int (nI lt)])), (q0, .inr (3, [.ref q1, .int (nI n1), .int (nI n2)])), (q1, aN cI 26 pt), (ra, aN cI 400 rc), (oc, .inr (0, [.ref a1, .ref a2, .int (nI nl), .int (nI nv)])), (a1, aN cI 640 g), (a2, aN cI 80 z)] := ⟨_, rfl⟩
  have hD : va_D A [(x, .inr (7, [.ref oc, .ref oz, .ref oy, .int (nI k0), .int (nI k1), .ref pa, .int (nI ps), .ref o, .ref o5, .ref o4, .ref o6, .ref o1])), (o, .inr (2, [.ref oc, .ref q0, .ref ra, .int (nI ll), .int (nI lo), .int (nI lt)])), (q0, .inr (3, [.ref q1, .int (nI n1), .int (nI n2)])), (q1, aN cI 26 pt), (ra, aN cI 400 rc), (oc, .inr (0, [.ref a1, .ref a2, .int (nI nl), .int (nI nv)])), (a1, aN cI 640 g), (a2, aN cI 80 z)] := ⟨hD0.1, fun k q h => by rw [hAe]; exact ⟨k, q.2, h⟩⟩
  have hS : va_S A s.heap s.heap [] := va_S.rf
  rw [← hAe]
  rw [hargs, lg_entry_eq, ← hargs]
  have hl := lv_entry ([.ref x, .int way, .int one, .int oth, .int n]) (n := 8) (Nat.le_of_ble_eq_true rfl)
  generalize (lg_sl ([.ref x, .int way, .int one, .int oth, .int n]) ++ List.replicate (8 - (lg_sl ([.ref x, .int way, .int one, .int oth, .int n])).length) Slot.unset).toArray = ls at hl ⊢
  have hl : lv_has ls 8 [(0, .ref x), (1, .int way), (2, .int one), (3, .int oth), (4, .int n)] := hl
  obtain ⟨Q, hQ⟩ : ∃ Q, Q = MQ below (mQi D A (fun (r : Int32) (u : Nat × Nat × (Nat → Nat)) => r = paR (ixB way 3 && arB one oth n) (ptF (fun w => raB (cN way) z g w nl (cN one) (cN oth) (cN n)) nv 0 false) ∧ (∀ j, u.2.2 j ≤ 126)) (fun (u : Nat × Nat × (Nat → Nat)) => [(x, .inr (7, [.ref oc, .ref oz, .ref oy, .int (nI k0), .int (nI k1), .ref pa, .int (nI ps), .ref o, .ref o5, .ref o4, .ref o6, .ref o1])), (o, .inr (2, [.ref oc, .ref q0, .ref ra, .int (nI ll), .int (nI lo), .int (nI lt)])), (q0, .inr (3, [.ref q1, .int (nI u.1), .int (nI u.2.1)])), (q1, aN cI 26 u.2.2), (ra, aN cI 400 rc), (oc, .inr (0, [.ref a1, .ref a2, .int (nI nl), .int (nI nv)])), (a1, aN cI 640 g), (a2, aN cI 80 z)])) args s 0 0 A := ⟨_, rfl⟩
  rw [← hQ]
  have i_X7 : ∀ w ∈ u_ws RX7 TX7 12, w ∈ wsX7_parted := by decide +kernel
  have f_10 := hts (.fieldLink RX7 10 "SameAgain" "code" "LSameAgain$Code;") (by decide +kernel)
  have f_31 := hts (.fieldLink RX7 31 "SameAgain" "likeness" "LSameAgain$Likeness;") (by decide +kernel)
  refine lv_iload_n hx hb dX7_parted_0 rfl (lv_at hl 1 rfl) ?_
  refine m_rdS (As := [.int way]) (rest := []) (wc := []) hcf (k_X7_isWay (l := l) (D := D) (cI := cI) (cZ := cZ) (a := way) ) (va_cwS 1 hts gX7_parted_X7_isWay rfl rfl rfl yd_X7_isWay.2 ⟨Nat.le_of_ble_eq_true rfl, Nat.le_of_ble_eq_true rfl⟩) (m_preS hK hP hD [] (by decide) rfl) rfl hl.1 rfl (Nat.le_of_ble_eq_true rfl) dX7_parted_1 ⟨Nat.zero_le _, Nat.zero_le _⟩ ?_
  refine m_ifB_eq (tgt := 17) hx hb dX7_parted_4 (by decide) (fun c_4 => ?_) (fun c_4 => ?_)
  · refine lv_bipush (v := (-2)) hx hb dX7_parted_17 (by decide) ?_
    rw [hQ]
    exact m_iwr hx hb hr hlocks (n1, n2, pt) (⟨by rw [paR_f (by first | (simp [c_4]; done) | (simp [c_14]; done))], hpt⟩) hP hS dX7_parted_19
  · refine lv_iload_n hx hb dX7_parted_7 rfl (lv_at hl 2 rfl) ?_
    refine lv_iload_n hx hb dX7_parted_8 rfl (lv_at hl 3 rfl) ?_
    refine lv_iload hx hb dX7_parted_9 (lv_at hl 4 rfl) ?_
    refine m_rdS (As := [.int one, .int oth, .int n]) (rest := []) (wc := []) hcf (k_X7_areRows (l := l) (D := D) (cI := cI) (cZ := cZ) (a := one) (b := oth) (n := n) ) (va_cwS 3 hts gX7_parted_X7_areRows rfl rfl rfl yd_X7_areRows.2 ⟨Nat.le_of_ble_eq_true rfl, Nat.le_of_ble_eq_true rfl⟩) (m_preS hK hP hD [] (by decide) rfl) rfl hl.1 rfl (Nat.le_of_ble_eq_true rfl) dX7_parted_11 ⟨Nat.zero_le _, Nat.zero_le _⟩ ?_
    refine m_ifB_ne (tgt := 20) hx hb dX7_parted_14 (by decide) (fun c_14 => ?_) (fun c_14 => ?_)
    · obtain ⟨e_w, i_w⟩ := ixB_cN (by decide) c_4
      obtain ⟨K1, K2, K3⟩ := arB_iff.mp c_14
      obtain ⟨e_1, i_1⟩ := ixB_cN (by decide) K1
      obtain ⟨e_2, i_2⟩ := ixB_cN (by decide) K2
      obtain ⟨e_n, i_n, j_n⟩ := lnB_cN K3
      have KI : (ixB way 3 && arB one oth n) = true := by rw [c_4, c_14]; rfl
      have hl : lv_has ls 8 [(0, .ref x), (1, .int (nI (cN way))), (2, .int (nI (cN one))), (3, .int (nI (cN oth))), (4, .int (nI (cN n)))] := by rw [← e_w, ← e_1, ← e_2, ← e_n]; exact hl
      refine lv_iconst (v := nI 0) hx hb dX7_parted_20 (by decide) ?_
      refine lv_istore (lv' := [(5, .int (nI 0)), (0, .ref x), (1, .int (nI (cN way))), (2, .int (nI (cN one))), (3, .int (nI (cN oth))), (4, .int (nI (cN n)))]) hx hb dX7_parted_21 hl (by decide) rfl (fun ls hl => ?_)
      refine lv_iconst (v := nI 0) hx hb dX7_parted_23 (by decide) ?_
      refine lv_istore (lv' := [(6, .int (nI 0)), (5, .int (nI 0)), (0, .ref x), (1, .int (nI (cN way))), (2, .int (nI (cN one))), (3, .int (nI (cN oth))), (4, .int (nI (cN n)))]) hx hb dX7_parted_24 hl (by decide) rfl (fun ls hl => ?_)
      have loop_26 : ∀ (fu : Nat) (w m1 m2 : Nat) (mt : Nat → Nat) (we : Bool) (hfu : nv - w < fu)  (hw2 : w ≤ nv) (hmt : ∀ j, mt j ≤ 126) (hR : ptF (fun w => raB (cN way) z g w nl (cN one) (cN oth) (cN n)) nv 0 false = ptF (fun w => raB (cN way) z g w nl (cN one) (cN oth) (cN n)) (nv - w) w we) (H : Heap) (locs : List Loc) (hP : va_P D vwCl [(x, .inr (7, [.ref oc, .ref oz, .ref oy, .int (nI k0), .int (nI k1), .ref pa, .int (nI ps), .ref o, .ref o5, .ref o4, .ref o6, .ref o1])), (o, .inr (2, [.ref oc, .ref q0, .ref ra, .int (nI ll), .int (nI lo), .int (nI lt)])), (q0, .inr (3, [.ref q1, .int (nI m1), .int (nI m2)])), (q1, aN cI 26 mt), (ra, aN cI 400 rc), (oc, .inr (0, [.ref a1, .ref a2, .int (nI nl), .int (nI nv)])), (a1, aN cI 640 g), (a2, aN cI 80 z)] H) (hD : va_D A [(x, .inr (7, [.ref oc, .ref oz, .ref oy, .int (nI k0), .int (nI k1), .ref pa, .int (nI ps), .ref o, .ref o5, .ref o4, .ref o6, .ref o1])), (o, .inr (2, [.ref oc, .ref q0, .ref ra, .int (nI ll), .int (nI lo), .int (nI lt)])), (q0, .inr (3, [.ref q1, .int (nI m1), .int (nI m2)])), (q1, aN cI 26 mt), (ra, aN cI 400 rc), (oc, .inr (0, [.ref a1, .ref a2, .int (nI nl), .int (nI nv)])), (a1, aN cI 640 g), (a2, aN cI 80 z)]) (hS : va_S A s.heap H locs) (ls : Array Slot) (hl : lv_has ls 8 [(0, .ref x), (1, .int (nI (cN way))), (2, .int (nI (cN one))), (3, .int (nI (cN oth))), (4, .int (nI (cN n))), (5, .int (bI we)), (6, .int (nI w))]), W p l e (headSpec wsX7_parted { frames := 6, cells := 0, slots := 0, locals := 147 }).room s m args below meth c H locs 0 0 Q (F0 m 26 ls []) := by
        intro fu
        induction fu with
        | zero => intro w m1 m2 mt we hfu; exact absurd hfu (Nat.not_lt_zero _)
        | succ fu ih_26 =>
          intro w m1 m2 mt we hfu hw2 hmt hR H locs hP hD hS ls hl
          refine lv_iload hx hb dX7_parted_26 (lv_at hl 6 rfl) ?_
          refine lv_aload_n hx hb dX7_parted_28 rfl (lv_at hl 0 rfl) ?_
          refine va_get (D := D) (ci := 7) (v := .ref oc) (C := RX7) (T := TX7) (N := 12) hx hb hts i_X7 hown hK.1 hP 0 rfl rfl 0 (by decide) f_10 (fun _ h9 => h9) rfl dX7_parted_29 ?_
          refine m_rdV (As := []) (rest := [.int (nI w)]) (wc := [(oc, .inr (0, [.ref a1, .ref a2, .int (nI nl), .int (nI nv)])), (a1, aN cI 640 g), (a2, aN cI 80 z)]) hcf (k_X0_versions (l := l) (D := D) (cI := cI) (cZ := cZ) (o := oc) (a1 := a1) (a2 := a2) (nl := nl) (nv := nv) (g := g) (z := z) ) (cwV 0 hts gX7_parted_X0_versions rfl rfl rfl yd_X0_versions ⟨Nat.le_of_ble_eq_true rfl, Nat.le_of_ble_eq_true rfl⟩) (m_preV hK hP hD [5, 6, 7] (by decide) rfl rfl rfl) rfl hl.1 rfl (Nat.le_of_ble_eq_true rfl) dX7_parted_32 ⟨Nat.zero_le _, Nat.zero_le _⟩ ?_
          refine m_cmp_ge (tgt := 77) hx hb dX7_parted_35 (by decide) (by omega) (by omega) (fun c_35 => ?_) (fun c_35 => ?_)
          · refine lv_bipush (v := (-6)) hx hb dX7_parted_77 (by decide) ?_
            rw [hQ]
            have E9 : nv - w = 0 := by omega
            rw [E9] at hR
            exact m_iwr hx hb hr hlocks (m1, m2, mt) (⟨by rw [paR_t KI, hR]; rfl, hmt⟩) hP hS dX7_parted_79
          · refine lv_aload_n hx hb dX7_parted_38 rfl (lv_at hl 0 rfl) ?_
            refine va_get (D := D) (ci := 7) (v := .ref o) (C := RX7) (T := TX7) (N := 12) hx hb hts i_X7 hown hK.1 hP 0 rfl rfl 7 (by decide) f_31 (fun _ h9 => h9) rfl dX7_parted_39 ?_
            refine lv_iload hx hb dX7_parted_42 (lv_at hl 6 rfl) ?_
            refine lv_iload_n hx hb dX7_parted_44 rfl (lv_at hl 1 rfl) ?_
            refine lv_iload_n hx hb dX7_parted_45 rfl (lv_at hl 2 rfl) ?_
            refine lv_iload_n hx hb dX7_parted_46 rfl (lv_at hl 3 rfl) ?_
            refine lv_iload hx hb dX7_parted_47 (lv_at hl 4 rfl) ?_
            refine m_wrV (As := [.int (nI w), .int (nI (cN way)), .int (nI (cN one)), .int (nI (cN oth)), .int (nI (cN n))]) (rest := []) (wc := [(o, .inr (2, [.ref oc, .ref q0, .ref ra, .int (nI ll), .int (nI lo), .int (nI lt)])), (q0, .inr (3, [.ref q1, .int (nI m1), .int (nI m2)])), (q1, aN cI 26 mt), (ra, aN cI 400 rc), (oc, .inr (0, [.ref a1, .ref a2, .int (nI nl), .int (nI nv)])), (a1, aN cI 640 g), (a2, aN cI 80 z)]) hcf (k_X2_rowsAlike (l := l) (D := D) (cI := cI) (cZ := cZ) (v := w) (way := cN way) (one := cN one) (other := cN oth) (n := cN n) (o := o) (oc := oc) (q0 := q0) (ra := ra) (ll := ll) (lo := lo) (lt := lt) (q1 := q1) (n1 := m1) (n2 := m2) (pt := mt) (rc := rc) (a1 := a1) (a2 := a2) (nl := nl) (nv := nv) (g := g) (z := z) (hnl := hnl) (hnv := hnv) (hz := hz) (hg := hg) (hpt := hmt) (hw := by omega) (hv := by omega) (h1 := by omega) (h2 := by omega) (hn := by omega)) (cwV 5 hts gX7_parted_X2_rowsAlike rfl rfl rfl yd_X2_rowsAlike ⟨Nat.le_of_ble_eq_true rfl, Nat.le_of_ble_eq_true rfl⟩) hK hP hD hS [1, 2, 3, 4, 5, 6, 7] (by decide) rfl rfl rfl rfl hl.1 rfl (Nat.le_of_ble_eq_true rfl) dX7_parted_49 ⟨Nat.zero_le _, Nat.zero_le _⟩ (fun _ => rfl) (fun (u : Nat × Nat × (Nat → Nat)) => [(x, .inr (7, [.ref oc, .ref oz, .ref oy, .int (nI k0), .int (nI k1), .ref pa, .int (nI ps), .ref o, .ref o5, .ref o4, .ref o6, .ref o1])), (o, .inr (2, [.ref oc, .ref q0, .ref ra, .int (nI ll), .int (nI lo), .int (nI lt)])), (q0, .inr (3, [.ref q1, .int (nI u.1), .int (nI u.2.1)])), (q1, aN cI 26 u.2.2), (ra, aN cI 400 rc), (oc, .inr (0, [.ref a1, .ref a2, .int (nI nl), .int (nI nv)])), (a1, aN cI 640 g), (a2, aN cI 80 z)]) (fun _ => rfl) (fun r u H locs hp_49 hP hD hS => ?_)
            obtain ⟨n1u_49, n2u_49, ptu_49⟩ := u
            have hP : va_P D vwCl [(x, .inr (7, [.ref oc, .ref oz, .ref oy, .int (nI k0), .int (nI k1), .ref pa, .int (nI ps), .ref o, .ref o5, .ref o4, .ref o6, .ref o1])), (o, .inr (2, [.ref oc, .ref q0, .ref ra, .int (nI ll), .int (nI lo), .int (nI lt)])), (q0, .inr (3, [.ref q1, .int (nI n1u_49), .int (nI n2u_49)])), (q1, aN cI 26 ptu_49), (ra, aN cI 400 rc), (oc, .inr (0, [.ref a1, .ref a2, .int (nI nl), .int (nI nv)])), (a1, aN cI 640 g), (a2, aN cI 80 z)] H := hP
            have hD : va_D A [(x, .inr (7, [.ref oc, .ref oz, .ref oy, .int (nI k0), .int (nI k1), .ref pa, .int (nI ps), .ref o, .ref o5, .ref o4, .ref o6, .ref o1])), (o, .inr (2, [.ref oc, .ref q0, .ref ra, .int (nI ll), .int (nI lo), .int (nI lt)])), (q0, .inr (3, [.ref q1, .int (nI n1u_49), .int (nI n2u_49)])), (q1, aN cI 26 ptu_49), (ra, aN cI 400 rc), (oc, .inr (0, [.ref a1, .ref a2, .int (nI nl), .int (nI nv)])), (a1, aN cI 640 g), (a2, aN cI 80 z)] := hD
            try dsimp only at hp_49
            obtain ⟨hr_hp_49, hp_49⟩ := hp_49
            rw [hr_hp_49]
            refine lv_istore (lv' := [(7, .int (bI (raB (cN way) z g w nl (cN one) (cN oth) (cN n)))), (0, .ref x), (1, .int (nI (cN way))), (2, .int (nI (cN one))), (3, .int (nI (cN oth))), (4, .int (nI (cN n))), (5, .int (bI we)), (6, .int (nI w))]) hx hb dX7_parted_52 hl (by decide) rfl (fun ls hl => ?_)
            refine lv_iload hx hb dX7_parted_54 (lv_at hl 6 rfl) ?_
            refine m_ifB_eq (tgt := 67) hx hb dX7_parted_56 (by decide) (fun c_56 => ?_) (fun c_56 => ?_)
            · refine lv_iload hx hb dX7_parted_67 (lv_at hl 0 rfl) ?_
              refine lv_istore (lv' := [(5, .int (bI (raB (cN way) z g w nl (cN one) (cN oth) (cN n)))), (7, .int (bI (raB (cN way) z g w nl (cN one) (cN oth) (cN n)))), (0, .ref x), (1, .int (nI (cN way))), (2, .int (nI (cN one))), (3, .int (nI (cN oth))), (4, .int (nI (cN n))), (6, .int (nI w))]) hx hb dX7_parted_69 hl (by decide) rfl (fun ls hl => ?_)
              refine lv_iinc (v := nI (w + 1)) (lv' := [(6, .int (nI (w + 1))), (5, .int (bI (raB (cN way) z g w nl (cN one) (cN oth) (cN n)))), (7, .int (bI (raB (cN way) z g w nl (cN one) (cN oth) (cN n)))), (0, .ref x), (1, .int (nI (cN way))), (2, .int (nI (cN one))), (3, .int (nI (cN oth))), (4, .int (nI (cN n)))]) hx hb dX7_parted_71 hl (k := 7) rfl ((nI_succ _).symm) (by decide) rfl (fun ls hl => ?_)
              refine lv_goto (tgt := 26) hx hb dX7_parted_74 (by decide) ?_
              have E9 : nv - w = (nv - (w + 1)) + 1 := by omega
              rw [E9] at hR
              exact ih_26 (w + 1) _ _ _ _ (by omega) (by omega) hp_49.1 (by rw [hR, ptF_f (A := (fun w => raB (cN way) z g w nl (cN one) (cN oth) (cN n))) (by first | exact Or.inl c_56 | exact Or.inr c_61)]) _ _ hP hD hS ls (lv_sub hl [3, 4, 5, 6, 7, 1, 0] rfl)
            · refine lv_iload hx hb dX7_parted_59 (lv_at hl 0 rfl) ?_
              refine m_ifB_ne (tgt := 67) hx hb dX7_parted_61 (by decide) (fun c_61 => ?_) (fun c_61 => ?_)
              · refine lv_iload hx hb dX7_parted_67 (lv_at hl 0 rfl) ?_
                refine lv_istore (lv' := [(5, .int (bI (raB (cN way) z g w nl (cN one) (cN oth) (cN n)))), (7, .int (bI (raB (cN way) z g w nl (cN one) (cN oth) (cN n)))), (0, .ref x), (1, .int (nI (cN way))), (2, .int (nI (cN one))), (3, .int (nI (cN oth))), (4, .int (nI (cN n))), (6, .int (nI w))]) hx hb dX7_parted_69 hl (by decide) rfl (fun ls hl => ?_)
                refine lv_iinc (v := nI (w + 1)) (lv' := [(6, .int (nI (w + 1))), (5, .int (bI (raB (cN way) z g w nl (cN one) (cN oth) (cN n)))), (7, .int (bI (raB (cN way) z g w nl (cN one) (cN oth) (cN n)))), (0, .ref x), (1, .int (nI (cN way))), (2, .int (nI (cN one))), (3, .int (nI (cN oth))), (4, .int (nI (cN n)))]) hx hb dX7_parted_71 hl (k := 7) rfl ((nI_succ _).symm) (by decide) rfl (fun ls hl => ?_)
                refine lv_goto (tgt := 26) hx hb dX7_parted_74 (by decide) ?_
                have E9 : nv - w = (nv - (w + 1)) + 1 := by omega
                rw [E9] at hR
                exact ih_26 (w + 1) _ _ _ _ (by omega) (by omega) hp_49.1 (by rw [hR, ptF_f (A := (fun w => raB (cN way) z g w nl (cN one) (cN oth) (cN n))) (by first | exact Or.inl c_56 | exact Or.inr c_61)]) _ _ hP hD hS ls (lv_sub hl [3, 4, 5, 6, 7, 1, 0] rfl)
              · refine lv_iload hx hb dX7_parted_64 (lv_at hl 7 rfl) ?_
                rw [hQ]
                have E9 : nv - w = (nv - (w + 1)) + 1 := by omega
                rw [E9] at hR
                exact m_iwr hx hb hr hlocks (n1u_49, n2u_49, ptu_49) (⟨by rw [paR_t KI, hR, ptF_t (A := (fun w => raB (cN way) z g w nl (cN one) (cN oth) (cN n))) c_56 c_61], hp_49.1⟩) hP hS dX7_parted_66
      exact loop_26 (nv + 1) 0 n1 n2 pt false (by omega) (by omega) hpt rfl _ _ hP hD hS ls (lv_sub hl [2, 3, 4, 5, 6, 1, 0] rfl)
    · refine lv_bipush (v := (-2)) hx hb dX7_parted_17 (by decide) ?_
      rw [hQ]
      exact m_iwr hx hb hr hlocks (n1, n2, pt) (⟨by rw [paR_f (by first | (simp [c_4]; done) | (simp [c_14]; done))], hpt⟩) hP hS dX7_parted_19

theorem rfB_e {nv : Nat} (h : nv ≤ 4) (h1 : 1 ≤ nv) : rfQ (nv - 1) (nI (nv - 1)) false 0 = -1 ∧ ∀ b, rfQ (nv - 1) (nI (nv - 1)) b 0 = -1 := by
  have e : ixB (nI (nv - 1)) (nv - 1) = false := ixB_nIf (Nat.le_refl _) (by omega)
  exact ⟨rfQ_u e, fun b => rfQ_u e⟩
theorem rfB_n {nv : Nat} {v : Int32} {b : Bool} (h : nv ≤ 4) (h1 : 1 ≤ nv) (hv : ¬ v = nI (nv - 1)) : rfQ nv v b 0 = rfQ (nv - 1) v b 0 := by
  have e : ixB v nv = ixB v (nv - 1) := by
    cases q : ixB v nv with
    | true =>
      obtain ⟨j, hj, rfl⟩ := ixB_of (by omega) q
      exact (ixB_nI (by have : j ≠ nv - 1 := fun e => hv (by rw [e]); omega) (by omega)).symm
    | false =>
      cases q2 : ixB v (nv - 1) with
      | false => rfl
      | true =>
        obtain ⟨j, hj, rfl⟩ := ixB_of (by omega) q2
        rw [ixB_nI (by omega) (by omega)] at q
        cases q
  unfold rfQ
  rw [e]

theorem yd_X7_refusalBehind : yX7_refusalBehind.cls = RX7 ∧ yX7_refusalBehind.cls ≠ "java/lang/invoke/MethodHandle" ∧ yX7_refusalBehind.cls ≠ "java/lang/invoke/VarHandle" ∧ (parseMethodDescriptor yX7_refusalBehind.desc).map (fun d => d.parameters.length) = some 2 := by decide +kernel
set_option maxHeartbeats 4000000 in
set_option maxRecDepth 100000 in
theorem k_X7_refusalBehind (l : Launch) (D : va_G) (cI cZ : ClassId) (x oc oz oy k0 k1 pa ps o o5 o4 o6 o1 : Nat) (a1 a2 nl nv : Nat) (z g : Nat → Nat) (ve : Int32) (b : Bool) (hnl : nl ≤ 20) (hnv : nv ≤ 4) (hnv1 : 1 ≤ nv) : Met l yX7_refusalBehind wsX7_refusalBehind ({ frames := 2, cells := 0, slots := 0, locals := 43 }) (mPc [.ref x, .int ve, .int (bI b)] D cI cZ [(x, .inr (7, [.ref oc, .ref oz, .ref oy, .int (nI k0), .int (nI k1), .ref pa, .int (nI ps), .ref o, .ref o5, .ref o4, .ref o6, .ref o1])), (oc, .inr (0, [.ref a1, .ref a2, .int (nI nl), .int (nI nv)])), (a1, aN cI 640 g), (a2, aN cI 80 z)]) (QcRead (rfQ (nv - 1) ve b 0)) 0 0 (fun _ => False) := by
  refine Met.ofW (cc := cX7_refusalBehind) (maxL := 3) (ret := (some .int)) (by decide) rfl ?_
  intro p e s m args below meth c s₁ BB hml hv
  obtain ⟨hargs, hP, hD0, hK⟩ := hv
  have hx := BB.exec
  have hb := BB.bytes
  have hr := BB.returns
  have hts := atoms_spec (ws := wsX7_refusalBehind) BB.pre
  have hown : s.vm.findClass RX7 = some m.cls := findClass_of_methodNamed BB.named
  have hlocks := BB.notSynchronized
  have hcf : CallFix p m c cX7_refusalBehind 3 s args wsX7_refusalBehind RX7 := ⟨hx, hb, hml, hown, hts⟩
  have hD := hD0
  rw [hargs, lg_entry_eq, ← hargs]
  have hl := lv_entry ([.ref x, .int ve, .int (bI b)]) (n := 3) (Nat.le_of_ble_eq_true rfl)
  generalize (lg_sl ([.ref x, .int ve, .int (bI b)]) ++ List.replicate (3 - (lg_sl ([.ref x, .int ve, .int (bI b)])).length) Slot.unset).toArray = ls at hl ⊢
  have hl : lv_has ls 3 [(0, .ref x), (1, .int ve), (2, .int (bI b))] := hl
  obtain ⟨Q, hQ⟩ : ∃ Q, Q = MQ below (QcRead (rfQ (nv - 1) ve b 0)) args s 0 0 (fun _ => False) := ⟨_, rfl⟩
  rw [← hQ]
  have i_X7 : ∀ w ∈ u_ws RX7 TX7 12, w ∈ wsX7_refusalBehind := by decide +kernel
  have f_10 := hts (.fieldLink RX7 10 "SameAgain" "code" "LSameAgain$Code;") (by decide +kernel)
  refine lv_iload_n hx hb dX7_refusalBehind_0 rfl (lv_at hl 1 rfl) ?_
  refine lv_aload_n hx hb dX7_refusalBehind_1 rfl (lv_at hl 0 rfl) ?_
  refine va_get (D := D) (ci := 7) (v := .ref oc) (C := RX7) (T := TX7) (N := 12) hx hb hts i_X7 hown hK.1 hP 0 rfl rfl 0 (by decide) f_10 (fun _ h9 => h9) rfl dX7_refusalBehind_2 ?_
  refine m_rdV (As := []) (rest := [.int ve]) (wc := [(oc, .inr (0, [.ref a1, .ref a2, .int (nI nl), .int (nI nv)])), (a1, aN cI 640 g), (a2, aN cI 80 z)]) hcf (k_X0_versions (l := l) (D := D) (cI := cI) (cZ := cZ) (o := oc) (a1 := a1) (a2 := a2) (nl := nl) (nv := nv) (g := g) (z := z) ) (cwV 0 hts gX7_refusalBehind_X0_versions rfl rfl rfl yd_X0_versions ⟨Nat.le_of_ble_eq_true rfl, Nat.le_of_ble_eq_true rfl⟩) (m_preV hK hP hD [1, 2, 3] (by decide) rfl rfl rfl) rfl hl.1 rfl (Nat.le_of_ble_eq_true rfl) dX7_refusalBehind_5 ⟨Nat.zero_le _, Nat.zero_le _⟩ ?_
  refine lv_iconst (v := nI 1) hx hb dX7_refusalBehind_8 (by decide) ?_
  refine m_sub hx hb (by omega) dX7_refusalBehind_9 ?_
  refine lv_icmp_ne (tgt := 17) hx hb dX7_refusalBehind_10 (by decide) (fun c_10 => ?_) (fun c_10 => ?_)
  · refine lv_aload_n hx hb dX7_refusalBehind_17 rfl (lv_at hl 0 rfl) ?_
    refine lv_iload_n hx hb dX7_refusalBehind_18 rfl (lv_at hl 1 rfl) ?_
    refine lv_iload_n hx hb dX7_refusalBehind_19 rfl (lv_at hl 2 rfl) ?_
    refine m_rdV (As := [.int ve, .int (bI b)]) (rest := []) (wc := [(x, .inr (7, [.ref oc, .ref oz, .ref oy, .int (nI k0), .int (nI k1), .ref pa, .int (nI ps), .ref o, .ref o5, .ref o4, .ref o6, .ref o1])), (oc, .inr (0, [.ref a1, .ref a2, .int (nI nl), .int (nI nv)])), (a1, aN cI 640 g), (a2, aN cI 80 z)]) hcf (k_X7_refusalIn (l := l) (D := D) (cI := cI) (cZ := cZ) (ve := ve) (b := b) (x := x) (oc := oc) (oz := oz) (oy := oy) (k0 := k0) (k1 := k1) (pa := pa) (ps := ps) (o := o) (o5 := o5) (o4 := o4) (o6 := o6) (o1 := o1) (a1 := a1) (a2 := a2) (nl := nl) (nv := nv) (g := g) (z := z) (hnl := hnl) (hnv := hnv)) (cwV 2 hts gX7_refusalBehind_X7_refusalIn rfl rfl rfl yd_X7_refusalIn ⟨Nat.le_of_ble_eq_true rfl, Nat.le_of_ble_eq_true rfl⟩) (m_preV hK hP hD [0, 1, 2, 3] (by decide) rfl rfl rfl) rfl hl.1 rfl (Nat.le_of_ble_eq_true rfl) dX7_refusalBehind_20 ⟨Nat.zero_le _, Nat.zero_le _⟩ ?_
    rw [hQ]
    exact m_ird hx hb hr hlocks (rfB_n hnv hnv1 c_10) dX7_refusalBehind_23
  · refine lv_iconst (v := (-1)) hx hb dX7_refusalBehind_13 (by decide) ?_
    refine lv_goto (tgt := 23) hx hb dX7_refusalBehind_14 (by decide) ?_
    rw [hQ]
    exact m_ird hx hb hr hlocks (by rw [c_10, (rfB_e hnv hnv1).2]) dX7_refusalBehind_23

theorem yd_X7_wasMendedInFirstAlone : yX7_wasMendedInFirstAlone.cls = RX7 ∧ yX7_wasMendedInFirstAlone.cls ≠ "java/lang/invoke/MethodHandle" ∧ yX7_wasMendedInFirstAlone.cls ≠ "java/lang/invoke/VarHandle" ∧ (parseMethodDescriptor yX7_wasMendedInFirstAlone.desc).map (fun d => d.parameters.length) = some 3 := by decide +kernel
set_option maxHeartbeats 4000000 in
set_option maxRecDepth 100000 in
theorem k_X7_wasMendedInFirstAlone (l : Launch) (D : va_G) (cI cZ : ClassId) (x oc oz oy k0 k1 pa ps o o5 o4 o6 o1 : Nat) (a1 a2 nl nv : Nat) (z g : Nat → Nat) (v a b : Nat) (hnl : nl ≤ 20) (hnv : nv ≤ 4) (hz : ∀ j, z j ≤ 8) (hg : ∀ j, g j ≤ 126) (hv : v + 1 < nv) (h1 : a < nl) (h2 : b < nl) : Met l yX7_wasMendedInFirstAlone wsX7_wasMendedInFirstAlone ({ frames := 2, cells := 0, slots := 0, locals := 48 }) (mPc [.ref x, .int (nI v), .int (nI a), .int (nI b)] D cI cZ [(x, .inr (7, [.ref oc, .ref oz, .ref oy, .int (nI k0), .int (nI k1), .ref pa, .int (nI ps), .ref o, .ref o5, .ref o4, .ref o6, .ref o1])), (oc, .inr (0, [.ref a1, .ref a2, .int (nI nl), .int (nI nv)])), (a1, aN cI 640 g), (a2, aN cI 80 z)]) (QcRead (bI (meB z g v a b))) 0 0 (fun _ => False) := by
  refine Met.ofW (cc := cX7_wasMendedInFirstAlone) (maxL := 4) (ret := (some .boolean)) (by decide) rfl ?_
  intro p e s m args below meth c s₁ BB hml hv
  obtain ⟨hargs, hP, hD0, hK⟩ := hv
  have hx := BB.exec
  have hb := BB.bytes
  have hr := BB.returns
  have hts := atoms_spec (ws := wsX7_wasMendedInFirstAlone) BB.pre
  have hown : s.vm.findClass RX7 = some m.cls := findClass_of_methodNamed BB.named
  have hlocks := BB.notSynchronized
  have hcf : CallFix p m c cX7_wasMendedInFirstAlone 4 s args wsX7_wasMendedInFirstAlone RX7 := ⟨hx, hb, hml, hown, hts⟩
  have hD := hD0
  rw [hargs, lg_entry_eq, ← hargs]
  have hl := lv_entry ([.ref x, .int (nI v), .int (nI a), .int (nI b)]) (n := 4) (Nat.le_of_ble_eq_true rfl)
  generalize (lg_sl ([.ref x, .int (nI v), .int (nI a), .int (nI b)]) ++ List.replicate (4 - (lg_sl ([.ref x, .int (nI v), .int (nI a), .int (nI b)])).length) Slot.unset).toArray = ls at hl ⊢
  have hl : lv_has ls 4 [(0, .ref x), (1, .int (nI v)), (2, .int (nI a)), (3, .int (nI b))] := hl
  obtain ⟨Q, hQ⟩ : ∃ Q, Q = MQ below (QcRead (bI (meB z g v a b))) args s 0 0 (fun _ => False) := ⟨_, rfl⟩
  rw [← hQ]
  have i_X7 : ∀ w ∈ u_ws RX7 TX7 12, w ∈ wsX7_wasMendedInFirstAlone := by decide +kernel
  have f_10 := hts (.fieldLink RX7 10 "SameAgain" "code" "LSameAgain$Code;") (by decide +kernel)
  refine lv_aload_n hx hb dX7_wasMendedInFirstAlone_0 rfl (lv_at hl 0 rfl) ?_
  refine va_get (D := D) (ci := 7) (v := .ref oc) (C := RX7) (T := TX7) (N := 12) hx hb hts i_X7 hown hK.1 hP 0 rfl rfl 0 (by decide) f_10 (fun _ h9 => h9) rfl dX7_wasMendedInFirstAlone_1 ?_
  refine lv_iload_n hx hb dX7_wasMendedInFirstAlone_4 rfl (lv_at hl 1 rfl) ?_
  refine lv_iload_n hx hb dX7_wasMendedInFirstAlone_5 rfl (lv_at hl 2 rfl) ?_
  refine m_rdV (As := [.int (nI v), .int (nI a)]) (rest := []) (wc := [(oc, .inr (0, [.ref a1, .ref a2, .int (nI nl), .int (nI nv)])), (a1, aN cI 640 g), (a2, aN cI 80 z)]) hcf (k_X0_staysAsItIs (l := l) (D := D) (cI := cI) (cZ := cZ) (v := v) (ln := a) (o := oc) (a1 := a1) (a2 := a2) (nl := nl) (nv := nv) (g := g) (z := z) (hnl := hnl) (hnv := hnv) (hz := hz) (hg := hg) (hv := hv) (hln := h1)) (cwV 2 hts gX7_wasMendedInFirstAlone_X0_staysAsItIs rfl rfl rfl yd_X0_staysAsItIs ⟨Nat.le_of_ble_eq_true rfl, Nat.le_of_ble_eq_true rfl⟩) (m_preV hK hP hD [1, 2, 3] (by decide) rfl rfl rfl) rfl hl.1 rfl (Nat.le_of_ble_eq_true rfl) dX7_wasMendedInFirstAlone_6 ⟨Nat.zero_le _, Nat.zero_le _⟩ ?_
  refine m_ifB_ne (tgt := 28) hx hb dX7_wasMendedInFirstAlone_9 (by decide) (fun c_9 => ?_) (fun c_9 => ?_)
  · refine lv_iconst (v := nI 0) hx hb dX7_wasMendedInFirstAlone_28 (by decide) ?_
    rw [hQ]
    exact m_zrd hx hb hr hlocks (bb_zero (by unfold meB; first | (rw [c_9]; rfl) | (rw [c_21, Bool.and_false]))) dX7_wasMendedInFirstAlone_29
  · refine lv_aload_n hx hb dX7_wasMendedInFirstAlone_12 rfl (lv_at hl 0 rfl) ?_
    refine va_get (D := D) (ci := 7) (v := .ref oc) (C := RX7) (T := TX7) (N := 12) hx hb hts i_X7 hown hK.1 hP 0 rfl rfl 0 (by decide) f_10 (fun _ h9 => h9) rfl dX7_wasMendedInFirstAlone_13 ?_
    refine lv_iload_n hx hb dX7_wasMendedInFirstAlone_16 rfl (lv_at hl 1 rfl) ?_
    refine lv_iload_n hx hb dX7_wasMendedInFirstAlone_17 rfl (lv_at hl 3 rfl) ?_
    refine m_rdV (As := [.int (nI v), .int (nI b)]) (rest := []) (wc := [(oc, .inr (0, [.ref a1, .ref a2, .int (nI nl), .int (nI nv)])), (a1, aN cI 640 g), (a2, aN cI 80 z)]) hcf (k_X0_staysAsItIs (l := l) (D := D) (cI := cI) (cZ := cZ) (v := v) (ln := b) (o := oc) (a1 := a1) (a2 := a2) (nl := nl) (nv := nv) (g := g) (z := z) (hnl := hnl) (hnv := hnv) (hz := hz) (hg := hg) (hv := hv) (hln := h2)) (cwV 2 hts gX7_wasMendedInFirstAlone_X0_staysAsItIs rfl rfl rfl yd_X0_staysAsItIs ⟨Nat.le_of_ble_eq_true rfl, Nat.le_of_ble_eq_true rfl⟩) (m_preV hK hP hD [1, 2, 3] (by decide) rfl rfl rfl) rfl hl.1 rfl (Nat.le_of_ble_eq_true rfl) dX7_wasMendedInFirstAlone_18 ⟨Nat.zero_le _, Nat.zero_le _⟩ ?_
    refine m_ifB_eq (tgt := 28) hx hb dX7_wasMendedInFirstAlone_21 (by decide) (fun c_21 => ?_) (fun c_21 => ?_)
    · refine lv_iconst (v := nI 0) hx hb dX7_wasMendedInFirstAlone_28 (by decide) ?_
      rw [hQ]
      exact m_zrd hx hb hr hlocks (bb_zero (by unfold meB; first | (rw [c_9]; rfl) | (rw [c_21, Bool.and_false]))) dX7_wasMendedInFirstAlone_29
    · refine lv_iconst (v := nI 1) hx hb dX7_wasMendedInFirstAlone_24 (by decide) ?_
      refine lv_goto (tgt := 29) hx hb dX7_wasMendedInFirstAlone_25 (by decide) ?_
      rw [hQ]
      exact m_zrd hx hb hr hlocks (bb_one (by unfold meB; rw [c_9, c_21]; rfl)) dX7_wasMendedInFirstAlone_29

theorem raB_there {way : Nat} {z g : Nat → Nat} {v nl one other n : Nat} (h : raB way z g v nl one other n = true) : one + n ≤ nl ∧ other + n ≤ nl := by
  unfold raB at h
  rw [Bool.and_eq_true, decide_eq_true_iff] at h
  omega

theorem yd_X7_mends : yX7_mends.cls = RX7 ∧ yX7_mends.cls ≠ "java/lang/invoke/MethodHandle" ∧ yX7_mends.cls ≠ "java/lang/invoke/VarHandle" ∧ (parseMethodDescriptor yX7_mends.desc).map (fun d => d.parameters.length) = some 4 := by decide +kernel
set_option maxHeartbeats 4000000 in
set_option maxRecDepth 100000 in
theorem k_X7_mends (l : Launch) (D : va_G) (cI cZ : ClassId) (x oz oy k0 k1 pa ps o5 o4 o6 o1 : Nat) (o q0 q1 ra oc a1 a2 ll lo lt n1 n2 nl nv : Nat) (pt rc z g : Nat → Nat) (ve one oth n : Int32) (hnl : nl ≤ 20) (hnv : nv ≤ 4) (hz : ∀ j, z j ≤ 8) (hg : ∀ j, g j ≤ 126) (hpt : ∀ j, pt j ≤ 126) (hnv1 : 1 ≤ nv) : Met l yX7_mends wsX7_mends ({ frames := 6, cells := 0, slots := 0, locals := 147 }) (mPc [.ref x, .int ve, .int one, .int oth, .int n] D cI cZ [(x, .inr (7, [.ref oc, .ref oz, .ref oy, .int (nI k0), .int (nI k1), .ref pa, .int (nI ps), .ref o, .ref o5, .ref o4, .ref o6, .ref o1])), (o, .inr (2, [.ref oc, .ref q0, .ref ra, .int (nI ll), .int (nI lo), .int (nI lt)])), (q0, .inr (3, [.ref q1, .int (nI n1), .int (nI n2)])), (q1, aN cI 26 pt), (ra, aN cI 400 rc), (oc, .inr (0, [.ref a1, .ref a2, .int (nI nl), .int (nI nv)])), (a1, aN cI 640 g), (a2, aN cI 80 z)]) (mQi D (mA [(x, .inr (7, [.ref oc, .ref oz, .ref oy, .int (nI k0), .int (nI k1), .ref pa, .int (nI ps), .ref o, .ref o5, .ref o4, .ref o6, .ref o1])), (o, .inr (2, [.ref oc, .ref q0, .ref ra, .int (nI ll), .int (nI lo), .int (nI lt)])), (q0, .inr (3, [.ref q1, .int (nI n1), .int (nI n2)])), (q1, aN cI 26 pt), (ra, aN cI 400 rc), (oc, .inr (0, [.ref a1, .ref a2, .int (nI nl), .int (nI nv)])), (a1, aN cI 640 g), (a2, aN cI 80 z)]) (fun (r : Int32) (u : Nat × Nat × (Nat → Nat)) => r = rfQ (nv - 1) ve (arB one oth n) (nI (msN z g (cN ve) nl (cN one) (cN oth) (cN n))) ∧ (∀ j, u.2.2 j ≤ 126)) (fun (u : Nat × Nat × (Nat → Nat)) => [(x, .inr (7, [.ref oc, .ref oz, .ref oy, .int (nI k0), .int (nI k1), .ref pa, .int (nI ps), .ref o, .ref o5, .ref o4, .ref o6, .ref o1])), (o, .inr (2, [.ref oc, .ref q0, .ref ra, .int (nI ll), .int (nI lo), .int (nI lt)])), (q0, .inr (3, [.ref q1, .int (nI u.1), .int (nI u.2.1)])), (q1, aN cI 26 u.2.2), (ra, aN cI 400 rc), (oc, .inr (0, [.ref a1, .ref a2, .int (nI nl), .int (nI nv)])), (a1, aN cI 640 g), (a2, aN cI 80 z)])) 0 0 (mA [(x, .inr (7, [.ref oc, .ref oz, .ref oy, .int (nI k0), .int (nI k1), .ref pa, .int (nI ps), .ref o, .ref o5, .ref o4, .ref o6, .ref o1])), (o, .inr (2, [.ref oc, .ref q0, .ref ra, .int (nI ll), .int (nI lo), .int (nI lt)])), (q0, .inr (3, [.ref q1, .int (nI n1), .int (nI n2)])), (q1, aN cI 26 pt), (ra, aN cI 400 rc), (oc, .inr (0, [.ref a1, .ref a2, .int (nI nl), .int (nI nv)])), (a1, aN cI 640 g), (a2, aN cI 80 z)]) := by
  refine Met.ofW (cc := cX7_mends) (maxL := 8) (ret := (some .int)) (by decide) rfl ?_
  intro p e s m args below meth c s₁ BB hml hv
  obtain ⟨hargs, hP, hD0, hK⟩ := hv
  have hx := BB.exec
  have hb := BB.bytes
  have hr := BB.returns
  have hts := atoms_spec (ws := wsX7_mends) BB.pre
  have hown : s.vm.findClass RX7 = some m.cls := findClass_of_methodNamed BB.named
  have hlocks := BB.notSynchronized
  have hcf : CallFix p m c cX7_mends 8 s args wsX7_mends RX7 := ⟨hx, hb, hml, hown, hts⟩
  obtain ⟨A, hAe⟩ : ∃ A, A = mA [(x, .inr (7, [.ref oc, .ref oz, .ref oy, .int (nI k0), .int (nI k1), .ref pa, .int (nI ps), .ref o, .ref o5, .ref o4, .ref o6, .ref o1])), (o, .inr (2, [.ref oc, .ref q0, .ref ra, .int (nI ll), .int (nI lo), .int (nI lt)])), (q0, .inr (3, [.ref q1, .int (nI n1), .int (nI n2)])), (q1, aN cI 26 pt), (ra, aN cI 400 rc), (oc, .inr (0, [.ref a1, .ref a2, .int (nI nl), .int (nI nv)])), (a1, aN cI 640 g), (a2, aN cI 80 z)] := ⟨_, rfl⟩
  have hD : va_D A [(x, .inr (7, [.ref oc, .ref oz, .ref oy, .int (nI k0), .int (nI k1), .ref pa, .int (nI ps), .ref o, .ref o5, .ref o4, .ref o6, .ref o1])), (o, .inr (2, [.ref oc, .ref q0, .ref ra, .int (nI ll), .int (nI lo), .int (nI lt)])), (q0, .inr (3, [.ref q1, .int (nI n1), .int (nI n2)])), (q1, aN cI 26 pt), (ra, aN cI 400 rc), (oc, .inr (0, [.ref a1, .ref a2, .int (nI nl), .int (nI nv)])), (a1, aN cI 640 g), (a2, aN cI 80 z)] := ⟨hD0.1, fun k q h => by rw [hAe]; exact ⟨k, q.2, h⟩⟩
  have hS : va_S A s.heap s.heap [] := va_S.rf
  rw [← hAe]
  rw [hargs, lg_entry_eq, ← hargs]
  have hl := lv_entry ([.ref x, .int ve, .int one, .int oth, .int n]) (n := 8) (Nat.le_of_ble_eq_true rfl)
  generalize (lg_sl ([.ref x, .int ve, .int one, .int oth, .int n]) ++ List.replicate (8 - (lg_sl ([.ref x, .int ve, .int one, .int oth, .int n])).length) Slot.unset).toArray = ls at hl ⊢
  have hl : lv_has ls 8 [(0, .ref x), (1, .int ve), (2, .int one), (3, .int oth), (4, .int n)] := hl
  obtain ⟨Q, hQ⟩ : ∃ Q, Q = MQ below (mQi D A (fun (r : Int32) (u : Nat × Nat × (Nat → Nat)) => r = rfQ (nv - 1) ve (arB one oth n) (nI (msN z g (cN ve) nl (cN one) (cN oth) (cN n))) ∧ (∀ j, u.2.2 j ≤ 126)) (fun (u : Nat × Nat × (Nat → Nat)) => [(x, .inr (7, [.ref oc, .ref oz, .ref oy, .int (nI k0), .int (nI k1), .ref pa, .int (nI ps), .ref o, .ref o5, .ref o4, .ref o6, .ref o1])), (o, .inr (2, [.ref oc, .ref q0, .ref ra, .int (nI ll), .int (nI lo), .int (nI lt)])), (q0, .inr (3, [.ref q1, .int (nI u.1), .int (nI u.2.1)])), (q1, aN cI 26 u.2.2), (ra, aN cI 400 rc), (oc, .inr (0, [.ref a1, .ref a2, .int (nI nl), .int (nI nv)])), (a1, aN cI 640 g), (a2, aN cI 80 z)])) args s 0 0 A := ⟨_, rfl⟩
  rw [← hQ]
  have i_X7 : ∀ w ∈ u_ws RX7 TX7 12, w ∈ wsX7_mends := by decide +kernel
  have f_31 := hts (.fieldLink RX7 31 "SameAgain" "likeness" "LSameAgain$Likeness;") (by decide +kernel)
  refine lv_aload_n hx hb dX7_mends_0 rfl (lv_at hl 0 rfl) ?_
  refine lv_iload_n hx hb dX7_mends_1 rfl (lv_at hl 1 rfl) ?_
  refine lv_iload_n hx hb dX7_mends_2 rfl (lv_at hl 2 rfl) ?_
  refine lv_iload_n hx hb dX7_mends_3 rfl (lv_at hl 3 rfl) ?_
  refine lv_iload hx hb dX7_mends_4 (lv_at hl 4 rfl) ?_
  refine m_rdS (As := [.int one, .int oth, .int n]) (rest := [.int ve, .ref x]) (wc := []) hcf (k_X7_areRows (l := l) (D := D) (cI := cI) (cZ := cZ) (a := one) (b := oth) (n := n) ) (va_cwS 3 hts gX7_mends_X7_areRows rfl rfl rfl yd_X7_areRows.2 ⟨Nat.le_of_ble_eq_true rfl, Nat.le_of_ble_eq_true rfl⟩) (m_preS hK hP hD [] (by decide) rfl) rfl hl.1 rfl (Nat.le_of_ble_eq_true rfl) dX7_mends_6 ⟨Nat.zero_le _, Nat.zero_le _⟩ ?_
  refine m_rdV (As := [.int ve, .int (bI (arB one oth n))]) (rest := []) (wc := [(x, .inr (7, [.ref oc, .ref oz, .ref oy, .int (nI k0), .int (nI k1), .ref pa, .int (nI ps), .ref o, .ref o5, .ref o4, .ref o6, .ref o1])), (oc, .inr (0, [.ref a1, .ref a2, .int (nI nl), .int (nI nv)])), (a1, aN cI 640 g), (a2, aN cI 80 z)]) hcf (k_X7_refusalBehind (l := l) (D := D) (cI := cI) (cZ := cZ) (ve := ve) (b := arB one oth n) (x := x) (oc := oc) (oz := oz) (oy := oy) (k0 := k0) (k1 := k1) (pa := pa) (ps := ps) (o := o) (o5 := o5) (o4 := o4) (o6 := o6) (o1 := o1) (a1 := a1) (a2 := a2) (nl := nl) (nv := nv) (g := g) (z := z) (hnl := hnl) (hnv := hnv) (hnv1 := hnv1)) (cwV 2 hts gX7_mends_X7_refusalBehind rfl rfl rfl yd_X7_refusalBehind ⟨Nat.le_of_ble_eq_true rfl, Nat.le_of_ble_eq_true rfl⟩) (m_preV hK hP hD [0, 5, 6, 7] (by decide) rfl rfl rfl) rfl hl.1 rfl (Nat.le_of_ble_eq_true rfl) dX7_mends_9 ⟨Nat.zero_le _, Nat.zero_le _⟩ ?_
  refine lv_istore (lv' := [(5, .int (rfQ (nv - 1) ve (arB one oth n) 0)), (0, .ref x), (1, .int ve), (2, .int one), (3, .int oth), (4, .int n)]) hx hb dX7_mends_12 hl (by decide) rfl (fun ls hl => ?_)
  refine lv_iload hx hb dX7_mends_14 (lv_at hl 0 rfl) ?_
  refine lv_if_eq (tgt := 22) hx hb dX7_mends_16 (by decide) (fun c_16 => ?_) (fun c_16 => ?_)
  · obtain ⟨K_v, KI⟩ := rfQ_0 c_16
    obtain ⟨e_v, i_v⟩ := ixB_cN (by omega) K_v
    obtain ⟨K1, K2, K3⟩ := arB_iff.mp KI
    obtain ⟨e_1, i_1⟩ := ixB_cN (by decide) K1
    obtain ⟨e_2, i_2⟩ := ixB_cN (by decide) K2
    obtain ⟨e_n, i_n, j_n⟩ := lnB_cN K3
    have hl : lv_has ls 8 [(5, .int (rfQ (nv - 1) ve (arB one oth n) 0)), (0, .ref x), (1, .int (nI (cN ve))), (2, .int (nI (cN one))), (3, .int (nI (cN oth))), (4, .int (nI (cN n)))] := by rw [← e_v, ← e_1, ← e_2, ← e_n]; exact hl
    refine lv_aload_n hx hb dX7_mends_22 rfl (lv_at hl 1 rfl) ?_
    refine va_get (D := D) (ci := 7) (v := .ref o) (C := RX7) (T := TX7) (N := 12) hx hb hts i_X7 hown hK.1 hP 0 rfl rfl 7 (by decide) f_31 (fun _ h9 => h9) rfl dX7_mends_23 ?_
    refine lv_iload_n hx hb dX7_mends_26 rfl (lv_at hl 2 rfl) ?_
    refine lv_iconst (v := nI 1) hx hb dX7_mends_27 (by decide) ?_
    refine lv_iload_n hx hb dX7_mends_28 rfl (lv_at hl 3 rfl) ?_
    refine lv_iload_n hx hb dX7_mends_29 rfl (lv_at hl 4 rfl) ?_
    refine lv_iload hx hb dX7_mends_30 (lv_at hl 5 rfl) ?_
    refine m_wrV (As := [.int (nI (cN ve)), .int (nI 1), .int (nI (cN one)), .int (nI (cN oth)), .int (nI (cN n))]) (rest := []) (wc := [(o, .inr (2, [.ref oc, .ref q0, .ref ra, .int (nI ll), .int (nI lo), .int (nI lt)])), (q0, .inr (3, [.ref q1, .int (nI n1), .int (nI n2)])), (q1, aN cI 26 pt), (ra, aN cI 400 rc), (oc, .inr (0, [.ref a1, .ref a2, .int (nI nl), .int (nI nv)])), (a1, aN cI 640 g), (a2, aN cI 80 z)]) hcf (k_X2_rowsAlike (l := l) (D := D) (cI := cI) (cZ := cZ) (v := cN ve) (way := 1) (one := cN one) (other := cN oth) (n := cN n) (o := o) (oc := oc) (q0 := q0) (ra := ra) (ll := ll) (lo := lo) (lt := lt) (q1 := q1) (n1 := n1) (n2 := n2) (pt := pt) (rc := rc) (a1 := a1) (a2 := a2) (nl := nl) (nv := nv) (g := g) (z := z) (hnl := hnl) (hnv := hnv) (hz := hz) (hg := hg) (hpt := hpt) (hw := by omega) (hv := by omega) (h1 := by omega) (h2 := by omega) (hn := by omega)) (cwV 5 hts gX7_mends_X2_rowsAlike rfl rfl rfl yd_X2_rowsAlike ⟨Nat.le_of_ble_eq_true rfl, Nat.le_of_ble_eq_true rfl⟩) hK hP hD hS [1, 2, 3, 4, 5, 6, 7] (by decide) rfl rfl rfl rfl hl.1 rfl (Nat.le_of_ble_eq_true rfl) dX7_mends_32 ⟨Nat.zero_le _, Nat.zero_le _⟩ (fun _ => rfl) (fun (u : Nat × Nat × (Nat → Nat)) => [(x, .inr (7, [.ref oc, .ref oz, .ref oy, .int (nI k0), .int (nI k1), .ref pa, .int (nI ps), .ref o, .ref o5, .ref o4, .ref o6, .ref o1])), (o, .inr (2, [.ref oc, .ref q0, .ref ra, .int (nI ll), .int (nI lo), .int (nI lt)])), (q0, .inr (3, [.ref q1, .int (nI u.1), .int (nI u.2.1)])), (q1, aN cI 26 u.2.2), (ra, aN cI 400 rc), (oc, .inr (0, [.ref a1, .ref a2, .int (nI nl), .int (nI nv)])), (a1, aN cI 640 g), (a2, aN cI 80 z)]) (fun _ => rfl) (fun r u H locs hp_32 hP hD hS => ?_)
    obtain ⟨n1u_32, n2u_32, ptu_32⟩ := u
    have hP : va_P D vwCl [(x, .inr (7, [.ref oc, .ref oz, .ref oy, .int (nI k0), .int (nI k1), .ref pa, .int (nI ps), .ref o, .ref o5, .ref o4, .ref o6, .ref o1])), (o, .inr (2, [.ref oc, .ref q0, .ref ra, .int (nI ll), .int (nI lo), .int (nI lt)])), (q0, .inr (3, [.ref q1, .int (nI n1u_32), .int (nI n2u_32)])), (q1, aN cI 26 ptu_32), (ra, aN cI 400 rc), (oc, .inr (0, [.ref a1, .ref a2, .int (nI nl), .int (nI nv)])), (a1, aN cI 640 g), (a2, aN cI 80 z)] H := hP
    have hD : va_D A [(x, .inr (7, [.ref oc, .ref oz, .ref oy, .int (nI k0), .int (nI k1), .ref pa, .int (nI ps), .ref o, .ref o5, .ref o4, .ref o6, .ref o1])), (o, .inr (2, [.ref oc, .ref q0, .ref ra, .int (nI ll), .int (nI lo), .int (nI lt)])), (q0, .inr (3, [.ref q1, .int (nI n1u_32), .int (nI n2u_32)])), (q1, aN cI 26 ptu_32), (ra, aN cI 400 rc), (oc, .inr (0, [.ref a1, .ref a2, .int (nI nl), .int (nI nv)])), (a1, aN cI 640 g), (a2, aN cI 80 z)] := hD
    try dsimp only at hp_32
    obtain ⟨hr_hp_32, hp_32⟩ := hp_32
    rw [hr_hp_32]
    refine m_ifB_ne (tgt := 40) hx hb dX7_mends_35 (by decide) (fun c_35 => ?_) (fun c_35 => ?_)
    · have i9 := (raB_there c_35)
      refine lv_iconst (v := nI 0) hx hb dX7_mends_40 (by decide) ?_
      refine lv_istore (lv' := [(6, .int (nI 0)), (5, .int (rfQ (nv - 1) ve (arB one oth n) 0)), (0, .ref x), (1, .int (nI (cN ve))), (2, .int (nI (cN one))), (3, .int (nI (cN oth))), (4, .int (nI (cN n)))]) hx hb dX7_mends_41 hl (by decide) rfl (fun ls hl => ?_)
      refine lv_iconst (v := nI 0) hx hb dX7_mends_43 (by decide) ?_
      refine lv_istore (lv' := [(7, .int (nI 0)), (6, .int (nI 0)), (5, .int (rfQ (nv - 1) ve (arB one oth n) 0)), (0, .ref x), (1, .int (nI (cN ve))), (2, .int (nI (cN one))), (3, .int (nI (cN oth))), (4, .int (nI (cN n)))]) hx hb dX7_mends_44 hl (by decide) rfl (fun ls hl => ?_)
      have loop_46 : ∀ (fu : Nat) (k f : Nat) (hfu : cN n - k < fu)  (hk : k ≤ cN n) (hf : f = mkN (fun k => meB z g (cN ve) (cN one + k) (cN oth + k)) k) (H : Heap) (locs : List Loc) (hP : va_P D vwCl [(x, .inr (7, [.ref oc, .ref oz, .ref oy, .int (nI k0), .int (nI k1), .ref pa, .int (nI ps), .ref o, .ref o5, .ref o4, .ref o6, .ref o1])), (o, .inr (2, [.ref oc, .ref q0, .ref ra, .int (nI ll), .int (nI lo), .int (nI lt)])), (q0, .inr (3, [.ref q1, .int (nI n1u_32), .int (nI n2u_32)])), (q1, aN cI 26 ptu_32), (ra, aN cI 400 rc), (oc, .inr (0, [.ref a1, .ref a2, .int (nI nl), .int (nI nv)])), (a1, aN cI 640 g), (a2, aN cI 80 z)] H) (hD : va_D A [(x, .inr (7, [.ref oc, .ref oz, .ref oy, .int (nI k0), .int (nI k1), .ref pa, .int (nI ps), .ref o, .ref o5, .ref o4, .ref o6, .ref o1])), (o, .inr (2, [.ref oc, .ref q0, .ref ra, .int (nI ll), .int (nI lo), .int (nI lt)])), (q0, .inr (3, [.ref q1, .int (nI n1u_32), .int (nI n2u_32)])), (q1, aN cI 26 ptu_32), (ra, aN cI 400 rc), (oc, .inr (0, [.ref a1, .ref a2, .int (nI nl), .int (nI nv)])), (a1, aN cI 640 g), (a2, aN cI 80 z)]) (hS : va_S A s.heap H locs) (ls : Array Slot) (hl : lv_has ls 8 [(0, .ref x), (1, .int (nI (cN ve))), (2, .int (nI (cN one))), (3, .int (nI (cN oth))), (4, .int (nI (cN n))), (6, .int (nI f)), (7, .int (nI k))]), W p l e (headSpec wsX7_mends { frames := 6, cells := 0, slots := 0, locals := 147 }).room s m args below meth c H locs 0 0 Q (F0 m 46 ls []) := by
        intro fu
        induction fu with
        | zero => intro k f hfu; exact absurd hfu (Nat.not_lt_zero _)
        | succ fu ih_46 =>
          intro k f hfu hk hf H locs hP hD hS ls hl
          refine lv_iload hx hb dX7_mends_46 (lv_at hl 6 rfl) ?_
          refine lv_iload hx hb dX7_mends_48 (lv_at hl 4 rfl) ?_
          refine m_cmp_ge (tgt := 84) hx hb dX7_mends_50 (by decide) (by omega) (by omega) (fun c_50 => ?_) (fun c_50 => ?_)
          · refine lv_iload hx hb dX7_mends_84 (lv_at hl 5 rfl) ?_
            rw [hQ]
            have e9 : k = cN n := by omega
            exact m_iwr hx hb hr hlocks (n1u_32, n2u_32, ptu_32) (⟨by rw [rfQ_v K_v KI, hf, e9]; unfold msN; rw [if_pos c_35], hp_32.1⟩) hP hS dX7_mends_86
          · refine lv_aload_n hx hb dX7_mends_53 rfl (lv_at hl 0 rfl) ?_
            refine lv_iload_n hx hb dX7_mends_54 rfl (lv_at hl 1 rfl) ?_
            refine lv_iload_n hx hb dX7_mends_55 rfl (lv_at hl 2 rfl) ?_
            refine lv_iload hx hb dX7_mends_56 (lv_at hl 6 rfl) ?_
            refine m_add hx hb dX7_mends_58 ?_
            refine lv_iload_n hx hb dX7_mends_59 rfl (lv_at hl 3 rfl) ?_
            refine lv_iload hx hb dX7_mends_60 (lv_at hl 6 rfl) ?_
            refine m_add hx hb dX7_mends_62 ?_
            refine m_rdV (As := [.int (nI (cN ve)), .int (nI ((cN one) + k)), .int (nI ((cN oth) + k))]) (rest := []) (wc := [(x, .inr (7, [.ref oc, .ref oz, .ref oy, .int (nI k0), .int (nI k1), .ref pa, .int (nI ps), .ref o, .ref o5, .ref o4, .ref o6, .ref o1])), (oc, .inr (0, [.ref a1, .ref a2, .int (nI nl), .int (nI nv)])), (a1, aN cI 640 g), (a2, aN cI 80 z)]) hcf (k_X7_wasMendedInFirstAlone (l := l) (D := D) (cI := cI) (cZ := cZ) (v := cN ve) (a := (cN one) + k) (b := (cN oth) + k) (x := x) (oc := oc) (oz := oz) (oy := oy) (k0 := k0) (k1 := k1) (pa := pa) (ps := ps) (o := o) (o5 := o5) (o4 := o4) (o6 := o6) (o1 := o1) (a1 := a1) (a2 := a2) (nl := nl) (nv := nv) (g := g) (z := z) (hnl := hnl) (hnv := hnv) (hz := hz) (hg := hg) (hv := by omega) (h1 := by omega) (h2 := by omega)) (cwV 3 hts gX7_mends_X7_wasMendedInFirstAlone rfl rfl rfl yd_X7_wasMendedInFirstAlone ⟨Nat.le_of_ble_eq_true rfl, Nat.le_of_ble_eq_true rfl⟩) (m_preV hK hP hD [0, 5, 6, 7] (by decide) rfl rfl rfl) rfl hl.1 rfl (Nat.le_of_ble_eq_true rfl) dX7_mends_63 ⟨Nat.zero_le _, Nat.zero_le _⟩ ?_
            refine m_ifB_eq (tgt := 78) hx hb dX7_mends_66 (by decide) (fun c_66 => ?_) (fun c_66 => ?_)
            · refine lv_iinc (v := nI (k + 1)) (lv' := [(7, .int (nI (k + 1))), (0, .ref x), (1, .int (nI (cN ve))), (2, .int (nI (cN one))), (3, .int (nI (cN oth))), (4, .int (nI (cN n))), (6, .int (nI f))]) hx hb dX7_mends_78 hl (k := 6) rfl ((nI_succ _).symm) (by decide) rfl (fun ls hl => ?_)
              refine lv_goto (tgt := 46) hx hb dX7_mends_81 (by decide) ?_
              exact ih_46 (k + 1) _ (by omega) (by omega) (by rw [hf]; exact mkN_f c_66) _ _ hP hD hS ls (lv_sub hl [1, 2, 3, 4, 5, 6, 0] rfl)
            · refine lv_iload hx hb dX7_mends_69 (lv_at hl 5 rfl) ?_
              refine lv_iconst (v := nI 1) hx hb dX7_mends_71 (by decide) ?_
              refine lv_iload hx hb dX7_mends_72 (lv_at hl 6 rfl) ?_
              refine m_shl1 hx hb (by omega) dX7_mends_74 ?_
              refine m_or hx hb dX7_mends_75 ?_
              refine lv_istore (lv' := [(6, .int (nI (f ||| (2 ^ k)))), (0, .ref x), (1, .int (nI (cN ve))), (2, .int (nI (cN one))), (3, .int (nI (cN oth))), (4, .int (nI (cN n))), (7, .int (nI k))]) hx hb dX7_mends_76 hl (by decide) rfl (fun ls hl => ?_)
              refine lv_iinc (v := nI (k + 1)) (lv' := [(7, .int (nI (k + 1))), (6, .int (nI (f ||| (2 ^ k)))), (0, .ref x), (1, .int (nI (cN ve))), (2, .int (nI (cN one))), (3, .int (nI (cN oth))), (4, .int (nI (cN n)))]) hx hb dX7_mends_78 hl (k := 6) rfl ((nI_succ _).symm) (by decide) rfl (fun ls hl => ?_)
              refine lv_goto (tgt := 46) hx hb dX7_mends_81 (by decide) ?_
              exact ih_46 (k + 1) _ (by omega) (by omega) (by rw [hf]; exact mkN_t c_66) _ _ hP hD hS ls (lv_sub hl [2, 3, 4, 5, 6, 1, 0] rfl)
      exact loop_46 (cN n + 1) 0 0 (by omega) (by omega) rfl _ _ hP hD hS ls (lv_sub hl [3, 4, 5, 6, 7, 1, 0] rfl)
    · refine lv_iconst (v := nI 0) hx hb dX7_mends_38 (by decide) ?_
      rw [hQ]
      exact m_iwr hx hb hr hlocks (n1u_32, n2u_32, ptu_32) (⟨by rw [rfQ_v K_v KI]; unfold msN; rw [if_neg (by rw [c_35]; decide)], hp_32.1⟩) hP hS dX7_mends_39
  · refine lv_iload hx hb dX7_mends_19 (lv_at hl 0 rfl) ?_
    rw [hQ]
    exact m_iwr hx hb hr hlocks (n1, n2, pt) (⟨rfQ_n c_16 rfl, hpt⟩) hP hS dX7_mends_21

theorem yd_X7_mend : yX7_mend.cls = RX7 ∧ yX7_mend.cls ≠ "java/lang/invoke/MethodHandle" ∧ yX7_mend.cls ≠ "java/lang/invoke/VarHandle" ∧ (parseMethodDescriptor yX7_mend.desc).map (fun d => d.parameters.length) = some 6 := by decide +kernel
set_option maxHeartbeats 4000000 in
set_option maxRecDepth 100000 in
theorem k_X7_mend (l : Launch) (D : va_G) (cI cZ : ClassId) (x oz oy k0 k1 pa ps o5 o4 o6 o1 : Nat) (o q0 q1 ra oc a1 a2 ll lo lt n1 n2 nl nv : Nat) (pt rc z g : Nat → Nat) (ve one oth n kk pl : Int32) (hnl : nl ≤ 20) (hnv : nv ≤ 4) (hz : ∀ j, z j ≤ 8) (hg : ∀ j, g j ≤ 126) (hpt : ∀ j, pt j ≤ 126) (hnv1 : 1 ≤ nv) : Met l yX7_mend wsX7_mend ({ frames := 6, cells := 0, slots := 0, locals := 147 }) (mPc [.ref x, .int ve, .int one, .int oth, .int n, .int kk, .int pl] D cI cZ [(x, .inr (7, [.ref oc, .ref oz, .ref oy, .int (nI k0), .int (nI k1), .ref pa, .int (nI ps), .ref o, .ref o5, .ref o4, .ref o6, .ref o1])), (o, .inr (2, [.ref oc, .ref q0, .ref ra, .int (nI ll), .int (nI lo), .int (nI lt)])), (q0, .inr (3, [.ref q1, .int (nI n1), .int (nI n2)])), (q1, aN cI 26 pt), (ra, aN cI 400 rc), (oc, .inr (0, [.ref a1, .ref a2, .int (nI nl), .int (nI nv)])), (a1, aN cI 640 g), (a2, aN cI 80 z)]) (mQi D (mA [(x, .inr (7, [.ref oc, .ref oz, .ref oy, .int (nI k0), .int (nI k1), .ref pa, .int (nI ps), .ref o, .ref o5, .ref o4, .ref o6, .ref o1])), (o, .inr (2, [.ref oc, .ref q0, .ref ra, .int (nI ll), .int (nI lo), .int (nI lt)])), (q0, .inr (3, [.ref q1, .int (nI n1), .int (nI n2)])), (q1, aN cI 26 pt), (ra, aN cI 400 rc), (oc, .inr (0, [.ref a1, .ref a2, .int (nI nl), .int (nI nv)])), (a1, aN cI 640 g), (a2, aN cI 80 z)]) (fun (r : Int32) (u : Nat × Nat × (Nat → Nat)) => r = rfQ (nv - 1) ve (arB one oth n && ixB kk (cN n)) (mdR z g (cN ve) nl (cN one) (cN oth) (cN n) (cN kk) pl) ∧ (∀ j, u.2.2 j ≤ 126)) (fun (u : Nat × Nat × (Nat → Nat)) => [(x, .inr (7, [.ref oc, .ref oz, .ref oy, .int (nI k0), .int (nI k1), .ref pa, .int (nI ps), .ref o, .ref o5, .ref o4, .ref o6, .ref o1])), (o, .inr (2, [.ref oc, .ref q0, .ref ra, .int (nI ll), .int (nI lo), .int (nI lt)])), (q0, .inr (3, [.ref q1, .int (nI u.1), .int (nI u.2.1)])), (q1, aN cI 26 u.2.2), (ra, aN cI 400 rc), (oc, .inr (0, [.ref a1, .ref a2, .int (nI nl), .int (nI nv)])), (a1, aN cI 640 g), (a2, aN cI 80 z)])) 0 0 (mA [(x, .inr (7, [.ref oc, .ref oz, .ref oy, .int (nI k0), .int (nI k1), .ref pa, .int (nI ps), .ref o, .ref o5, .ref o4, .ref o6, .ref o1])), (o, .inr (2, [.ref oc, .ref q0, .ref ra, .int (nI ll), .int (nI lo), .int (nI lt)])), (q0, .inr (3, [.ref q1, .int (nI n1), .int (nI n2)])), (q1, aN cI 26 pt), (ra, aN cI 400 rc), (oc, .inr (0, [.ref a1, .ref a2, .int (nI nl), .int (nI nv)])), (a1, aN cI 640 g), (a2, aN cI 80 z)]) := by
  refine Met.ofW (cc := cX7_mend) (maxL := 9) (ret := (some .int)) (by decide) rfl ?_
  intro p e s m args below meth c s₁ BB hml hv
  obtain ⟨hargs, hP, hD0, hK⟩ := hv
  have hx := BB.exec
  have hb := BB.bytes
  have hr := BB.returns
  have hts := atoms_spec (ws := wsX7_mend) BB.pre
  have hown : s.vm.findClass RX7 = some m.cls := findClass_of_methodNamed BB.named
  have hlocks := BB.notSynchronized
  have hcf : CallFix p m c cX7_mend 9 s args wsX7_mend RX7 := ⟨hx, hb, hml, hown, hts⟩
  obtain ⟨A, hAe⟩ : ∃ A, A = mA [(x, .inr (7, [.ref oc, .ref oz, .ref oy, .int (nI k0), .int (nI k1), .ref pa, .int (nI ps), .ref o, .ref o5, .ref o4, .ref o6, .ref o1])), (o, .inr (2, [.ref oc, .ref q0, .ref ra, .int (nI ll), .int (nI lo), .int (nI lt)])), (q0, .inr (3, [.ref q1, .int (nI n1), .int (nI n2)])), (q1, aN cI 26 pt), (ra, aN cI 400 rc), (oc, .inr (0, [.ref a1, .ref a2, .int (nI nl), .int (nI nv)])), (a1, aN cI 640 g), (a2, aN cI 80 z)] := ⟨_, rfl⟩
  have hD : va_D A [(x, .inr (7, [.ref oc, .ref oz, .ref oy, .int (nI k0), .int (nI k1), .ref pa, .int (nI ps), .ref o, .ref o5, .ref o4, .ref o6, .ref o1])), (o, .inr (2, [.ref oc, .ref q0, .ref ra, .int (nI ll), .int (nI lo), .int (nI lt)])), (q0, .inr (3, [.ref q1, .int (nI n1), .int (nI n2)])), (q1, aN cI 26 pt), (ra, aN cI 400 rc), (oc, .inr (0, [.ref a1, .ref a2, .int (nI nl), .int (nI nv)])), (a1, aN cI 640 g), (a2, aN cI 80 z)] := ⟨hD0.1, fun k q h => by rw [hAe]; exact ⟨k, q.2, h⟩⟩
  have hS : va_S A s.heap s.heap [] := va_S.rf
  rw [← hAe]
  rw [hargs, lg_entry_eq, ← hargs]
  have hl := lv_entry ([.ref x, .int ve, .int one, .int oth, .int n, .int kk, .int pl]) (n := 9) (Nat.le_of_ble_eq_true rfl)
  generalize (lg_sl ([.ref x, .int ve, .int one, .int oth, .int n, .int kk, .int pl]) ++ List.replicate (9 - (lg_sl ([.ref x, .int ve, .int one, .int oth, .int n, .int kk, .int pl])).length) Slot.unset).toArray = ls at hl ⊢
  have hl : lv_has ls 9 [(0, .ref x), (1, .int ve), (2, .int one), (3, .int oth), (4, .int n), (5, .int kk), (6, .int pl)] := hl
  obtain ⟨Q, hQ⟩ : ∃ Q, Q = MQ below (mQi D A (fun (r : Int32) (u : Nat × Nat × (Nat → Nat)) => r = rfQ (nv - 1) ve (arB one oth n && ixB kk (cN n)) (mdR z g (cN ve) nl (cN one) (cN oth) (cN n) (cN kk) pl) ∧ (∀ j, u.2.2 j ≤ 126)) (fun (u : Nat × Nat × (Nat → Nat)) => [(x, .inr (7, [.ref oc, .ref oz, .ref oy, .int (nI k0), .int (nI k1), .ref pa, .int (nI ps), .ref o, .ref o5, .ref o4, .ref o6, .ref o1])), (o, .inr (2, [.ref oc, .ref q0, .ref ra, .int (nI ll), .int (nI lo), .int (nI lt)])), (q0, .inr (3, [.ref q1, .int (nI u.1), .int (nI u.2.1)])), (q1, aN cI 26 u.2.2), (ra, aN cI 400 rc), (oc, .inr (0, [.ref a1, .ref a2, .int (nI nl), .int (nI nv)])), (a1, aN cI 640 g), (a2, aN cI 80 z)])) args s 0 0 A := ⟨_, rfl⟩
  rw [← hQ]
  have i_X7 : ∀ w ∈ u_ws RX7 TX7 12, w ∈ wsX7_mend := by decide +kernel
  have f_31 := hts (.fieldLink RX7 31 "SameAgain" "likeness" "LSameAgain$Likeness;") (by decide +kernel)
  have f_10 := hts (.fieldLink RX7 10 "SameAgain" "code" "LSameAgain$Code;") (by decide +kernel)
  have fn_208 := va_Nw.use (A := args) rfl (hK.2.1 ("SameAgain", 208, "SameAgain$Likeness", "pairing", "LSameAgain$Pairing;", "SameAgain") (by decide +kernel))
  have i_X2 : ∀ w ∈ u_ws RX2 TX2 6, w ∈ wsX7_mend := by decide +kernel
  refine lv_aload_n hx hb dX7_mend_0 rfl (lv_at hl 0 rfl) ?_
  refine lv_iload_n hx hb dX7_mend_1 rfl (lv_at hl 1 rfl) ?_
  refine lv_iload_n hx hb dX7_mend_2 rfl (lv_at hl 2 rfl) ?_
  refine lv_iload_n hx hb dX7_mend_3 rfl (lv_at hl 3 rfl) ?_
  refine lv_iload hx hb dX7_mend_4 (lv_at hl 4 rfl) ?_
  refine m_rdS (As := [.int one, .int oth, .int n]) (rest := [.int ve, .ref x]) (wc := []) hcf (k_X7_areRows (l := l) (D := D) (cI := cI) (cZ := cZ) (a := one) (b := oth) (n := n) ) (va_cwS 3 hts gX7_mend_X7_areRows rfl rfl rfl yd_X7_areRows.2 ⟨Nat.le_of_ble_eq_true rfl, Nat.le_of_ble_eq_true rfl⟩) (m_preS hK hP hD [] (by decide) rfl) rfl hl.1 rfl (Nat.le_of_ble_eq_true rfl) dX7_mend_6 ⟨Nat.zero_le _, Nat.zero_le _⟩ ?_
  refine m_ifB_eq (tgt := 28) hx hb dX7_mend_9 (by decide) (fun c_9 => ?_) (fun c_9 => ?_)
  · refine lv_iconst (v := nI 0) hx hb dX7_mend_28 (by decide) ?_
    refine m_rdV (As := [.int ve, .int (nI 0)]) (rest := []) (wc := [(x, .inr (7, [.ref oc, .ref oz, .ref oy, .int (nI k0), .int (nI k1), .ref pa, .int (nI ps), .ref o, .ref o5, .ref o4, .ref o6, .ref o1])), (oc, .inr (0, [.ref a1, .ref a2, .int (nI nl), .int (nI nv)])), (a1, aN cI 640 g), (a2, aN cI 80 z)]) hcf (k_X7_refusalBehind (l := l) (D := D) (cI := cI) (cZ := cZ) (ve := ve) (b := false) (x := x) (oc := oc) (oz := oz) (oy := oy) (k0 := k0) (k1 := k1) (pa := pa) (ps := ps) (o := o) (o5 := o5) (o4 := o4) (o6 := o6) (o1 := o1) (a1 := a1) (a2 := a2) (nl := nl) (nv := nv) (g := g) (z := z) (hnl := hnl) (hnv := hnv) (hnv1 := hnv1)) (cwV 2 hts gX7_mend_X7_refusalBehind rfl rfl rfl yd_X7_refusalBehind ⟨Nat.le_of_ble_eq_true rfl, Nat.le_of_ble_eq_true rfl⟩) (m_preV hK hP hD [0, 5, 6, 7] (by decide) rfl rfl rfl) rfl hl.1 rfl (Nat.le_of_ble_eq_true rfl) dX7_mend_29 ⟨Nat.zero_le _, Nat.zero_le _⟩ ?_
    refine lv_istore (lv' := [(7, .int (rfQ (nv - 1) ve false 0)), (0, .ref x), (1, .int ve), (2, .int one), (3, .int oth), (4, .int n), (5, .int kk), (6, .int pl)]) hx hb dX7_mend_32 hl (by decide) rfl (fun ls hl => ?_)
    refine lv_iload hx hb dX7_mend_34 (lv_at hl 0 rfl) ?_
    refine lv_if_eq (tgt := 42) hx hb dX7_mend_36 (by decide) (fun c_36 => ?_) (fun c_36 => ?_)
    · exact absurd (rfQ_0 c_36).2 (by decide)
    · refine lv_iload hx hb dX7_mend_39 (lv_at hl 0 rfl) ?_
      rw [hQ]
      exact m_iwr hx hb hr hlocks (n1, n2, pt) (⟨rfQ_n c_36 (by first | (simp [c_9, c_21]; done) | (simp [c_9]; done) | (simp [c_21]; done)), hpt⟩) hP hS dX7_mend_41
  · obtain ⟨K1, K2, K3⟩ := arB_iff.mp c_9
    obtain ⟨e_1, i_1⟩ := ixB_cN (by decide) K1
    obtain ⟨e_2, i_2⟩ := ixB_cN (by decide) K2
    obtain ⟨e_n, i_n, j_n⟩ := lnB_cN K3
    have hl : lv_has ls 9 [(0, .ref x), (1, .int ve), (2, .int one), (3, .int oth), (4, .int (nI (cN n))), (5, .int kk), (6, .int pl)] := by rw [← e_n]; exact hl
    refine lv_iload hx hb dX7_mend_12 (lv_at hl 5 rfl) ?_
    refine lv_iload hx hb dX7_mend_14 (lv_at hl 4 rfl) ?_
    refine lv_iconst (v := nI 1) hx hb dX7_mend_16 (by decide) ?_
    refine m_sub hx hb (by omega) dX7_mend_17 ?_
    refine m_rdS (As := [.int kk, .int (nI ((cN n) - 1))]) (rest := [.int ve, .ref x]) (wc := []) hcf (k_X7_isUpTo (l := l) (D := D) (cI := cI) (cZ := cZ) (a := kk) (b := (cN n) - 1) (hb9 := by omega)) (va_cwS 2 hts gX7_mend_X7_isUpTo rfl rfl rfl yd_X7_isUpTo.2 ⟨Nat.le_of_ble_eq_true rfl, Nat.le_of_ble_eq_true rfl⟩) (m_preS hK hP hD [] (by decide) rfl) rfl hl.1 rfl (Nat.le_of_ble_eq_true rfl) dX7_mend_18 ⟨Nat.zero_le _, Nat.zero_le _⟩ ?_
    refine m_top (y := bI (ixB kk (cN n))) (by rw [Nat.sub_add_cancel i_n]) ?_
    refine m_ifB_eq (tgt := 28) hx hb dX7_mend_21 (by decide) (fun c_21 => ?_) (fun c_21 => ?_)
    · refine lv_iconst (v := nI 0) hx hb dX7_mend_28 (by decide) ?_
      refine m_rdV (As := [.int ve, .int (nI 0)]) (rest := []) (wc := [(x, .inr (7, [.ref oc, .ref oz, .ref oy, .int (nI k0), .int (nI k1), .ref pa, .int (nI ps), .ref o, .ref o5, .ref o4, .ref o6, .ref o1])), (oc, .inr (0, [.ref a1, .ref a2, .int (nI nl), .int (nI nv)])), (a1, aN cI 640 g), (a2, aN cI 80 z)]) hcf (k_X7_refusalBehind (l := l) (D := D) (cI := cI) (cZ := cZ) (ve := ve) (b := false) (x := x) (oc := oc) (oz := oz) (oy := oy) (k0 := k0) (k1 := k1) (pa := pa) (ps := ps) (o := o) (o5 := o5) (o4 := o4) (o6 := o6) (o1 := o1) (a1 := a1) (a2 := a2) (nl := nl) (nv := nv) (g := g) (z := z) (hnl := hnl) (hnv := hnv) (hnv1 := hnv1)) (cwV 2 hts gX7_mend_X7_refusalBehind rfl rfl rfl yd_X7_refusalBehind ⟨Nat.le_of_ble_eq_true rfl, Nat.le_of_ble_eq_true rfl⟩) (m_preV hK hP hD [0, 5, 6, 7] (by decide) rfl rfl rfl) rfl hl.1 rfl (Nat.le_of_ble_eq_true rfl) dX7_mend_29 ⟨Nat.zero_le _, Nat.zero_le _⟩ ?_
      refine lv_istore (lv' := [(7, .int (rfQ (nv - 1) ve false 0)), (0, .ref x), (1, .int ve), (2, .int one), (3, .int oth), (4, .int (nI (cN n))), (5, .int kk), (6, .int pl)]) hx hb dX7_mend_32 hl (by decide) rfl (fun ls hl => ?_)
      refine lv_iload hx hb dX7_mend_34 (lv_at hl 0 rfl) ?_
      refine lv_if_eq (tgt := 42) hx hb dX7_mend_36 (by decide) (fun c_36 => ?_) (fun c_36 => ?_)
      · exact absurd (rfQ_0 c_36).2 (by decide)
      · refine lv_iload hx hb dX7_mend_39 (lv_at hl 0 rfl) ?_
        rw [hQ]
        exact m_iwr hx hb hr hlocks (n1, n2, pt) (⟨rfQ_n c_36 (by first | (simp [c_9, c_21]; done) | (simp [c_9]; done) | (simp [c_21]; done)), hpt⟩) hP hS dX7_mend_41
    · refine lv_iconst (v := nI 1) hx hb dX7_mend_24 (by decide) ?_
      refine lv_goto (tgt := 29) hx hb dX7_mend_25 (by decide) ?_
      refine m_rdV (As := [.int ve, .int (nI 1)]) (rest := []) (wc := [(x, .inr (7, [.ref oc, .ref oz, .ref oy, .int (nI k0), .int (nI k1), .ref pa, .int (nI ps), .ref o, .ref o5, .ref o4, .ref o6, .ref o1])), (oc, .inr (0, [.ref a1, .ref a2, .int (nI nl), .int (nI nv)])), (a1, aN cI 640 g), (a2, aN cI 80 z)]) hcf (k_X7_refusalBehind (l := l) (D := D) (cI := cI) (cZ := cZ) (ve := ve) (b := true) (x := x) (oc := oc) (oz := oz) (oy := oy) (k0 := k0) (k1 := k1) (pa := pa) (ps := ps) (o := o) (o5 := o5) (o4 := o4) (o6 := o6) (o1 := o1) (a1 := a1) (a2 := a2) (nl := nl) (nv := nv) (g := g) (z := z) (hnl := hnl) (hnv := hnv) (hnv1 := hnv1)) (cwV 2 hts gX7_mend_X7_refusalBehind rfl rfl rfl yd_X7_refusalBehind ⟨Nat.le_of_ble_eq_true rfl, Nat.le_of_ble_eq_true rfl⟩) (m_preV hK hP hD [0, 5, 6, 7] (by decide) rfl rfl rfl) rfl hl.1 rfl (Nat.le_of_ble_eq_true rfl) dX7_mend_29 ⟨Nat.zero_le _, Nat.zero_le _⟩ ?_
      refine lv_istore (lv' := [(7, .int (rfQ (nv - 1) ve true 0)), (0, .ref x), (1, .int ve), (2, .int one), (3, .int oth), (4, .int (nI (cN n))), (5, .int kk), (6, .int pl)]) hx hb dX7_mend_32 hl (by decide) rfl (fun ls hl => ?_)
      refine lv_iload hx hb dX7_mend_34 (lv_at hl 0 rfl) ?_
      refine lv_if_eq (tgt := 42) hx hb dX7_mend_36 (by decide) (fun c_36 => ?_) (fun c_36 => ?_)
      · have K_v := (rfQ_0 c_36).1
        have KI : (arB one oth n && ixB kk (cN n)) = true := by first | (simp [c_9, c_21]; done) | (simp [c_9]; done) | (simp [c_21]; done)
        obtain ⟨e_v, i_v⟩ := ixB_cN (by omega) K_v
        obtain ⟨e_k, i_k⟩ := ixB_cN (by omega) c_21
        have hl : lv_has ls 9 [(7, .int (rfQ (nv - 1) ve true 0)), (0, .ref x), (1, .int (nI (cN ve))), (2, .int (nI (cN one))), (3, .int (nI (cN oth))), (4, .int (nI (cN n))), (5, .int (nI (cN kk))), (6, .int pl)] := by rw [← e_v, ← e_1, ← e_2, ← e_k]; exact hl
        refine lv_aload_n hx hb dX7_mend_42 rfl (lv_at hl 1 rfl) ?_
        refine va_get (D := D) (ci := 7) (v := .ref o) (C := RX7) (T := TX7) (N := 12) hx hb hts i_X7 hown hK.1 hP 0 rfl rfl 7 (by decide) f_31 (fun _ h9 => h9) rfl dX7_mend_43 ?_
        refine lv_iload_n hx hb dX7_mend_46 rfl (lv_at hl 2 rfl) ?_
        refine lv_iconst (v := nI 1) hx hb dX7_mend_47 (by decide) ?_
        refine lv_iload_n hx hb dX7_mend_48 rfl (lv_at hl 3 rfl) ?_
        refine lv_iload_n hx hb dX7_mend_49 rfl (lv_at hl 4 rfl) ?_
        refine lv_iload hx hb dX7_mend_50 (lv_at hl 5 rfl) ?_
        refine m_wrV (As := [.int (nI (cN ve)), .int (nI 1), .int (nI (cN one)), .int (nI (cN oth)), .int (nI (cN n))]) (rest := []) (wc := [(o, .inr (2, [.ref oc, .ref q0, .ref ra, .int (nI ll), .int (nI lo), .int (nI lt)])), (q0, .inr (3, [.ref q1, .int (nI n1), .int (nI n2)])), (q1, aN cI 26 pt), (ra, aN cI 400 rc), (oc, .inr (0, [.ref a1, .ref a2, .int (nI nl), .int (nI nv)])), (a1, aN cI 640 g), (a2, aN cI 80 z)]) hcf (k_X2_rowsAlike (l := l) (D := D) (cI := cI) (cZ := cZ) (v := cN ve) (way := 1) (one := cN one) (other := cN oth) (n := cN n) (o := o) (oc := oc) (q0 := q0) (ra := ra) (ll := ll) (lo := lo) (lt := lt) (q1 := q1) (n1 := n1) (n2 := n2) (pt := pt) (rc := rc) (a1 := a1) (a2 := a2) (nl := nl) (nv := nv) (g := g) (z := z) (hnl := hnl) (hnv := hnv) (hz := hz) (hg := hg) (hpt := hpt) (hw := by omega) (hv := by omega) (h1 := by omega) (h2 := by omega) (hn := by omega)) (cwV 5 hts gX7_mend_X2_rowsAlike rfl rfl rfl yd_X2_rowsAlike ⟨Nat.le_of_ble_eq_true rfl, Nat.le_of_ble_eq_true rfl⟩) hK hP hD hS [1, 2, 3, 4, 5, 6, 7] (by decide) rfl rfl rfl rfl hl.1 rfl (Nat.le_of_ble_eq_true rfl) dX7_mend_52 ⟨Nat.zero_le _, Nat.zero_le _⟩ (fun _ => rfl) (fun (u : Nat × Nat × (Nat → Nat)) => [(x, .inr (7, [.ref oc, .ref oz, .ref oy, .int (nI k0), .int (nI k1), .ref pa, .int (nI ps), .ref o, .ref o5, .ref o4, .ref o6, .ref o1])), (o, .inr (2, [.ref oc, .ref q0, .ref ra, .int (nI ll), .int (nI lo), .int (nI lt)])), (q0, .inr (3, [.ref q1, .int (nI u.1), .int (nI u.2.1)])), (q1, aN cI 26 u.2.2), (ra, aN cI 400 rc), (oc, .inr (0, [.ref a1, .ref a2, .int (nI nl), .int (nI nv)])), (a1, aN cI 640 g), (a2, aN cI 80 z)]) (fun _ => rfl) (fun r u H locs hp_52 hP hD hS => ?_)
        obtain ⟨n1u_52, n2u_52, ptu_52⟩ := u
        have hP : va_P D vwCl [(x, .inr (7, [.ref oc, .ref oz, .ref oy, .int (nI k0), .int (nI k1), .ref pa, .int (nI ps), .ref o, .ref o5, .ref o4, .ref o6, .ref o1])), (o, .inr (2, [.ref oc, .ref q0, .ref ra, .int (nI ll), .int (nI lo), .int (nI lt)])), (q0, .inr (3, [.ref q1, .int (nI n1u_52), .int (nI n2u_52)])), (q1, aN cI 26 ptu_52), (ra, aN cI 400 rc), (oc, .inr (0, [.ref a1, .ref a2, .int (nI nl), .int (nI nv)])), (a1, aN cI 640 g), (a2, aN cI 80 z)] H := hP
        have hD : va_D A [(x, .inr (7, [.ref oc, .ref oz, .ref oy, .int (nI k0), .int (nI k1), .ref pa, .int (nI ps), .ref o, .ref o5, .ref o4, .ref o6, .ref o1])), (o, .inr (2, [.ref oc, .ref q0, .ref ra, .int (nI ll), .int (nI lo), .int (nI lt)])), (q0, .inr (3, [.ref q1, .int (nI n1u_52), .int (nI n2u_52)])), (q1, aN cI 26 ptu_52), (ra, aN cI 400 rc), (oc, .inr (0, [.ref a1, .ref a2, .int (nI nl), .int (nI nv)])), (a1, aN cI 640 g), (a2, aN cI 80 z)] := hD
        try dsimp only at hp_52
        obtain ⟨hr_hp_52, hp_52⟩ := hp_52
        rw [hr_hp_52]
        refine m_ifB_ne (tgt := 61) hx hb dX7_mend_55 (by decide) (fun c_55 => ?_) (fun c_55 => ?_)
        · have i9 := raB_there c_55
          refine lv_aload_n hx hb dX7_mend_61 rfl (lv_at hl 1 rfl) ?_
          refine lv_iload_n hx hb dX7_mend_62 rfl (lv_at hl 2 rfl) ?_
          refine lv_iload_n hx hb dX7_mend_63 rfl (lv_at hl 3 rfl) ?_
          refine lv_iload hx hb dX7_mend_64 (lv_at hl 6 rfl) ?_
          refine m_add hx hb dX7_mend_66 ?_
          refine lv_iload_n hx hb dX7_mend_67 rfl (lv_at hl 4 rfl) ?_
          refine lv_iload hx hb dX7_mend_68 (lv_at hl 6 rfl) ?_
          refine m_add hx hb dX7_mend_70 ?_
          refine m_rdV (As := [.int (nI (cN ve)), .int (nI ((cN one) + (cN kk))), .int (nI ((cN oth) + (cN kk)))]) (rest := []) (wc := [(x, .inr (7, [.ref oc, .ref oz, .ref oy, .int (nI k0), .int (nI k1), .ref pa, .int (nI ps), .ref o, .ref o5, .ref o4, .ref o6, .ref o1])), (oc, .inr (0, [.ref a1, .ref a2, .int (nI nl), .int (nI nv)])), (a1, aN cI 640 g), (a2, aN cI 80 z)]) hcf (k_X7_wasMendedInFirstAlone (l := l) (D := D) (cI := cI) (cZ := cZ) (v := cN ve) (a := (cN one) + (cN kk)) (b := (cN oth) + (cN kk)) (x := x) (oc := oc) (oz := oz) (oy := oy) (k0 := k0) (k1 := k1) (pa := pa) (ps := ps) (o := o) (o5 := o5) (o4 := o4) (o6 := o6) (o1 := o1) (a1 := a1) (a2 := a2) (nl := nl) (nv := nv) (g := g) (z := z) (hnl := hnl) (hnv := hnv) (hz := hz) (hg := hg) (hv := by omega) (h1 := by omega) (h2 := by omega)) (cwV 3 hts gX7_mend_X7_wasMendedInFirstAlone rfl rfl rfl yd_X7_wasMendedInFirstAlone ⟨Nat.le_of_ble_eq_true rfl, Nat.le_of_ble_eq_true rfl⟩) (m_preV hK hP hD [0, 5, 6, 7] (by decide) rfl rfl rfl) rfl hl.1 rfl (Nat.le_of_ble_eq_true rfl) dX7_mend_71 ⟨Nat.zero_le _, Nat.zero_le _⟩ ?_
          refine m_ifB_ne (tgt := 80) hx hb dX7_mend_74 (by decide) (fun c_74 => ?_) (fun c_74 => ?_)
          · have K9 : (raB 1 z g (cN ve) nl (cN one) (cN oth) (cN n) && meB z g (cN ve) (cN one + cN kk) (cN oth + cN kk)) = true := by rw [c_55, c_74]; rfl
            have hs9 := sgA_le (z := z) hg ((cN ve + 1) * 20 + (cN one + cN kk)) pl
            refine lv_iload hx hb dX7_mend_80 (lv_at hl 7 rfl) ?_
            refine lv_iconst (v := (-1)) hx hb dX7_mend_82 (by decide) ?_
            refine lv_icmp_ne (tgt := 101) hx hb dX7_mend_83 (by decide) (fun c_83 => ?_) (fun c_83 => ?_)
            · refine lv_aload_n hx hb dX7_mend_101 rfl (lv_at hl 1 rfl) ?_
              refine va_get (D := D) (ci := 7) (v := .ref oc) (C := RX7) (T := TX7) (N := 12) hx hb hts i_X7 hown hK.1 hP 0 rfl rfl 0 (by decide) f_10 (fun _ h9 => h9) rfl dX7_mend_102 ?_
              refine lv_iload_n hx hb dX7_mend_105 rfl (lv_at hl 2 rfl) ?_
              refine lv_iconst (v := nI 1) hx hb dX7_mend_106 (by decide) ?_
              refine m_add hx hb dX7_mend_107 ?_
              refine lv_iload_n hx hb dX7_mend_108 rfl (lv_at hl 3 rfl) ?_
              refine lv_iload hx hb dX7_mend_109 (lv_at hl 6 rfl) ?_
              refine m_add hx hb dX7_mend_111 ?_
              refine lv_iload hx hb dX7_mend_112 (lv_at hl 7 rfl) ?_
              refine m_rdV (As := [.int (nI ((cN ve) + 1)), .int (nI ((cN one) + (cN kk))), .int pl]) (rest := []) (wc := [(oc, .inr (0, [.ref a1, .ref a2, .int (nI nl), .int (nI nv)])), (a1, aN cI 640 g), (a2, aN cI 80 z)]) hcf (k_X0_signAtA (l := l) (D := D) (cI := cI) (cZ := cZ) (v := (cN ve) + 1) (ln := (cN one) + (cN kk)) (k := pl) (o := oc) (a1 := a1) (a2 := a2) (nl := nl) (nv := nv) (g := g) (z := z) (hnl := hnl) (hnv := hnv) (hz := hz) (hg := hg) (hv := by omega) (hln := by omega)) (cwV 3 hts gX7_mend_X0_signAt rfl rfl rfl yd_X0_signAt ⟨Nat.le_of_ble_eq_true rfl, Nat.le_of_ble_eq_true rfl⟩) (m_preV hK hP hD [5, 6, 7] (by decide) rfl rfl rfl) rfl hl.1 rfl (Nat.le_of_ble_eq_true rfl) dX7_mend_114 ⟨Nat.zero_le _, Nat.zero_le _⟩ ?_
              refine lv_istore (lv' := [(8, .int (nI (sgA z g (((cN ve) + 1) * 20 + ((cN one) + (cN kk))) pl))), (7, .int (rfQ (nv - 1) ve true 0)), (0, .ref x), (1, .int (nI (cN ve))), (2, .int (nI (cN one))), (3, .int (nI (cN oth))), (4, .int (nI (cN n))), (5, .int (nI (cN kk))), (6, .int pl)]) hx hb dX7_mend_117 hl (by decide) rfl (fun ls hl => ?_)
              refine lv_iload hx hb dX7_mend_119 (lv_at hl 0 rfl) ?_
              refine m_if_ne (tgt := 129) hx hb dX7_mend_121 (by decide) (by omega) (fun c_121 => ?_) (fun c_121 => ?_)
              · refine lv_aload_n hx hb dX7_mend_129 rfl (lv_at hl 2 rfl) ?_
                refine va_get (D := D) (ci := 7) (v := .ref o) (C := RX7) (T := TX7) (N := 12) hx hb hts i_X7 hown hK.1 hP 0 rfl rfl 7 (by decide) f_31 (fun _ h9 => h9) rfl dX7_mend_130 ?_
                refine va_getN (D := D) (ci := 2) (v := .ref q0) (C := RX2) (T := TX2) (N := 6) hx hb hts i_X2 hown hK.1 hP 1 rfl rfl 1 (by decide) fn_208 (fun _ h9 => h9) rfl dX7_mend_133 ?_
                refine lv_iload hx hb dX7_mend_136 (lv_at hl 0 rfl) ?_
                refine m_rdV (As := [.int (nI (sgA z g (((cN ve) + 1) * 20 + ((cN one) + (cN kk))) pl))]) (rest := []) (wc := [(q0, .inr (3, [.ref q1, .int (nI n1u_52), .int (nI n2u_52)])), (q1, aN cI 26 ptu_52)]) hcf (k_X3_renamed (l := l) (D := D) (cI := cI) (cZ := cZ) (a := sgA z g (((cN ve) + 1) * 20 + ((cN one) + (cN kk))) pl) (o := q0) (q1 := q1) (n1 := n1u_52) (n2 := n2u_52) (pt := ptu_52) (L := (rwX 1 z g (cN ve) (cN one) (cN oth) skn (cN n)).2) (hpm := hp_52.2 c_55) (ha := hs9)) (cwV 1 hts gX7_mend_X3_renamed rfl rfl rfl yd_X3_renamed ⟨Nat.le_of_ble_eq_true rfl, Nat.le_of_ble_eq_true rfl⟩) (m_preV hK hP hD [2, 3] (by decide) rfl rfl rfl) rfl hl.1 rfl (Nat.le_of_ble_eq_true rfl) dX7_mend_138 ⟨Nat.zero_le _, Nat.zero_le _⟩ ?_
                rw [hQ]
                exact m_iwr hx hb hr hlocks (n1u_52, n2u_52, ptu_52) (⟨by rw [rfQ_v K_v KI]; unfold mdR; rw [if_pos K9, if_neg c_83, if_neg c_121], hp_52.1⟩) hP hS dX7_mend_141
              · refine lv_bipush (v := (-6)) hx hb dX7_mend_124 (by decide) ?_
                refine lv_goto (tgt := 141) hx hb dX7_mend_126 (by decide) ?_
                rw [hQ]
                exact m_iwr hx hb hr hlocks (n1u_52, n2u_52, ptu_52) (⟨by rw [rfQ_v K_v KI]; unfold mdR; rw [if_pos K9, if_neg c_83, if_pos c_121], hp_52.1⟩) hP hS dX7_mend_141
            · refine lv_aload_n hx hb dX7_mend_86 rfl (lv_at hl 1 rfl) ?_
              refine va_get (D := D) (ci := 7) (v := .ref oc) (C := RX7) (T := TX7) (N := 12) hx hb hts i_X7 hown hK.1 hP 0 rfl rfl 0 (by decide) f_10 (fun _ h9 => h9) rfl dX7_mend_87 ?_
              refine lv_iload_n hx hb dX7_mend_90 rfl (lv_at hl 2 rfl) ?_
              refine lv_iconst (v := nI 1) hx hb dX7_mend_91 (by decide) ?_
              refine m_add hx hb dX7_mend_92 ?_
              refine lv_iload_n hx hb dX7_mend_93 rfl (lv_at hl 3 rfl) ?_
              refine lv_iload hx hb dX7_mend_94 (lv_at hl 6 rfl) ?_
              refine m_add hx hb dX7_mend_96 ?_
              refine m_rdV (As := [.int (nI ((cN ve) + 1)), .int (nI ((cN one) + (cN kk)))]) (rest := []) (wc := [(oc, .inr (0, [.ref a1, .ref a2, .int (nI nl), .int (nI nv)])), (a1, aN cI 640 g), (a2, aN cI 80 z)]) hcf (k_X0_sizeOf (l := l) (D := D) (cI := cI) (cZ := cZ) (v := (cN ve) + 1) (ln := (cN one) + (cN kk)) (o := oc) (a1 := a1) (a2 := a2) (nl := nl) (nv := nv) (g := g) (z := z) (hnl := hnl) (hnv := hnv) (hv := by omega) (hln := by omega)) (cwV 2 hts gX7_mend_X0_sizeOf rfl rfl rfl yd_X0_sizeOf ⟨Nat.le_of_ble_eq_true rfl, Nat.le_of_ble_eq_true rfl⟩) (m_preV hK hP hD [5, 6, 7] (by decide) rfl rfl rfl) rfl hl.1 rfl (Nat.le_of_ble_eq_true rfl) dX7_mend_97 ⟨Nat.zero_le _, Nat.zero_le _⟩ ?_
              rw [hQ]
              exact m_iwr hx hb hr hlocks (n1u_52, n2u_52, ptu_52) (⟨by rw [rfQ_v K_v KI]; unfold mdR; rw [if_pos K9, if_pos c_83], hp_52.1⟩) hP hS dX7_mend_100
          · refine lv_bipush (v := (-5)) hx hb dX7_mend_77 (by decide) ?_
            rw [hQ]
            exact m_iwr hx hb hr hlocks (n1u_52, n2u_52, ptu_52) (⟨by rw [rfQ_v K_v KI]; unfold mdR; rw [if_neg (by rw [c_74]; simp)], hp_52.1⟩) hP hS dX7_mend_79
        · refine lv_bipush (v := (-5)) hx hb dX7_mend_58 (by decide) ?_
          rw [hQ]
          exact m_iwr hx hb hr hlocks (n1u_52, n2u_52, ptu_52) (⟨by rw [rfQ_v K_v KI]; unfold mdR; rw [if_neg (by rw [c_55]; simp)], hp_52.1⟩) hP hS dX7_mend_60
      · refine lv_iload hx hb dX7_mend_39 (lv_at hl 0 rfl) ?_
        rw [hQ]
        exact m_iwr hx hb hr hlocks (n1, n2, pt) (⟨rfQ_n c_36 (by first | (simp [c_9, c_21]; done) | (simp [c_9]; done) | (simp [c_21]; done)), hpt⟩) hP hS dX7_mend_41

theorem yd_X7_far : yX7_far.cls = RX7 ∧ yX7_far.cls ≠ "java/lang/invoke/MethodHandle" ∧ yX7_far.cls ≠ "java/lang/invoke/VarHandle" ∧ (parseMethodDescriptor yX7_far.desc).map (fun d => d.parameters.length) = some 3 := by decide +kernel
set_option maxHeartbeats 4000000 in
set_option maxRecDepth 100000 in
theorem k_X7_far (l : Launch) (D : va_G) (cI cZ : ClassId) (x oc oz oy k0 k1 pa ps o o5 o4 o6 o1 : Nat) (a1 a2 nl nv : Nat) (z g : Nat → Nat) (d1 : Nat) (cs : Nat → Nat) (ve a b : Int32) (hnl : nl ≤ 20) (hnv : nv ≤ 4) (hz : ∀ j, z j ≤ 8) (hg : ∀ j, g j ≤ 126) (hcs : ∀ j, cs j ≤ 1000) : Met l yX7_far wsX7_far ({ frames := 3, cells := 0, slots := 0, locals := 73 }) (mPc [.ref x, .int ve, .int a, .int b] D cI cZ [(x, .inr (7, [.ref oc, .ref oz, .ref oy, .int (nI k0), .int (nI k1), .ref pa, .int (nI ps), .ref o, .ref o5, .ref o4, .ref o6, .ref o1])), (o1, .inr (1, [.ref oc, .ref d1])), (d1, aN cI 81 cs), (oc, .inr (0, [.ref a1, .ref a2, .int (nI nl), .int (nI nv)])), (a1, aN cI 640 g), (a2, aN cI 80 z)]) (mQi D (mA [(x, .inr (7, [.ref oc, .ref oz, .ref oy, .int (nI k0), .int (nI k1), .ref pa, .int (nI ps), .ref o, .ref o5, .ref o4, .ref o6, .ref o1])), (o1, .inr (1, [.ref oc, .ref d1])), (d1, aN cI 81 cs), (oc, .inr (0, [.ref a1, .ref a2, .int (nI nl), .int (nI nv)])), (a1, aN cI 640 g), (a2, aN cI 80 z)]) (fun (r : Int32) (u : (Nat → Nat)) => r = farR nl nv z g ve a b ∧ ∀ j, u j ≤ 1000) (fun (u : (Nat → Nat)) => [(x, .inr (7, [.ref oc, .ref oz, .ref oy, .int (nI k0), .int (nI k1), .ref pa, .int (nI ps), .ref o, .ref o5, .ref o4, .ref o6, .ref o1])), (o1, .inr (1, [.ref oc, .ref d1])), (d1, aN cI 81 u), (oc, .inr (0, [.ref a1, .ref a2, .int (nI nl), .int (nI nv)])), (a1, aN cI 640 g), (a2, aN cI 80 z)])) 0 0 (mA [(x, .inr (7, [.ref oc, .ref oz, .ref oy, .int (nI k0), .int (nI k1), .ref pa, .int (nI ps), .ref o, .ref o5, .ref o4, .ref o6, .ref o1])), (o1, .inr (1, [.ref oc, .ref d1])), (d1, aN cI 81 cs), (oc, .inr (0, [.ref a1, .ref a2, .int (nI nl), .int (nI nv)])), (a1, aN cI 640 g), (a2, aN cI 80 z)]) := by
  refine Met.ofW (cc := cX7_far) (maxL := 4) (ret := (some .int)) (by decide) rfl ?_
  intro p e s m args below meth c s₁ BB hml hv
  obtain ⟨hargs, hP, hD0, hK⟩ := hv
  have hx := BB.exec
  have hb := BB.bytes
  have hr := BB.returns
  have hts := atoms_spec (ws := wsX7_far) BB.pre
  have hown : s.vm.findClass RX7 = some m.cls := findClass_of_methodNamed BB.named
  have hlocks := BB.notSynchronized
  have hcf : CallFix p m c cX7_far 4 s args wsX7_far RX7 := ⟨hx, hb, hml, hown, hts⟩
  obtain ⟨A, hAe⟩ : ∃ A, A = mA [(x, .inr (7, [.ref oc, .ref oz, .ref oy, .int (nI k0), .int (nI k1), .ref pa, .int (nI ps), .ref o, .ref o5, .ref o4, .ref o6, .ref o1])), (o1, .inr (1, [.ref oc, .ref d1])), (d1, aN cI 81 cs), (oc, .inr (0, [.ref a1, .ref a2, .int (nI nl), .int (nI nv)])), (a1, aN cI 640 g), (a2, aN cI 80 z)] := ⟨_, rfl⟩
  have hD : va_D A [(x, .inr (7, [.ref oc, .ref oz, .ref oy, .int (nI k0), .int (nI k1), .ref pa, .int (nI ps), .ref o, .ref o5, .ref o4, .ref o6, .ref o1])), (o1, .inr (1, [.ref oc, .ref d1])), (d1, aN cI 81 cs), (oc, .inr (0, [.ref a1, .ref a2, .int (nI nl), .int (nI nv)])), (a1, aN cI 640 g), (a2, aN cI 80 z)] := ⟨hD0.1, fun k q h => by rw [hAe]; exact ⟨k, q.2, h⟩⟩
  have hS : va_S A s.heap s.heap [] := va_S.rf
  rw [← hAe]
  rw [hargs, lg_entry_eq, ← hargs]
  have hl := lv_entry ([.ref x, .int ve, .int a, .int b]) (n := 4) (Nat.le_of_ble_eq_true rfl)
  generalize (lg_sl ([.ref x, .int ve, .int a, .int b]) ++ List.replicate (4 - (lg_sl ([.ref x, .int ve, .int a, .int b])).length) Slot.unset).toArray = ls at hl ⊢
  have hl : lv_has ls 4 [(0, .ref x), (1, .int ve), (2, .int a), (3, .int b)] := hl
  obtain ⟨Q, hQ⟩ : ∃ Q, Q = MQ below (mQi D A (fun (r : Int32) (u : (Nat → Nat)) => r = farR nl nv z g ve a b ∧ ∀ j, u j ≤ 1000) (fun (u : (Nat → Nat)) => [(x, .inr (7, [.ref oc, .ref oz, .ref oy, .int (nI k0), .int (nI k1), .ref pa, .int (nI ps), .ref o, .ref o5, .ref o4, .ref o6, .ref o1])), (o1, .inr (1, [.ref oc, .ref d1])), (d1, aN cI 81 u), (oc, .inr (0, [.ref a1, .ref a2, .int (nI nl), .int (nI nv)])), (a1, aN cI 640 g), (a2, aN cI 80 z)])) args s 0 0 A := ⟨_, rfl⟩
  rw [← hQ]
  have i_X7 : ∀ w ∈ u_ws RX7 TX7 12, w ∈ wsX7_far := by decide +kernel
  have f_10 := hts (.fieldLink RX7 10 "SameAgain" "code" "LSameAgain$Code;") (by decide +kernel)
  have f_63 := hts (.fieldLink RX7 63 "SameAgain" "distance" "LSameAgain$Distance;") (by decide +kernel)
  refine lv_aload_n hx hb dX7_far_0 rfl (lv_at hl 0 rfl) ?_
  refine va_get (D := D) (ci := 7) (v := .ref oc) (C := RX7) (T := TX7) (N := 12) hx hb hts i_X7 hown hK.1 hP 0 rfl rfl 0 (by decide) f_10 (fun _ h9 => h9) rfl dX7_far_1 ?_
  refine lv_iload_n hx hb dX7_far_4 rfl (lv_at hl 1 rfl) ?_
  refine m_rdV (As := [.int ve]) (rest := []) (wc := [(oc, .inr (0, [.ref a1, .ref a2, .int (nI nl), .int (nI nv)])), (a1, aN cI 640 g), (a2, aN cI 80 z)]) hcf (k_X0_hasVersion (l := l) (D := D) (cI := cI) (cZ := cZ) (x := ve) (o := oc) (a1 := a1) (a2 := a2) (nl := nl) (nv := nv) (g := g) (z := z) (hnl := hnl) (hnv := hnv)) (cwV 1 hts gX7_far_X0_hasVersion rfl rfl rfl yd_X0_hasVersion ⟨Nat.le_of_ble_eq_true rfl, Nat.le_of_ble_eq_true rfl⟩) (m_preV hK hP hD [3, 4, 5] (by decide) rfl rfl rfl) rfl hl.1 rfl (Nat.le_of_ble_eq_true rfl) dX7_far_5 ⟨Nat.zero_le _, Nat.zero_le _⟩ ?_
  refine m_ifB_eq (tgt := 33) hx hb dX7_far_8 (by decide) (fun c_8 => ?_) (fun c_8 => ?_)
  · refine lv_iconst (v := (-1)) hx hb dX7_far_33 (by decide) ?_
    rw [hQ]
    exact m_iwr hx hb hr hlocks cs (⟨by unfold farR; rw [if_neg (by first | (simp [c_8]; done) | (simp [c_19]; done) | (simp [c_30]; done))], hcs⟩) hP hS dX7_far_34
  · refine lv_aload_n hx hb dX7_far_11 rfl (lv_at hl 0 rfl) ?_
    refine va_get (D := D) (ci := 7) (v := .ref oc) (C := RX7) (T := TX7) (N := 12) hx hb hts i_X7 hown hK.1 hP 0 rfl rfl 0 (by decide) f_10 (fun _ h9 => h9) rfl dX7_far_12 ?_
    refine lv_iload_n hx hb dX7_far_15 rfl (lv_at hl 2 rfl) ?_
    refine m_rdV (As := [.int a]) (rest := []) (wc := [(oc, .inr (0, [.ref a1, .ref a2, .int (nI nl), .int (nI nv)])), (a1, aN cI 640 g), (a2, aN cI 80 z)]) hcf (k_X0_hasLine (l := l) (D := D) (cI := cI) (cZ := cZ) (x := a) (o := oc) (a1 := a1) (a2 := a2) (nl := nl) (nv := nv) (g := g) (z := z) (hnl := hnl) (hnv := hnv)) (cwV 1 hts gX7_far_X0_hasLine rfl rfl rfl yd_X0_hasLine ⟨Nat.le_of_ble_eq_true rfl, Nat.le_of_ble_eq_true rfl⟩) (m_preV hK hP hD [3, 4, 5] (by decide) rfl rfl rfl) rfl hl.1 rfl (Nat.le_of_ble_eq_true rfl) dX7_far_16 ⟨Nat.zero_le _, Nat.zero_le _⟩ ?_
    refine m_ifB_eq (tgt := 33) hx hb dX7_far_19 (by decide) (fun c_19 => ?_) (fun c_19 => ?_)
    · refine lv_iconst (v := (-1)) hx hb dX7_far_33 (by decide) ?_
      rw [hQ]
      exact m_iwr hx hb hr hlocks cs (⟨by unfold farR; rw [if_neg (by first | (simp [c_8]; done) | (simp [c_19]; done) | (simp [c_30]; done))], hcs⟩) hP hS dX7_far_34
    · refine lv_aload_n hx hb dX7_far_22 rfl (lv_at hl 0 rfl) ?_
      refine va_get (D := D) (ci := 7) (v := .ref oc) (C := RX7) (T := TX7) (N := 12) hx hb hts i_X7 hown hK.1 hP 0 rfl rfl 0 (by decide) f_10 (fun _ h9 => h9) rfl dX7_far_23 ?_
      refine lv_iload_n hx hb dX7_far_26 rfl (lv_at hl 3 rfl) ?_
      refine m_rdV (As := [.int b]) (rest := []) (wc := [(oc, .inr (0, [.ref a1, .ref a2, .int (nI nl), .int (nI nv)])), (a1, aN cI 640 g), (a2, aN cI 80 z)]) hcf (k_X0_hasLine (l := l) (D := D) (cI := cI) (cZ := cZ) (x := b) (o := oc) (a1 := a1) (a2 := a2) (nl := nl) (nv := nv) (g := g) (z := z) (hnl := hnl) (hnv := hnv)) (cwV 1 hts gX7_far_X0_hasLine rfl rfl rfl yd_X0_hasLine ⟨Nat.le_of_ble_eq_true rfl, Nat.le_of_ble_eq_true rfl⟩) (m_preV hK hP hD [3, 4, 5] (by decide) rfl rfl rfl) rfl hl.1 rfl (Nat.le_of_ble_eq_true rfl) dX7_far_27 ⟨Nat.zero_le _, Nat.zero_le _⟩ ?_
      refine m_ifB_ne (tgt := 35) hx hb dX7_far_30 (by decide) (fun c_30 => ?_) (fun c_30 => ?_)
      · obtain ⟨e_v, i_v⟩ := ixB_cN (by omega) c_8
        obtain ⟨e_a, i_a⟩ := ixB_cN (by omega) c_19
        obtain ⟨e_b, i_b⟩ := ixB_cN (by omega) c_30
        have K9 : (ixB ve nv && ixB a nl && ixB b nl) = true := by rw [c_8, c_19, c_30]; rfl
        have hl : lv_has ls 4 [(0, .ref x), (1, .int (nI (cN ve))), (2, .int (nI (cN a))), (3, .int (nI (cN b)))] := by rw [← e_v, ← e_a, ← e_b]; exact hl
        refine lv_aload_n hx hb dX7_far_35 rfl (lv_at hl 0 rfl) ?_
        refine va_get (D := D) (ci := 7) (v := .ref o1) (C := RX7) (T := TX7) (N := 12) hx hb hts i_X7 hown hK.1 hP 0 rfl rfl 11 (by decide) f_63 (fun _ h9 => h9) rfl dX7_far_36 ?_
        refine lv_iload_n hx hb dX7_far_39 rfl (lv_at hl 1 rfl) ?_
        refine lv_iload_n hx hb dX7_far_40 rfl (lv_at hl 2 rfl) ?_
        refine lv_iload_n hx hb dX7_far_41 rfl (lv_at hl 3 rfl) ?_
        refine m_wrV (As := [.int (nI (cN ve)), .int (nI (cN a)), .int (nI (cN b))]) (rest := []) (wc := [(o1, .inr (1, [.ref oc, .ref d1])), (d1, aN cI 81 cs), (oc, .inr (0, [.ref a1, .ref a2, .int (nI nl), .int (nI nv)])), (a1, aN cI 640 g), (a2, aN cI 80 z)]) hcf (k_X1_between (l := l) (D := D) (cI := cI) (cZ := cZ) (v := cN ve) (ln := cN a) (ot := cN b) (o1 := o1) (oc := oc) (d1 := d1) (cs := cs) (a1 := a1) (a2 := a2) (nl := nl) (nv := nv) (g := g) (z := z) (hnl := hnl) (hnv := hnv) (hz := hz) (hg := hg) (hcs := hcs) (hv := by omega) (h1 := by omega) (h2 := by omega)) (cwV 3 hts gX7_far_X1_between rfl rfl rfl yd_X1_between ⟨Nat.le_of_ble_eq_true rfl, Nat.le_of_ble_eq_true rfl⟩) hK hP hD hS [1, 2, 3, 4, 5] (by decide) rfl rfl rfl rfl hl.1 rfl (Nat.le_of_ble_eq_true rfl) dX7_far_42 ⟨Nat.zero_le _, Nat.zero_le _⟩ (fun _ => rfl) (fun (u : (Nat → Nat)) => [(x, .inr (7, [.ref oc, .ref oz, .ref oy, .int (nI k0), .int (nI k1), .ref pa, .int (nI ps), .ref o, .ref o5, .ref o4, .ref o6, .ref o1])), (o1, .inr (1, [.ref oc, .ref d1])), (d1, aN cI 81 u), (oc, .inr (0, [.ref a1, .ref a2, .int (nI nl), .int (nI nv)])), (a1, aN cI 640 g), (a2, aN cI 80 z)]) (fun _ => rfl) (fun r u H locs hp_42 hP hD hS => ?_)
        obtain ⟨csu_42, rfl⟩ : ∃ z, z = u := ⟨_, rfl⟩
        have hP : va_P D vwCl [(x, .inr (7, [.ref oc, .ref oz, .ref oy, .int (nI k0), .int (nI k1), .ref pa, .int (nI ps), .ref o, .ref o5, .ref o4, .ref o6, .ref o1])), (o1, .inr (1, [.ref oc, .ref d1])), (d1, aN cI 81 csu_42), (oc, .inr (0, [.ref a1, .ref a2, .int (nI nl), .int (nI nv)])), (a1, aN cI 640 g), (a2, aN cI 80 z)] H := hP
        have hD : va_D A [(x, .inr (7, [.ref oc, .ref oz, .ref oy, .int (nI k0), .int (nI k1), .ref pa, .int (nI ps), .ref o, .ref o5, .ref o4, .ref o6, .ref o1])), (o1, .inr (1, [.ref oc, .ref d1])), (d1, aN cI 81 csu_42), (oc, .inr (0, [.ref a1, .ref a2, .int (nI nl), .int (nI nv)])), (a1, aN cI 640 g), (a2, aN cI 80 z)] := hD
        try dsimp only at hp_42
        obtain ⟨hr_hp_42, hp_42⟩ := hp_42
        rw [hr_hp_42]
        rw [hQ]
        exact m_iwr hx hb hr hlocks csu_42 (⟨by unfold farR; rw [if_pos K9]; rfl, hp_42⟩) hP hS dX7_far_45
      · refine lv_iconst (v := (-1)) hx hb dX7_far_33 (by decide) ?_
        rw [hQ]
        exact m_iwr hx hb hr hlocks cs (⟨by unfold farR; rw [if_neg (by first | (simp [c_8]; done) | (simp [c_19]; done) | (simp [c_30]; done))], hcs⟩) hP hS dX7_far_34

theorem yd_X7_near : yX7_near.cls = RX7 ∧ yX7_near.cls ≠ "java/lang/invoke/MethodHandle" ∧ yX7_near.cls ≠ "java/lang/invoke/VarHandle" ∧ (parseMethodDescriptor yX7_near.desc).map (fun d => d.parameters.length) = some 3 := by decide +kernel
set_option maxHeartbeats 4000000 in
set_option maxRecDepth 100000 in
theorem k_X7_near (l : Launch) (D : va_G) (cI cZ : ClassId) (x oc oz oy k0 k1 pa ps o o5 o4 o6 o1 : Nat) (a1 a2 nl nv : Nat) (z g : Nat → Nat) (d1 : Nat) (cs : Nat → Nat) (ve a co : Int32) (hnl : nl ≤ 20) (hnv : nv ≤ 4) (hz : ∀ j, z j ≤ 8) (hg : ∀ j, g j ≤ 126) (hcs : ∀ j, cs j ≤ 1000) : Met l yX7_near wsX7_near ({ frames := 3, cells := 0, slots := 0, locals := 73 }) (mPc [.ref x, .int ve, .int a, .int co] D cI cZ [(x, .inr (7, [.ref oc, .ref oz, .ref oy, .int (nI k0), .int (nI k1), .ref pa, .int (nI ps), .ref o, .ref o5, .ref o4, .ref o6, .ref o1])), (o1, .inr (1, [.ref oc, .ref d1])), (d1, aN cI 81 cs), (oc, .inr (0, [.ref a1, .ref a2, .int (nI nl), .int (nI nv)])), (a1, aN cI 640 g), (a2, aN cI 80 z)]) (mQi D (mA [(x, .inr (7, [.ref oc, .ref oz, .ref oy, .int (nI k0), .int (nI k1), .ref pa, .int (nI ps), .ref o, .ref o5, .ref o4, .ref o6, .ref o1])), (o1, .inr (1, [.ref oc, .ref d1])), (d1, aN cI 81 cs), (oc, .inr (0, [.ref a1, .ref a2, .int (nI nl), .int (nI nv)])), (a1, aN cI 640 g), (a2, aN cI 80 z)]) (fun (r : Int32) (u : (Nat → Nat)) => r = neaR nl nv z g ve a co ∧ ∀ j, u j ≤ 1000) (fun (u : (Nat → Nat)) => [(x, .inr (7, [.ref oc, .ref oz, .ref oy, .int (nI k0), .int (nI k1), .ref pa, .int (nI ps), .ref o, .ref o5, .ref o4, .ref o6, .ref o1])), (o1, .inr (1, [.ref oc, .ref d1])), (d1, aN cI 81 u), (oc, .inr (0, [.ref a1, .ref a2, .int (nI nl), .int (nI nv)])), (a1, aN cI 640 g), (a2, aN cI 80 z)])) 0 0 (mA [(x, .inr (7, [.ref oc, .ref oz, .ref oy, .int (nI k0), .int (nI k1), .ref pa, .int (nI ps), .ref o, .ref o5, .ref o4, .ref o6, .ref o1])), (o1, .inr (1, [.ref oc, .ref d1])), (d1, aN cI 81 cs), (oc, .inr (0, [.ref a1, .ref a2, .int (nI nl), .int (nI nv)])), (a1, aN cI 640 g), (a2, aN cI 80 z)]) := by
  refine Met.ofW (cc := cX7_near) (maxL := 6) (ret := (some .int)) (by decide) rfl ?_
  intro p e s m args below meth c s₁ BB hml hv
  obtain ⟨hargs, hP, hD0, hK⟩ := hv
  have hx := BB.exec
  have hb := BB.bytes
  have hr := BB.returns
  have hts := atoms_spec (ws := wsX7_near) BB.pre
  have hown : s.vm.findClass RX7 = some m.cls := findClass_of_methodNamed BB.named
  have hlocks := BB.notSynchronized
  have hcf : CallFix p m c cX7_near 6 s args wsX7_near RX7 := ⟨hx, hb, hml, hown, hts⟩
  obtain ⟨A, hAe⟩ : ∃ A, A = mA [(x, .inr (7, [.ref oc, .ref oz, .ref oy, .int (nI k0), .int (nI k1), .ref pa, .int (nI ps), .ref o, .ref o5, .ref o4, .ref o6, .ref o1])), (o1, .inr (1, [.ref oc, .ref d1])), (d1, aN cI 81 cs), (oc, .inr (0, [.ref a1, .ref a2, .int (nI nl), .int (nI nv)])), (a1, aN cI 640 g), (a2, aN cI 80 z)] := ⟨_, rfl⟩
  have hD : va_D A [(x, .inr (7, [.ref oc, .ref oz, .ref oy, .int (nI k0), .int (nI k1), .ref pa, .int (nI ps), .ref o, .ref o5, .ref o4, .ref o6, .ref o1])), (o1, .inr (1, [.ref oc, .ref d1])), (d1, aN cI 81 cs), (oc, .inr (0, [.ref a1, .ref a2, .int (nI nl), .int (nI nv)])), (a1, aN cI 640 g), (a2, aN cI 80 z)] := ⟨hD0.1, fun k q h => by rw [hAe]; exact ⟨k, q.2, h⟩⟩
  have hS : va_S A s.heap s.heap [] := va_S.rf
  rw [← hAe]
  rw [hargs, lg_entry_eq, ← hargs]
  have hl := lv_entry ([.ref x, .int ve, .int a, .int co]) (n := 6) (Nat.le_of_ble_eq_true rfl)
  generalize (lg_sl ([.ref x, .int ve, .int a, .int co]) ++ List.replicate (6 - (lg_sl ([.ref x, .int ve, .int a, .int co])).length) Slot.unset).toArray = ls at hl ⊢
  have hl : lv_has ls 6 [(0, .ref x), (1, .int ve), (2, .int a), (3, .int co)] := hl
  obtain ⟨Q, hQ⟩ : ∃ Q, Q = MQ below (mQi D A (fun (r : Int32) (u : (Nat → Nat)) => r = neaR nl nv z g ve a co ∧ ∀ j, u j ≤ 1000) (fun (u : (Nat → Nat)) => [(x, .inr (7, [.ref oc, .ref oz, .ref oy, .int (nI k0), .int (nI k1), .ref pa, .int (nI ps), .ref o, .ref o5, .ref o4, .ref o6, .ref o1])), (o1, .inr (1, [.ref oc, .ref d1])), (d1, aN cI 81 u), (oc, .inr (0, [.ref a1, .ref a2, .int (nI nl), .int (nI nv)])), (a1, aN cI 640 g), (a2, aN cI 80 z)])) args s 0 0 A := ⟨_, rfl⟩
  rw [← hQ]
  have i_X7 : ∀ w ∈ u_ws RX7 TX7 12, w ∈ wsX7_near := by decide +kernel
  have f_10 := hts (.fieldLink RX7 10 "SameAgain" "code" "LSameAgain$Code;") (by decide +kernel)
  have f_63 := hts (.fieldLink RX7 63 "SameAgain" "distance" "LSameAgain$Distance;") (by decide +kernel)
  refine lv_aload_n hx hb dX7_near_0 rfl (lv_at hl 0 rfl) ?_
  refine va_get (D := D) (ci := 7) (v := .ref oc) (C := RX7) (T := TX7) (N := 12) hx hb hts i_X7 hown hK.1 hP 0 rfl rfl 0 (by decide) f_10 (fun _ h9 => h9) rfl dX7_near_1 ?_
  refine lv_iload_n hx hb dX7_near_4 rfl (lv_at hl 1 rfl) ?_
  refine m_rdV (As := [.int ve]) (rest := []) (wc := [(oc, .inr (0, [.ref a1, .ref a2, .int (nI nl), .int (nI nv)])), (a1, aN cI 640 g), (a2, aN cI 80 z)]) hcf (k_X0_hasVersion (l := l) (D := D) (cI := cI) (cZ := cZ) (x := ve) (o := oc) (a1 := a1) (a2 := a2) (nl := nl) (nv := nv) (g := g) (z := z) (hnl := hnl) (hnv := hnv)) (cwV 1 hts gX7_near_X0_hasVersion rfl rfl rfl yd_X0_hasVersion ⟨Nat.le_of_ble_eq_true rfl, Nat.le_of_ble_eq_true rfl⟩) (m_preV hK hP hD [3, 4, 5] (by decide) rfl rfl rfl) rfl hl.1 rfl (Nat.le_of_ble_eq_true rfl) dX7_near_5 ⟨Nat.zero_le _, Nat.zero_le _⟩ ?_
  refine m_ifB_eq (tgt := 22) hx hb dX7_near_8 (by decide) (fun c_8 => ?_) (fun c_8 => ?_)
  · refine lv_iconst (v := (-1)) hx hb dX7_near_22 (by decide) ?_
    rw [hQ]
    exact m_iwr hx hb hr hlocks cs (⟨by unfold neaR; rw [if_neg (by first | (simp [c_8]; done) | (simp [c_19]; done))], hcs⟩) hP hS dX7_near_23
  · refine lv_aload_n hx hb dX7_near_11 rfl (lv_at hl 0 rfl) ?_
    refine va_get (D := D) (ci := 7) (v := .ref oc) (C := RX7) (T := TX7) (N := 12) hx hb hts i_X7 hown hK.1 hP 0 rfl rfl 0 (by decide) f_10 (fun _ h9 => h9) rfl dX7_near_12 ?_
    refine lv_iload_n hx hb dX7_near_15 rfl (lv_at hl 2 rfl) ?_
    refine m_rdV (As := [.int a]) (rest := []) (wc := [(oc, .inr (0, [.ref a1, .ref a2, .int (nI nl), .int (nI nv)])), (a1, aN cI 640 g), (a2, aN cI 80 z)]) hcf (k_X0_hasLine (l := l) (D := D) (cI := cI) (cZ := cZ) (x := a) (o := oc) (a1 := a1) (a2 := a2) (nl := nl) (nv := nv) (g := g) (z := z) (hnl := hnl) (hnv := hnv)) (cwV 1 hts gX7_near_X0_hasLine rfl rfl rfl yd_X0_hasLine ⟨Nat.le_of_ble_eq_true rfl, Nat.le_of_ble_eq_true rfl⟩) (m_preV hK hP hD [3, 4, 5] (by decide) rfl rfl rfl) rfl hl.1 rfl (Nat.le_of_ble_eq_true rfl) dX7_near_16 ⟨Nat.zero_le _, Nat.zero_le _⟩ ?_
    refine m_ifB_ne (tgt := 24) hx hb dX7_near_19 (by decide) (fun c_19 => ?_) (fun c_19 => ?_)
    · obtain ⟨e_v, i_v⟩ := ixB_cN (by omega) c_8
      obtain ⟨e_a, i_a⟩ := ixB_cN (by omega) c_19
      have K9 : (ixB ve nv && ixB a nl) = true := by rw [c_8, c_19]; rfl
      refine lv_iload_n hx hb dX7_near_24 rfl (lv_at hl 3 rfl) ?_
      refine lv_bipush (v := nI 24) hx hb dX7_near_25 (by decide) ?_
      refine m_rdS (As := [.int co, .int (nI 24)]) (rest := []) (wc := []) hcf (k_X7_isUpTo (l := l) (D := D) (cI := cI) (cZ := cZ) (a := co) (b := 24) (hb9 := by omega)) (va_cwS 2 hts gX7_near_X7_isUpTo rfl rfl rfl yd_X7_isUpTo.2 ⟨Nat.le_of_ble_eq_true rfl, Nat.le_of_ble_eq_true rfl⟩) (m_preS hK hP hD [] (by decide) rfl) rfl hl.1 rfl (Nat.le_of_ble_eq_true rfl) dX7_near_27 ⟨Nat.zero_le _, Nat.zero_le _⟩ ?_
      refine m_ifB_ne (tgt := 36) hx hb dX7_near_30 (by decide) (fun c_30 => ?_) (fun c_30 => ?_)
      · obtain ⟨e_c, i_c⟩ := ixB_cN (by decide) c_30
        have hl : lv_has ls 6 [(0, .ref x), (1, .int (nI (cN ve))), (2, .int (nI (cN a))), (3, .int (nI (cN co)))] := by rw [← e_v, ← e_a, ← e_c]; exact hl
        refine lv_iconst (v := nI 0) hx hb dX7_near_36 (by decide) ?_
        refine lv_istore (lv' := [(4, .int (nI 0)), (0, .ref x), (1, .int (nI (cN ve))), (2, .int (nI (cN a))), (3, .int (nI (cN co)))]) hx hb dX7_near_37 hl (by decide) rfl (fun ls hl => ?_)
        refine lv_iconst (v := nI 0) hx hb dX7_near_39 (by decide) ?_
        refine lv_istore (lv' := [(5, .int (nI 0)), (4, .int (nI 0)), (0, .ref x), (1, .int (nI (cN ve))), (2, .int (nI (cN a))), (3, .int (nI (cN co)))]) hx hb dX7_near_40 hl (by decide) rfl (fun ls hl => ?_)
        have loop_42 : ∀ (fu : Nat) (w f : Nat) (ct : Nat → Nat) (hfu : nl - w < fu)  (hw : w ≤ nl) (hct : ∀ j, ct j ≤ 1000) (hf : f = mkN (fun oo => decide (faN z g (cN ve) (cN a) oo ≤ cN co)) w) (H : Heap) (locs : List Loc) (hP : va_P D vwCl [(x, .inr (7, [.ref oc, .ref oz, .ref oy, .int (nI k0), .int (nI k1), .ref pa, .int (nI ps), .ref o, .ref o5, .ref o4, .ref o6, .ref o1])), (o1, .inr (1, [.ref oc, .ref d1])), (d1, aN cI 81 ct), (oc, .inr (0, [.ref a1, .ref a2, .int (nI nl), .int (nI nv)])), (a1, aN cI 640 g), (a2, aN cI 80 z)] H) (hD : va_D A [(x, .inr (7, [.ref oc, .ref oz, .ref oy, .int (nI k0), .int (nI k1), .ref pa, .int (nI ps), .ref o, .ref o5, .ref o4, .ref o6, .ref o1])), (o1, .inr (1, [.ref oc, .ref d1])), (d1, aN cI 81 ct), (oc, .inr (0, [.ref a1, .ref a2, .int (nI nl), .int (nI nv)])), (a1, aN cI 640 g), (a2, aN cI 80 z)]) (hS : va_S A s.heap H locs) (ls : Array Slot) (hl : lv_has ls 6 [(0, .ref x), (1, .int (nI (cN ve))), (2, .int (nI (cN a))), (3, .int (nI (cN co))), (4, .int (nI f)), (5, .int (nI w))]), W p l e (headSpec wsX7_near { frames := 3, cells := 0, slots := 0, locals := 73 }).room s m args below meth c H locs 0 0 Q (F0 m 42 ls []) := by
          intro fu
          induction fu with
          | zero => intro w f ct hfu; exact absurd hfu (Nat.not_lt_zero _)
          | succ fu ih_42 =>
            intro w f ct hfu hw hct hf H locs hP hD hS ls hl
            refine lv_iload hx hb dX7_near_42 (lv_at hl 5 rfl) ?_
            refine lv_aload_n hx hb dX7_near_44 rfl (lv_at hl 0 rfl) ?_
            refine va_get (D := D) (ci := 7) (v := .ref oc) (C := RX7) (T := TX7) (N := 12) hx hb hts i_X7 hown hK.1 hP 0 rfl rfl 0 (by decide) f_10 (fun _ h9 => h9) rfl dX7_near_45 ?_
            refine m_rdV (As := []) (rest := [.int (nI w)]) (wc := [(oc, .inr (0, [.ref a1, .ref a2, .int (nI nl), .int (nI nv)])), (a1, aN cI 640 g), (a2, aN cI 80 z)]) hcf (k_X0_lines (l := l) (D := D) (cI := cI) (cZ := cZ) (o := oc) (a1 := a1) (a2 := a2) (nl := nl) (nv := nv) (g := g) (z := z) ) (cwV 0 hts gX7_near_X0_lines rfl rfl rfl yd_X0_lines ⟨Nat.le_of_ble_eq_true rfl, Nat.le_of_ble_eq_true rfl⟩) (m_preV hK hP hD [3, 4, 5] (by decide) rfl rfl rfl) rfl hl.1 rfl (Nat.le_of_ble_eq_true rfl) dX7_near_48 ⟨Nat.zero_le _, Nat.zero_le _⟩ ?_
            refine m_cmp_ge (tgt := 84) hx hb dX7_near_51 (by decide) (by omega) (by omega) (fun c_51 => ?_) (fun c_51 => ?_)
            · refine lv_iload hx hb dX7_near_84 (lv_at hl 4 rfl) ?_
              rw [hQ]
              have e9 : w = nl := by omega
              exact m_iwr hx hb hr hlocks ct (⟨by unfold neaR; rw [if_pos K9, if_pos c_30, hf, e9], hct⟩) hP hS dX7_near_86
            · refine lv_aload_n hx hb dX7_near_54 rfl (lv_at hl 0 rfl) ?_
              refine va_get (D := D) (ci := 7) (v := .ref o1) (C := RX7) (T := TX7) (N := 12) hx hb hts i_X7 hown hK.1 hP 0 rfl rfl 11 (by decide) f_63 (fun _ h9 => h9) rfl dX7_near_55 ?_
              refine lv_iload_n hx hb dX7_near_58 rfl (lv_at hl 1 rfl) ?_
              refine lv_iload_n hx hb dX7_near_59 rfl (lv_at hl 2 rfl) ?_
              refine lv_iload hx hb dX7_near_60 (lv_at hl 5 rfl) ?_
              refine m_wrV (As := [.int (nI (cN ve)), .int (nI (cN a)), .int (nI w)]) (rest := []) (wc := [(o1, .inr (1, [.ref oc, .ref d1])), (d1, aN cI 81 ct), (oc, .inr (0, [.ref a1, .ref a2, .int (nI nl), .int (nI nv)])), (a1, aN cI 640 g), (a2, aN cI 80 z)]) hcf (k_X1_between (l := l) (D := D) (cI := cI) (cZ := cZ) (v := cN ve) (ln := cN a) (ot := w) (o1 := o1) (oc := oc) (d1 := d1) (cs := ct) (a1 := a1) (a2 := a2) (nl := nl) (nv := nv) (g := g) (z := z) (hnl := hnl) (hnv := hnv) (hz := hz) (hg := hg) (hcs := hct) (hv := by omega) (h1 := by omega) (h2 := by omega)) (cwV 3 hts gX7_near_X1_between rfl rfl rfl yd_X1_between ⟨Nat.le_of_ble_eq_true rfl, Nat.le_of_ble_eq_true rfl⟩) hK hP hD hS [1, 2, 3, 4, 5] (by decide) rfl rfl rfl rfl hl.1 rfl (Nat.le_of_ble_eq_true rfl) dX7_near_62 ⟨Nat.zero_le _, Nat.zero_le _⟩ (fun _ => rfl) (fun (u : (Nat → Nat)) => [(x, .inr (7, [.ref oc, .ref oz, .ref oy, .int (nI k0), .int (nI k1), .ref pa, .int (nI ps), .ref o, .ref o5, .ref o4, .ref o6, .ref o1])), (o1, .inr (1, [.ref oc, .ref d1])), (d1, aN cI 81 u), (oc, .inr (0, [.ref a1, .ref a2, .int (nI nl), .int (nI nv)])), (a1, aN cI 640 g), (a2, aN cI 80 z)]) (fun _ => rfl) (fun r u H locs hp_62 hP hD hS => ?_)
              obtain ⟨csu_62, rfl⟩ : ∃ z, z = u := ⟨_, rfl⟩
              have hP : va_P D vwCl [(x, .inr (7, [.ref oc, .ref oz, .ref oy, .int (nI k0), .int (nI k1), .ref pa, .int (nI ps), .ref o, .ref o5, .ref o4, .ref o6, .ref o1])), (o1, .inr (1, [.ref oc, .ref d1])), (d1, aN cI 81 csu_62), (oc, .inr (0, [.ref a1, .ref a2, .int (nI nl), .int (nI nv)])), (a1, aN cI 640 g), (a2, aN cI 80 z)] H := hP
              have hD : va_D A [(x, .inr (7, [.ref oc, .ref oz, .ref oy, .int (nI k0), .int (nI k1), .ref pa, .int (nI ps), .ref o, .ref o5, .ref o4, .ref o6, .ref o1])), (o1, .inr (1, [.ref oc, .ref d1])), (d1, aN cI 81 csu_62), (oc, .inr (0, [.ref a1, .ref a2, .int (nI nl), .int (nI nv)])), (a1, aN cI 640 g), (a2, aN cI 80 z)] := hD
              try dsimp only at hp_62
              obtain ⟨hr_hp_62, hp_62⟩ := hp_62
              rw [hr_hp_62]
              refine m_top (y := nI (faN z g (cN ve) (cN a) w)) rfl ?_
              have hf9 := faN_le (g := g) hz (cN ve) (cN a) w
              refine lv_iload_n hx hb dX7_near_65 rfl (lv_at hl 3 rfl) ?_
              refine m_cmp_gt (tgt := 78) hx hb dX7_near_66 (by decide) (by omega) (by omega) (fun c_66 => ?_) (fun c_66 => ?_)
              · refine lv_iinc (v := nI (w + 1)) (lv' := [(5, .int (nI (w + 1))), (0, .ref x), (1, .int (nI (cN ve))), (2, .int (nI (cN a))), (3, .int (nI (cN co))), (4, .int (nI f))]) hx hb dX7_near_78 hl (k := 5) rfl ((nI_succ _).symm) (by decide) rfl (fun ls hl => ?_)
                refine lv_goto (tgt := 42) hx hb dX7_near_81 (by decide) ?_
                exact ih_42 (w + 1) _ _ (by omega) (by omega) hp_62 (by rw [hf]; exact mkN_f (decide_eq_false (by omega))) _ _ hP hD hS ls (lv_sub hl [1, 2, 3, 4, 5, 0] rfl)
              · refine lv_iload hx hb dX7_near_69 (lv_at hl 4 rfl) ?_
                refine lv_iconst (v := nI 1) hx hb dX7_near_71 (by decide) ?_
                refine lv_iload hx hb dX7_near_72 (lv_at hl 5 rfl) ?_
                refine m_shl1 hx hb (by omega) dX7_near_74 ?_
                refine m_or hx hb dX7_near_75 ?_
                refine lv_istore (lv' := [(4, .int (nI (f ||| (2 ^ w)))), (0, .ref x), (1, .int (nI (cN ve))), (2, .int (nI (cN a))), (3, .int (nI (cN co))), (5, .int (nI w))]) hx hb dX7_near_76 hl (by decide) rfl (fun ls hl => ?_)
                refine lv_iinc (v := nI (w + 1)) (lv' := [(5, .int (nI (w + 1))), (4, .int (nI (f ||| (2 ^ w)))), (0, .ref x), (1, .int (nI (cN ve))), (2, .int (nI (cN a))), (3, .int (nI (cN co)))]) hx hb dX7_near_78 hl (k := 5) rfl ((nI_succ _).symm) (by decide) rfl (fun ls hl => ?_)
                refine lv_goto (tgt := 42) hx hb dX7_near_81 (by decide) ?_
                exact ih_42 (w + 1) _ _ (by omega) (by omega) hp_62 (by rw [hf]; exact mkN_t (decide_eq_true c_66)) _ _ hP hD hS ls (lv_sub hl [2, 3, 4, 5, 1, 0] rfl)
        exact loop_42 (nl + 1) 0 0 cs (by omega) (by omega) hcs rfl _ _ hP hD hS ls (lv_sub hl [2, 3, 4, 5, 1, 0] rfl)
      · refine lv_bipush (v := (-2)) hx hb dX7_near_33 (by decide) ?_
        rw [hQ]
        exact m_iwr hx hb hr hlocks cs (⟨by unfold neaR; rw [if_pos K9, if_neg (by rw [c_30]; decide)], hcs⟩) hP hS dX7_near_35
    · refine lv_iconst (v := (-1)) hx hb dX7_near_22 (by decide) ?_
      rw [hQ]
      exact m_iwr hx hb hr hlocks cs (⟨by unfold neaR; rw [if_neg (by first | (simp [c_8]; done) | (simp [c_19]; done))], hcs⟩) hP hS dX7_near_23
