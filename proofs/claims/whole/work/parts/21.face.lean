theorem yd_X7_alike : yX7_alike.cls = RX7 ∧ yX7_alike.cls ≠ "java/lang/invoke/MethodHandle" ∧ yX7_alike.cls ≠ "java/lang/invoke/VarHandle" ∧ (parseMethodDescriptor yX7_alike.desc).map (fun d => d.parameters.length) = some 5 := by decide +kernel
set_option maxHeartbeats 4000000 in
set_option maxRecDepth 100000 in
theorem k_X7_alike (l : Launch) (D : va_G) (cI cZ : ClassId) (x oz oy k0 k1 pa ps o5 o4 o6 o1 : Nat) (o q0 q1 ra oc a1 a2 ll lo lt n1 n2 nl nv : Nat) (pt rc z g : Nat → Nat) (ve way one oth n : Int32) (hnl : nl ≤ 20) (hnv : nv ≤ 4) (hz : ∀ j, z j ≤ 8) (hg : ∀ j, g j ≤ 126) (hpt : ∀ j, pt j ≤ 126) : Met l yX7_alike wsX7_alike ({ frames := 6, cells := 0, slots := 0, locals := 147 }) (mPc [.ref x, .int ve, .int way, .int one, .int oth, .int n] D cI cZ [(x, .inr (7, [.ref oc, .ref oz, .ref oy, .int (nI k0), .int (nI k1), .ref pa, .int (nI ps), .ref o, .ref o5, .ref o4, .ref o6, .ref o1])), (o, .inr (2, [.ref oc, .ref q0, .ref ra, .int (nI ll), .int (nI lo), .int (nI lt)])), (q0, .inr (3, [.ref q1, .int (nI n1), .int (nI n2)])), (q1, aN cI 26 pt), (ra, aN cI 400 rc), (oc, .inr (0, [.ref a1, .ref a2, .int (nI nl), .int (nI nv)])), (a1, aN cI 640 g), (a2, aN cI 80 z)]) (mQi D (mA [(x, .inr (7, [.ref oc, .ref oz, .ref oy, .int (nI k0), .int (nI k1), .ref pa, .int (nI ps), .ref o, .ref o5, .ref o4, .ref o6, .ref o1])), (o, .inr (2, [.ref oc, .ref q0, .ref ra, .int (nI ll), .int (nI lo), .int (nI lt)])), (q0, .inr (3, [.ref q1, .int (nI n1), .int (nI n2)])), (q1, aN cI 26 pt), (ra, aN cI 400 rc), (oc, .inr (0, [.ref a1, .ref a2, .int (nI nl), .int (nI nv)])), (a1, aN cI 640 g), (a2, aN cI 80 z)]) (fun (r : Int32) (u : Nat × Nat × (Nat → Nat)) => r = rfQ nv ve (ixB way 3 && arB one oth n) (bI (raB (cN way) z g (cN ve) nl (cN one) (cN oth) (cN n))) ∧ (∀ j, u.2.2 j ≤ 126)) (fun (u : Nat × Nat × (Nat → Nat)) => [(x, .inr (7, [.ref oc, .ref oz, .ref oy, .int (nI k0), .int (nI k1), .ref pa, .int (nI ps), .ref o, .ref o5, .ref o4, .ref o6, .ref o1])), (o, .inr (2, [.ref oc, .ref q0, .ref ra, .int (nI ll), .int (nI lo), .int (nI lt)])), (q0, .inr (3, [.ref q1, .int (nI u.1), .int (nI u.2.1)])), (q1, aN cI 26 u.2.2), (ra, aN cI 400 rc), (oc, .inr (0, [.ref a1, .ref a2, .int (nI nl), .int (nI nv)])), (a1, aN cI 640 g), (a2, aN cI 80 z)])) 0 0 (mA [(x, .inr (7, [.ref oc, .ref oz, .ref oy, .int (nI k0), .int (nI k1), .ref pa, .int (nI ps), .ref o, .ref o5, .ref o4, .ref o6, .ref o1])), (o, .inr (2, [.ref oc, .ref q0, .ref ra, .int (nI ll), .int (nI lo), .int (nI lt)])), (q0, .inr (3, [.ref q1, .int (nI n1), .int (nI n2)])), (q1, aN cI 26 pt), (ra, aN cI 400 rc), (oc, .inr (0, [.ref a1, .ref a2, .int (nI nl), .int (nI nv)])), (a1, aN cI 640 g), (a2, aN cI 80 z)]) := by
  refine Met.ofW (cc := cX7_alike) (maxL := 7) (ret := (some .int)) (by decide) rfl ?_
  intro p e s m args below meth c s₁ BB hml hv
  obtain ⟨hargs, hP, hD0, hK⟩ := hv
  have hx := BB.exec
  have hb := BB.bytes
  have hr := BB.returns
  have hts := atoms_spec (ws := wsX7_alike) BB.pre
  have hown : s.vm.findClass RX7 = some m.cls := findClass_of_methodNamed BB.named
  have hlocks := BB.notSynchronized
  have hcf : CallFix p m c cX7_alike 7 s args wsX7_alike RX7 := ⟨hx, hb, hml, hown, hts⟩
  obtain ⟨A, hAe⟩ : ∃ A, A = mA [(x, .inr (7, [.ref oc, .ref oz, .ref oy, .int (nI k0), .int (nI k1), .ref pa, .int (nI ps), .ref o, .ref o5, .ref o4, .ref o6, .ref o1])), (o, .inr (2, [.ref oc, .ref q0, .ref ra, .int (nI ll), .int (nI lo), .int (nI lt)])), (q0, .inr (3, [.ref q1, .int (nI n1), .int (nI n2)])), (q1, aN cI 26 pt), (ra, aN cI 400 rc), (oc, .inr (0, [.ref a1, .ref a2, .int (nI nl), .int (nI nv)])), (a1, aN cI 640 g), (a2, aN cI 80 z)] := ⟨_, rfl⟩
  have hD : va_D A [(x, .inr (7, [.ref oc, .ref oz, .ref oy, .int (nI k0), .int (nI k1), .ref pa, .int (nI ps), .ref o, .ref o5, .ref o4, .ref o6, .ref o1])), (o, .inr (2, [.ref oc, .ref q0, .ref ra, .int (nI ll), .int (nI lo), .int (nI lt)])), (q0, .inr (3, [.ref q1, .int (nI n1), .int (nI n2)])), (q1, aN cI 26 pt), (ra, aN cI 400 rc), (oc, .inr (0, [.ref a1, .ref a2, .int (nI nl), .int (nI nv)])), (a1, aN cI 640 g), (a2, aN cI 80 z)] := ⟨hD0.1, fun k q h => by rw [hAe]; exact ⟨k, q.2, h⟩⟩
  have hS : va_S A s.heap s.heap [] := va_S.rf
  rw [← hAe]
  rw [hargs, lg_entry_eq, ← hargs]
  have hl := lv_entry ([.ref x, .int ve, .int way, .int one, .int oth, .int n]) (n := 7) (Nat.le_of_ble_eq_true rfl)
  generalize (lg_sl ([.ref x, .int ve, .int way, .int one, .int oth, .int n]) ++ List.replicate (7 - (lg_sl ([.ref x, .int ve, .int way, .int one, .int oth, .int n])).length) Slot.unset).toArray = ls at hl ⊢
  have hl : lv_has ls 7 [(0, .ref x), (1, .int ve), (2, .int way), (3, .int one), (4, .int oth), (5, .int n)] := hl
  obtain ⟨Q, hQ⟩ : ∃ Q, Q = MQ below (mQi D A (fun (r : Int32) (u : Nat × Nat × (Nat → Nat)) => r = rfQ nv ve (ixB way 3 && arB one oth n) (bI (raB (cN way) z g (cN ve) nl (cN one) (cN oth) (cN n))) ∧ (∀ j, u.2.2 j ≤ 126)) (fun (u : Nat × Nat × (Nat → Nat)) => [(x, .inr (7, [.ref oc, .ref oz, .ref oy, .int (nI k0), .int (nI k1), .ref pa, .int (nI ps), .ref o, .ref o5, .ref o4, .ref o6, .ref o1])), (o, .inr (2, [.ref oc, .ref q0, .ref ra, .int (nI ll), .int (nI lo), .int (nI lt)])), (q0, .inr (3, [.ref q1, .int (nI u.1), .int (nI u.2.1)])), (q1, aN cI 26 u.2.2), (ra, aN cI 400 rc), (oc, .inr (0, [.ref a1, .ref a2, .int (nI nl), .int (nI nv)])), (a1, aN cI 640 g), (a2, aN cI 80 z)])) args s 0 0 A := ⟨_, rfl⟩
  rw [← hQ]
  have i_X7 : ∀ w ∈ u_ws RX7 TX7 12, w ∈ wsX7_alike := by decide +kernel
  have f_31 := hts (.fieldLink RX7 31 "SameAgain" "likeness" "LSameAgain$Likeness;") (by decide +kernel)
  refine lv_aload_n hx hb dX7_alike_0 rfl (lv_at hl 0 rfl) ?_
  refine lv_iload_n hx hb dX7_alike_1 rfl (lv_at hl 1 rfl) ?_
  refine lv_iload_n hx hb dX7_alike_2 rfl (lv_at hl 2 rfl) ?_
  refine m_rdS (As := [.int way]) (rest := [.int ve, .ref x]) (wc := []) hcf (k_X7_isWay (l := l) (D := D) (cI := cI) (cZ := cZ) (a := way) ) (va_cwS 1 hts gX7_alike_X7_isWay rfl rfl rfl yd_X7_isWay.2 ⟨Nat.le_of_ble_eq_true rfl, Nat.le_of_ble_eq_true rfl⟩) (m_preS hK hP hD [] (by decide) rfl) rfl hl.1 rfl (Nat.le_of_ble_eq_true rfl) dX7_alike_3 ⟨Nat.zero_le _, Nat.zero_le _⟩ ?_
  refine m_ifB_eq (tgt := 24) hx hb dX7_alike_6 (by decide) (fun c_6 => ?_) (fun c_6 => ?_)
  · refine lv_iconst (v := nI 0) hx hb dX7_alike_24 (by decide) ?_
    refine m_rdV (As := [.int ve, .int (nI 0)]) (rest := []) (wc := [(x, .inr (7, [.ref oc, .ref oz, .ref oy, .int (nI k0), .int (nI k1), .ref pa, .int (nI ps), .ref o, .ref o5, .ref o4, .ref o6, .ref o1])), (oc, .inr (0, [.ref a1, .ref a2, .int (nI nl), .int (nI nv)])), (a1, aN cI 640 g), (a2, aN cI 80 z)]) hcf (k_X7_refusalIn (l := l) (D := D) (cI := cI) (cZ := cZ) (ve := ve) (b := false) (x := x) (oc := oc) (oz := oz) (oy := oy) (k0 := k0) (k1 := k1) (pa := pa) (ps := ps) (o := o) (o5 := o5) (o4 := o4) (o6 := o6) (o1 := o1) (a1 := a1) (a2 := a2) (nl := nl) (nv := nv) (g := g) (z := z) (hnl := hnl) (hnv := hnv)) (cwV 2 hts gX7_alike_X7_refusalIn rfl rfl rfl yd_X7_refusalIn ⟨Nat.le_of_ble_eq_true rfl, Nat.le_of_ble_eq_true rfl⟩) (m_preV hK hP hD [0, 5, 6, 7] (by decide) rfl rfl rfl) rfl hl.1 rfl (Nat.le_of_ble_eq_true rfl) dX7_alike_25 ⟨Nat.zero_le _, Nat.zero_le _⟩ ?_
    refine lv_istore (lv' := [(6, .int (rfQ nv ve false 0)), (0, .ref x), (1, .int ve), (2, .int way), (3, .int one), (4, .int oth), (5, .int n)]) hx hb dX7_alike_28 hl (by decide) rfl (fun ls hl => ?_)
    refine lv_iload hx hb dX7_alike_30 (lv_at hl 0 rfl) ?_
    refine lv_if_eq (tgt := 38) hx hb dX7_alike_32 (by decide) (fun c_32 => ?_) (fun c_32 => ?_)
    · exact absurd (rfQ_0 c_32).2 (by decide)
    · refine lv_iload hx hb dX7_alike_35 (lv_at hl 0 rfl) ?_
      rw [hQ]
      exact m_iwr hx hb hr hlocks (n1, n2, pt) (⟨rfQ_n c_32 (by first | (simp [c_6, c_17]; done) | (simp [c_6]; done) | (simp [c_17]; done)), hpt⟩) hP hS dX7_alike_37
  · refine lv_iload_n hx hb dX7_alike_9 rfl (lv_at hl 3 rfl) ?_
    refine lv_iload hx hb dX7_alike_10 (lv_at hl 4 rfl) ?_
    refine lv_iload hx hb dX7_alike_12 (lv_at hl 5 rfl) ?_
    refine m_rdS (As := [.int one, .int oth, .int n]) (rest := [.int ve, .ref x]) (wc := []) hcf (k_X7_areRows (l := l) (D := D) (cI := cI) (cZ := cZ) (a := one) (b := oth) (n := n) ) (va_cwS 3 hts gX7_alike_X7_areRows rfl rfl rfl yd_X7_areRows.2 ⟨Nat.le_of_ble_eq_true rfl, Nat.le_of_ble_eq_true rfl⟩) (m_preS hK hP hD [] (by decide) rfl) rfl hl.1 rfl (Nat.le_of_ble_eq_true rfl) dX7_alike_14 ⟨Nat.zero_le _, Nat.zero_le _⟩ ?_
    refine m_ifB_eq (tgt := 24) hx hb dX7_alike_17 (by decide) (fun c_17 => ?_) (fun c_17 => ?_)
    · refine lv_iconst (v := nI 0) hx hb dX7_alike_24 (by decide) ?_
      refine m_rdV (As := [.int ve, .int (nI 0)]) (rest := []) (wc := [(x, .inr (7, [.ref oc, .ref oz, .ref oy, .int (nI k0), .int (nI k1), .ref pa, .int (nI ps), .ref o, .ref o5, .ref o4, .ref o6, .ref o1])), (oc, .inr (0, [.ref a1, .ref a2, .int (nI nl), .int (nI nv)])), (a1, aN cI 640 g), (a2, aN cI 80 z)]) hcf (k_X7_refusalIn (l := l) (D := D) (cI := cI) (cZ := cZ) (ve := ve) (b := false) (x := x) (oc := oc) (oz := oz) (oy := oy) (k0 := k0) (k1 := k1) (pa := pa) (ps := ps) (o := o) (o5 := o5) (o4 := o4) (o6 := o6) (o1 := o1) (a1 := a1) (a2 := a2) (nl := nl) (nv := nv) (g := g) (z := z) (hnl := hnl) (hnv := hnv)) (cwV 2 hts gX7_alike_X7_refusalIn rfl rfl rfl yd_X7_refusalIn ⟨Nat.le_of_ble_eq_true rfl, Nat.le_of_ble_eq_true rfl⟩) (m_preV hK hP hD [0, 5, 6, 7] (by decide) rfl rfl rfl) rfl hl.1 rfl (Nat.le_of_ble_eq_true rfl) dX7_alike_25 ⟨Nat.zero_le _, Nat.zero_le _⟩ ?_
      refine lv_istore (lv' := [(6, .int (rfQ nv ve false 0)), (0, .ref x), (1, .int ve), (2, .int way), (3, .int one), (4, .int oth), (5, .int n)]) hx hb dX7_alike_28 hl (by decide) rfl (fun ls hl => ?_)
      refine lv_iload hx hb dX7_alike_30 (lv_at hl 0 rfl) ?_
      refine lv_if_eq (tgt := 38) hx hb dX7_alike_32 (by decide) (fun c_32 => ?_) (fun c_32 => ?_)
      · exact absurd (rfQ_0 c_32).2 (by decide)
      · refine lv_iload hx hb dX7_alike_35 (lv_at hl 0 rfl) ?_
        rw [hQ]
        exact m_iwr hx hb hr hlocks (n1, n2, pt) (⟨rfQ_n c_32 (by first | (simp [c_6, c_17]; done) | (simp [c_6]; done) | (simp [c_17]; done)), hpt⟩) hP hS dX7_alike_37
    · refine lv_iconst (v := nI 1) hx hb dX7_alike_20 (by decide) ?_
      refine lv_goto (tgt := 25) hx hb dX7_alike_21 (by decide) ?_
      refine m_rdV (As := [.int ve, .int (nI 1)]) (rest := []) (wc := [(x, .inr (7, [.ref oc, .ref oz, .ref oy, .int (nI k0), .int (nI k1), .ref pa, .int (nI ps), .ref o, .ref o5, .ref o4, .ref o6, .ref o1])), (oc, .inr (0, [.ref a1, .ref a2, .int (nI nl), .int (nI nv)])), (a1, aN cI 640 g), (a2, aN cI 80 z)]) hcf (k_X7_refusalIn (l := l) (D := D) (cI := cI) (cZ := cZ) (ve := ve) (b := true) (x := x) (oc := oc) (oz := oz) (oy := oy) (k0 := k0) (k1 := k1) (pa := pa) (ps := ps) (o := o) (o5 := o5) (o4 := o4) (o6 := o6) (o1 := o1) (a1 := a1) (a2 := a2) (nl := nl) (nv := nv) (g := g) (z := z) (hnl := hnl) (hnv := hnv)) (cwV 2 hts gX7_alike_X7_refusalIn rfl rfl rfl yd_X7_refusalIn ⟨Nat.le_of_ble_eq_true rfl, Nat.le_of_ble_eq_true rfl⟩) (m_preV hK hP hD [0, 5, 6, 7] (by decide) rfl rfl rfl) rfl hl.1 rfl (Nat.le_of_ble_eq_true rfl) dX7_alike_25 ⟨Nat.zero_le _, Nat.zero_le _⟩ ?_
      refine lv_istore (lv' := [(6, .int (rfQ nv ve true 0)), (0, .ref x), (1, .int ve), (2, .int way), (3, .int one), (4, .int oth), (5, .int n)]) hx hb dX7_alike_28 hl (by decide) rfl (fun ls hl => ?_)
      refine lv_iload hx hb dX7_alike_30 (lv_at hl 0 rfl) ?_
      refine lv_if_eq (tgt := 38) hx hb dX7_alike_32 (by decide) (fun c_32 => ?_) (fun c_32 => ?_)
      · have K_v := (rfQ_0 c_32).1
        have KI : (ixB way 3 && arB one oth n) = true := by first | (simp [c_6, c_17]; done) | (simp [c_6]; done) | (simp [c_17]; done)
        obtain ⟨e_v, i_v⟩ := ixB_cN (by omega) K_v
        obtain ⟨e_w, i_w⟩ := ixB_cN (by decide) c_6
        obtain ⟨K1, K2, K3⟩ := arB_iff.mp c_17
        obtain ⟨e_1, i_1⟩ := ixB_cN (by decide) K1
        obtain ⟨e_2, i_2⟩ := ixB_cN (by decide) K2
        obtain ⟨e_n, i_n, j_n⟩ := lnB_cN K3
        have hl : lv_has ls 7 [(6, .int (rfQ nv ve true 0)), (0, .ref x), (1, .int (nI (cN ve))), (2, .int (nI (cN way))), (3, .int (nI (cN one))), (4, .int (nI (cN oth))), (5, .int (nI (cN n)))] := by rw [← e_v, ← e_w, ← e_1, ← e_2, ← e_n]; exact hl
        refine lv_aload_n hx hb dX7_alike_38 rfl (lv_at hl 1 rfl) ?_
        refine va_get (D := D) (ci := 7) (v := .ref o) (C := RX7) (T := TX7) (N := 12) hx hb hts i_X7 hown hK.1 hP 0 rfl rfl 7 (by decide) f_31 (fun _ h9 => h9) rfl dX7_alike_39 ?_
        refine lv_iload_n hx hb dX7_alike_42 rfl (lv_at hl 2 rfl) ?_
        refine lv_iload_n hx hb dX7_alike_43 rfl (lv_at hl 3 rfl) ?_
        refine lv_iload_n hx hb dX7_alike_44 rfl (lv_at hl 4 rfl) ?_
        refine lv_iload hx hb dX7_alike_45 (lv_at hl 5 rfl) ?_
        refine lv_iload hx hb dX7_alike_47 (lv_at hl 6 rfl) ?_
        refine m_wrV (As := [.int (nI (cN ve)), .int (nI (cN way)), .int (nI (cN one)), .int (nI (cN oth)), .int (nI (cN n))]) (rest := []) (wc := [(o, .inr (2, [.ref oc, .ref q0, .ref ra, .int (nI ll), .int (nI lo), .int (nI lt)])), (q0, .inr (3, [.ref q1, .int (nI n1), .int (nI n2)])), (q1, aN cI 26 pt), (ra, aN cI 400 rc), (oc, .inr (0, [.ref a1, .ref a2, .int (nI nl), .int (nI nv)])), (a1, aN cI 640 g), (a2, aN cI 80 z)]) hcf (k_X2_rowsAlike (l := l) (D := D) (cI := cI) (cZ := cZ) (v := cN ve) (way := cN way) (one := cN one) (other := cN oth) (n := cN n) (o := o) (oc := oc) (q0 := q0) (ra := ra) (ll := ll) (lo := lo) (lt := lt) (q1 := q1) (n1 := n1) (n2 := n2) (pt := pt) (rc := rc) (a1 := a1) (a2 := a2) (nl := nl) (nv := nv) (g := g) (z := z) (hnl := hnl) (hnv := hnv) (hz := hz) (hg := hg) (hpt := hpt) (hw := by omega) (hv := by omega) (h1 := by omega) (h2 := by omega) (hn := by omega)) (cwV 5 hts gX7_alike_X2_rowsAlike rfl rfl rfl yd_X2_rowsAlike ⟨Nat.le_of_ble_eq_true rfl, Nat.le_of_ble_eq_true rfl⟩) hK hP hD hS [1, 2, 3, 4, 5, 6, 7] (by decide) rfl rfl rfl rfl hl.1 rfl (Nat.le_of_ble_eq_true rfl) dX7_alike_49 ⟨Nat.zero_le _, Nat.zero_le _⟩ (fun _ => rfl) (fun (u : Nat × Nat × (Nat → Nat)) => [(x, .inr (7, [.ref oc, .ref oz, .ref oy, .int (nI k0), .int (nI k1), .ref pa, .int (nI ps), .ref o, .ref o5, .ref o4, .ref o6, .ref o1])), (o, .inr (2, [.ref oc, .ref q0, .ref ra, .int (nI ll), .int (nI lo), .int (nI lt)])), (q0, .inr (3, [.ref q1, .int (nI u.1), .int (nI u.2.1)])), (q1, aN cI 26 u.2.2), (ra, aN cI 400 rc), (oc, .inr (0, [.ref a1, .ref a2, .int (nI nl), .int (nI nv)])), (a1, aN cI 640 g), (a2, aN cI 80 z)]) (fun _ => rfl) (fun r u H locs hp_49 hP hD hS => ?_)
        obtain ⟨n1u_49, n2u_49, ptu_49⟩ := u
        have hP : va_P D vwCl [(x, .inr (7, [.ref oc, .ref oz, .ref oy, .int (nI k0), .int (nI k1), .ref pa, .int (nI ps), .ref o, .ref o5, .ref o4, .ref o6, .ref o1])), (o, .inr (2, [.ref oc, .ref q0, .ref ra, .int (nI ll), .int (nI lo), .int (nI lt)])), (q0, .inr (3, [.ref q1, .int (nI n1u_49), .int (nI n2u_49)])), (q1, aN cI 26 ptu_49), (ra, aN cI 400 rc), (oc, .inr (0, [.ref a1, .ref a2, .int (nI nl), .int (nI nv)])), (a1, aN cI 640 g), (a2, aN cI 80 z)] H := hP
        have hD : va_D A [(x, .inr (7, [.ref oc, .ref oz, .ref oy, .int (nI k0), .int (nI k1), .ref pa, .int (nI ps), .ref o, .ref o5, .ref o4, .ref o6, .ref o1])), (o, .inr (2, [.ref oc, .ref q0, .ref ra, .int (nI ll), .int (nI lo), .int (nI lt)])), (q0, .inr (3, [.ref q1, .int (nI n1u_49), .int (nI n2u_49)])), (q1, aN cI 26 ptu_49), (ra, aN cI 400 rc), (oc, .inr (0, [.ref a1, .ref a2, .int (nI nl), .int (nI nv)])), (a1, aN cI 640 g), (a2, aN cI 80 z)] := hD
        try dsimp only at hp_49
        obtain ⟨hr_hp_49, hp_49⟩ := hp_49
        rw [hr_hp_49]
        refine m_ifB_eq (tgt := 59) hx hb dX7_alike_52 (by decide) (fun c_52 => ?_) (fun c_52 => ?_)
        · refine lv_iconst (v := nI 0) hx hb dX7_alike_59 (by decide) ?_
          rw [hQ]
          exact m_iwr hx hb hr hlocks (n1u_49, n2u_49, ptu_49) (⟨by rw [rfQ_v K_v KI]; exact bb_zero c_52, hp_49.1⟩) hP hS dX7_alike_60
        · refine lv_iconst (v := nI 1) hx hb dX7_alike_55 (by decide) ?_
          refine lv_goto (tgt := 60) hx hb dX7_alike_56 (by decide) ?_
          rw [hQ]
          exact m_iwr hx hb hr hlocks (n1u_49, n2u_49, ptu_49) (⟨by rw [rfQ_v K_v KI]; exact bb_one c_52, hp_49.1⟩) hP hS dX7_alike_60
      · refine lv_iload hx hb dX7_alike_35 (lv_at hl 0 rfl) ?_
        rw [hQ]
        exact m_iwr hx hb hr hlocks (n1, n2, pt) (⟨rfQ_n c_32 (by first | (simp [c_6, c_17]; done) | (simp [c_6]; done) | (simp [c_17]; done)), hpt⟩) hP hS dX7_alike_37

theorem yd_X7_longest : yX7_longest.cls = RX7 ∧ yX7_longest.cls ≠ "java/lang/invoke/MethodHandle" ∧ yX7_longest.cls ≠ "java/lang/invoke/VarHandle" ∧ (parseMethodDescriptor yX7_longest.desc).map (fun d => d.parameters.length) = some 3 := by decide +kernel
set_option maxHeartbeats 4000000 in
set_option maxRecDepth 100000 in
theorem k_X7_longest (l : Launch) (D : va_G) (cI cZ : ClassId) (x oz oy k0 k1 pa ps o5 o4 o6 o1 : Nat) (o q0 q1 ra oc a1 a2 ll lo lt n1 n2 nl nv : Nat) (pt rc z g : Nat → Nat) (ve way wh : Int32) (hnl : nl ≤ 20) (hnv : nv ≤ 4) (hz : ∀ j, z j ≤ 8) (hg : ∀ j, g j ≤ 126) (hpt : ∀ j, pt j ≤ 126) (hrc : ∀ j, rc j ≤ 20) : Met l yX7_longest wsX7_longest ({ frames := 6, cells := 0, slots := 0, locals := 148 }) (mPc [.ref x, .int ve, .int way, .int wh] D cI cZ [(x, .inr (7, [.ref oc, .ref oz, .ref oy, .int (nI k0), .int (nI k1), .ref pa, .int (nI ps), .ref o, .ref o5, .ref o4, .ref o6, .ref o1])), (o, .inr (2, [.ref oc, .ref q0, .ref ra, .int (nI ll), .int (nI lo), .int (nI lt)])), (q0, .inr (3, [.ref q1, .int (nI n1), .int (nI n2)])), (q1, aN cI 26 pt), (ra, aN cI 400 rc), (oc, .inr (0, [.ref a1, .ref a2, .int (nI nl), .int (nI nv)])), (a1, aN cI 640 g), (a2, aN cI 80 z)]) (mQi D (mA [(x, .inr (7, [.ref oc, .ref oz, .ref oy, .int (nI k0), .int (nI k1), .ref pa, .int (nI ps), .ref o, .ref o5, .ref o4, .ref o6, .ref o1])), (o, .inr (2, [.ref oc, .ref q0, .ref ra, .int (nI ll), .int (nI lo), .int (nI lt)])), (q0, .inr (3, [.ref q1, .int (nI n1), .int (nI n2)])), (q1, aN cI 26 pt), (ra, aN cI 400 rc), (oc, .inr (0, [.ref a1, .ref a2, .int (nI nl), .int (nI nv)])), (a1, aN cI 640 g), (a2, aN cI 80 z)]) (fun (r : Int32) (u : Nat × Nat × (Nat → Nat) × (Nat → Nat) × Nat × Nat × Nat) => r = rfQ nv ve (ixB way 3 && ixB wh 3) (lgR u.2.2.2.2.1 u.2.2.2.2.2.1 u.2.2.2.2.2.2 wh) ∧ (∀ j, u.2.2.1 j ≤ 126) ∧ (∀ j, u.2.2.2.1 j ≤ 20) ∧ (ixB ve nv = true → (ixB way 3 && ixB wh 3) = true → lgI (rcC (cN way) z g (cN ve) nl) nl nl 0 u.2.2.2.2.1 u.2.2.2.2.2.1 u.2.2.2.2.2.2)) (fun (u : Nat × Nat × (Nat → Nat) × (Nat → Nat) × Nat × Nat × Nat) => [(x, .inr (7, [.ref oc, .ref oz, .ref oy, .int (nI k0), .int (nI k1), .ref pa, .int (nI ps), .ref o, .ref o5, .ref o4, .ref o6, .ref o1])), (o, .inr (2, [.ref oc, .ref q0, .ref ra, .int (nI u.2.2.2.2.1), .int (nI u.2.2.2.2.2.1), .int (nI u.2.2.2.2.2.2)])), (q0, .inr (3, [.ref q1, .int (nI u.1), .int (nI u.2.1)])), (q1, aN cI 26 u.2.2.1), (ra, aN cI 400 u.2.2.2.1), (oc, .inr (0, [.ref a1, .ref a2, .int (nI nl), .int (nI nv)])), (a1, aN cI 640 g), (a2, aN cI 80 z)])) 0 0 (mA [(x, .inr (7, [.ref oc, .ref oz, .ref oy, .int (nI k0), .int (nI k1), .ref pa, .int (nI ps), .ref o, .ref o5, .ref o4, .ref o6, .ref o1])), (o, .inr (2, [.ref oc, .ref q0, .ref ra, .int (nI ll), .int (nI lo), .int (nI lt)])), (q0, .inr (3, [.ref q1, .int (nI n1), .int (nI n2)])), (q1, aN cI 26 pt), (ra, aN cI 400 rc), (oc, .inr (0, [.ref a1, .ref a2, .int (nI nl), .int (nI nv)])), (a1, aN cI 640 g), (a2, aN cI 80 z)]) := by
  refine Met.ofW (cc := cX7_longest) (maxL := 5) (ret := (some .int)) (by decide) rfl ?_
  intro p e s m args below meth c s₁ BB hml hv
  obtain ⟨hargs, hP, hD0, hK⟩ := hv
  have hx := BB.exec
  have hb := BB.bytes
  have hr := BB.returns
  have hts := atoms_spec (ws := wsX7_longest) BB.pre
  have hown : s.vm.findClass RX7 = some m.cls := findClass_of_methodNamed BB.named
  have hlocks := BB.notSynchronized
  have hcf : CallFix p m c cX7_longest 5 s args wsX7_longest RX7 := ⟨hx, hb, hml, hown, hts⟩
  obtain ⟨A, hAe⟩ : ∃ A, A = mA [(x, .inr (7, [.ref oc, .ref oz, .ref oy, .int (nI k0), .int (nI k1), .ref pa, .int (nI ps), .ref o, .ref o5, .ref o4, .ref o6, .ref o1])), (o, .inr (2, [.ref oc, .ref q0, .ref ra, .int (nI ll), .int (nI lo), .int (nI lt)])), (q0, .inr (3, [.ref q1, .int (nI n1), .int (nI n2)])), (q1, aN cI 26 pt), (ra, aN cI 400 rc), (oc, .inr (0, [.ref a1, .ref a2, .int (nI nl), .int (nI nv)])), (a1, aN cI 640 g), (a2, aN cI 80 z)] := ⟨_, rfl⟩
  have hD : va_D A [(x, .inr (7, [.ref oc, .ref oz, .ref oy, .int (nI k0), .int (nI k1), .ref pa, .int (nI ps), .ref o, .ref o5, .ref o4, .ref o6, .ref o1])), (o, .inr (2, [.ref oc, .ref q0, .ref ra, .int (nI ll), .int (nI lo), .int (nI lt)])), (q0, .inr (3, [.ref q1, .int (nI n1), .int (nI n2)])), (q1, aN cI 26 pt), (ra, aN cI 400 rc), (oc, .inr (0, [.ref a1, .ref a2, .int (nI nl), .int (nI nv)])), (a1, aN cI 640 g), (a2, aN cI 80 z)] := ⟨hD0.1, fun k q h => by rw [hAe]; exact ⟨k, q.2, h⟩⟩
  have hS : va_S A s.heap s.heap [] := va_S.rf
  rw [← hAe]
  rw [hargs, lg_entry_eq, ← hargs]
  have hl := lv_entry ([.ref x, .int ve, .int way, .int wh]) (n := 5) (Nat.le_of_ble_eq_true rfl)
  generalize (lg_sl ([.ref x, .int ve, .int way, .int wh]) ++ List.replicate (5 - (lg_sl ([.ref x, .int ve, .int way, .int wh])).length) Slot.unset).toArray = ls at hl ⊢
  have hl : lv_has ls 5 [(0, .ref x), (1, .int ve), (2, .int way), (3, .int wh)] := hl
  obtain ⟨Q, hQ⟩ : ∃ Q, Q = MQ below (mQi D A (fun (r : Int32) (u : Nat × Nat × (Nat → Nat) × (Nat → Nat) × Nat × Nat × Nat) => r = rfQ nv ve (ixB way 3 && ixB wh 3) (lgR u.2.2.2.2.1 u.2.2.2.2.2.1 u.2.2.2.2.2.2 wh) ∧ (∀ j, u.2.2.1 j ≤ 126) ∧ (∀ j, u.2.2.2.1 j ≤ 20) ∧ (ixB ve nv = true → (ixB way 3 && ixB wh 3) = true → lgI (rcC (cN way) z g (cN ve) nl) nl nl 0 u.2.2.2.2.1 u.2.2.2.2.2.1 u.2.2.2.2.2.2)) (fun (u : Nat × Nat × (Nat → Nat) × (Nat → Nat) × Nat × Nat × Nat) => [(x, .inr (7, [.ref oc, .ref oz, .ref oy, .int (nI k0), .int (nI k1), .ref pa, .int (nI ps), .ref o, .ref o5, .ref o4, .ref o6, .ref o1])), (o, .inr (2, [.ref oc, .ref q0, .ref ra, .int (nI u.2.2.2.2.1), .int (nI u.2.2.2.2.2.1), .int (nI u.2.2.2.2.2.2)])), (q0, .inr (3, [.ref q1, .int (nI u.1), .int (nI u.2.1)])), (q1, aN cI 26 u.2.2.1), (ra, aN cI 400 u.2.2.2.1), (oc, .inr (0, [.ref a1, .ref a2, .int (nI nl), .int (nI nv)])), (a1, aN cI 640 g), (a2, aN cI 80 z)])) args s 0 0 A := ⟨_, rfl⟩
  rw [← hQ]
  have i_X7 : ∀ w ∈ u_ws RX7 TX7 12, w ∈ wsX7_longest := by decide +kernel
  have f_31 := hts (.fieldLink RX7 31 "SameAgain" "likeness" "LSameAgain$Likeness;") (by decide +kernel)
  have fn_130 := va_Nw.use (A := args) rfl (hK.2.1 ("SameAgain", 130, "SameAgain$Likeness", "longestLength", "I", "SameAgain") (by decide +kernel))
  have i_X2 : ∀ w ∈ u_ws RX2 TX2 6, w ∈ wsX7_longest := by decide +kernel
  have fn_136 := va_Nw.use (A := args) rfl (hK.2.1 ("SameAgain", 136, "SameAgain$Likeness", "longestOther", "I", "SameAgain") (by decide +kernel))
  have fn_133 := va_Nw.use (A := args) rfl (hK.2.1 ("SameAgain", 133, "SameAgain$Likeness", "longestOne", "I", "SameAgain") (by decide +kernel))
  refine lv_aload_n hx hb dX7_longest_0 rfl (lv_at hl 0 rfl) ?_
  refine lv_iload_n hx hb dX7_longest_1 rfl (lv_at hl 1 rfl) ?_
  refine lv_iload_n hx hb dX7_longest_2 rfl (lv_at hl 2 rfl) ?_
  refine m_rdS (As := [.int way]) (rest := [.int ve, .ref x]) (wc := []) hcf (k_X7_isWay (l := l) (D := D) (cI := cI) (cZ := cZ) (a := way) ) (va_cwS 1 hts gX7_longest_X7_isWay rfl rfl rfl yd_X7_isWay.2 ⟨Nat.le_of_ble_eq_true rfl, Nat.le_of_ble_eq_true rfl⟩) (m_preS hK hP hD [] (by decide) rfl) rfl hl.1 rfl (Nat.le_of_ble_eq_true rfl) dX7_longest_3 ⟨Nat.zero_le _, Nat.zero_le _⟩ ?_
  refine m_ifB_eq (tgt := 21) hx hb dX7_longest_6 (by decide) (fun c_6 => ?_) (fun c_6 => ?_)
  · refine lv_iconst (v := nI 0) hx hb dX7_longest_21 (by decide) ?_
    refine m_rdV (As := [.int ve, .int (nI 0)]) (rest := []) (wc := [(x, .inr (7, [.ref oc, .ref oz, .ref oy, .int (nI k0), .int (nI k1), .ref pa, .int (nI ps), .ref o, .ref o5, .ref o4, .ref o6, .ref o1])), (oc, .inr (0, [.ref a1, .ref a2, .int (nI nl), .int (nI nv)])), (a1, aN cI 640 g), (a2, aN cI 80 z)]) hcf (k_X7_refusalIn (l := l) (D := D) (cI := cI) (cZ := cZ) (ve := ve) (b := false) (x := x) (oc := oc) (oz := oz) (oy := oy) (k0 := k0) (k1 := k1) (pa := pa) (ps := ps) (o := o) (o5 := o5) (o4 := o4) (o6 := o6) (o1 := o1) (a1 := a1) (a2 := a2) (nl := nl) (nv := nv) (g := g) (z := z) (hnl := hnl) (hnv := hnv)) (cwV 2 hts gX7_longest_X7_refusalIn rfl rfl rfl yd_X7_refusalIn ⟨Nat.le_of_ble_eq_true rfl, Nat.le_of_ble_eq_true rfl⟩) (m_preV hK hP hD [0, 5, 6, 7] (by decide) rfl rfl rfl) rfl hl.1 rfl (Nat.le_of_ble_eq_true rfl) dX7_longest_22 ⟨Nat.zero_le _, Nat.zero_le _⟩ ?_
    refine lv_istore (lv' := [(4, .int (rfQ nv ve false 0)), (0, .ref x), (1, .int ve), (2, .int way), (3, .int wh)]) hx hb dX7_longest_25 hl (by decide) rfl (fun ls hl => ?_)
    refine lv_iload hx hb dX7_longest_27 (lv_at hl 0 rfl) ?_
    refine lv_if_eq (tgt := 35) hx hb dX7_longest_29 (by decide) (fun c_29 => ?_) (fun c_29 => ?_)
    · exact absurd (rfQ_0 c_29).2 (by decide)
    · refine lv_iload hx hb dX7_longest_32 (lv_at hl 0 rfl) ?_
      rw [hQ]
      exact m_iwr hx hb hr hlocks (n1, n2, pt, rc, ll, lo, lt) (⟨rfQ_n c_29 (by first | (simp [c_6, c_14]; done) | (simp [c_6]; done) | (simp [c_14]; done)), hpt, hrc, fun h1 h2 => (rfQ_x c_29 (by first | (simp [c_6, c_14]; done) | (simp [c_6]; done) | (simp [c_14]; done)) h1 h2).elim⟩) hP hS dX7_longest_34
  · refine lv_iload_n hx hb dX7_longest_9 rfl (lv_at hl 3 rfl) ?_
    refine lv_iconst (v := nI 2) hx hb dX7_longest_10 (by decide) ?_
    refine m_rdS (As := [.int wh, .int (nI 2)]) (rest := [.int ve, .ref x]) (wc := []) hcf (k_X7_isUpTo (l := l) (D := D) (cI := cI) (cZ := cZ) (a := wh) (b := 2) (hb9 := by omega)) (va_cwS 2 hts gX7_longest_X7_isUpTo rfl rfl rfl yd_X7_isUpTo.2 ⟨Nat.le_of_ble_eq_true rfl, Nat.le_of_ble_eq_true rfl⟩) (m_preS hK hP hD [] (by decide) rfl) rfl hl.1 rfl (Nat.le_of_ble_eq_true rfl) dX7_longest_11 ⟨Nat.zero_le _, Nat.zero_le _⟩ ?_
    refine m_ifB_eq (tgt := 21) hx hb dX7_longest_14 (by decide) (fun c_14 => ?_) (fun c_14 => ?_)
    · refine lv_iconst (v := nI 0) hx hb dX7_longest_21 (by decide) ?_
      refine m_rdV (As := [.int ve, .int (nI 0)]) (rest := []) (wc := [(x, .inr (7, [.ref oc, .ref oz, .ref oy, .int (nI k0), .int (nI k1), .ref pa, .int (nI ps), .ref o, .ref o5, .ref o4, .ref o6, .ref o1])), (oc, .inr (0, [.ref a1, .ref a2, .int (nI nl), .int (nI nv)])), (a1, aN cI 640 g), (a2, aN cI 80 z)]) hcf (k_X7_refusalIn (l := l) (D := D) (cI := cI) (cZ := cZ) (ve := ve) (b := false) (x := x) (oc := oc) (oz := oz) (oy := oy) (k0 := k0) (k1 := k1) (pa := pa) (ps := ps) (o := o) (o5 := o5) (o4 := o4) (o6 := o6) (o1 := o1) (a1 := a1) (a2 := a2) (nl := nl) (nv := nv) (g := g) (z := z) (hnl := hnl) (hnv := hnv)) (cwV 2 hts gX7_longest_X7_refusalIn rfl rfl rfl yd_X7_refusalIn ⟨Nat.le_of_ble_eq_true rfl, Nat.le_of_ble_eq_true rfl⟩) (m_preV hK hP hD [0, 5, 6, 7] (by decide) rfl rfl rfl) rfl hl.1 rfl (Nat.le_of_ble_eq_true rfl) dX7_longest_22 ⟨Nat.zero_le _, Nat.zero_le _⟩ ?_
      refine lv_istore (lv' := [(4, .int (rfQ nv ve false 0)), (0, .ref x), (1, .int ve), (2, .int way), (3, .int wh)]) hx hb dX7_longest_25 hl (by decide) rfl (fun ls hl => ?_)
      refine lv_iload hx hb dX7_longest_27 (lv_at hl 0 rfl) ?_
      refine lv_if_eq (tgt := 35) hx hb dX7_longest_29 (by decide) (fun c_29 => ?_) (fun c_29 => ?_)
      · exact absurd (rfQ_0 c_29).2 (by decide)
      · refine lv_iload hx hb dX7_longest_32 (lv_at hl 0 rfl) ?_
        rw [hQ]
        exact m_iwr hx hb hr hlocks (n1, n2, pt, rc, ll, lo, lt) (⟨rfQ_n c_29 (by first | (simp [c_6, c_14]; done) | (simp [c_6]; done) | (simp [c_14]; done)), hpt, hrc, fun h1 h2 => (rfQ_x c_29 (by first | (simp [c_6, c_14]; done) | (simp [c_6]; done) | (simp [c_14]; done)) h1 h2).elim⟩) hP hS dX7_longest_34
    · refine lv_iconst (v := nI 1) hx hb dX7_longest_17 (by decide) ?_
      refine lv_goto (tgt := 22) hx hb dX7_longest_18 (by decide) ?_
      refine m_rdV (As := [.int ve, .int (nI 1)]) (rest := []) (wc := [(x, .inr (7, [.ref oc, .ref oz, .ref oy, .int (nI k0), .int (nI k1), .ref pa, .int (nI ps), .ref o, .ref o5, .ref o4, .ref o6, .ref o1])), (oc, .inr (0, [.ref a1, .ref a2, .int (nI nl), .int (nI nv)])), (a1, aN cI 640 g), (a2, aN cI 80 z)]) hcf (k_X7_refusalIn (l := l) (D := D) (cI := cI) (cZ := cZ) (ve := ve) (b := true) (x := x) (oc := oc) (oz := oz) (oy := oy) (k0 := k0) (k1 := k1) (pa := pa) (ps := ps) (o := o) (o5 := o5) (o4 := o4) (o6 := o6) (o1 := o1) (a1 := a1) (a2 := a2) (nl := nl) (nv := nv) (g := g) (z := z) (hnl := hnl) (hnv := hnv)) (cwV 2 hts gX7_longest_X7_refusalIn rfl rfl rfl yd_X7_refusalIn ⟨Nat.le_of_ble_eq_true rfl, Nat.le_of_ble_eq_true rfl⟩) (m_preV hK hP hD [0, 5, 6, 7] (by decide) rfl rfl rfl) rfl hl.1 rfl (Nat.le_of_ble_eq_true rfl) dX7_longest_22 ⟨Nat.zero_le _, Nat.zero_le _⟩ ?_
      refine lv_istore (lv' := [(4, .int (rfQ nv ve true 0)), (0, .ref x), (1, .int ve), (2, .int way), (3, .int wh)]) hx hb dX7_longest_25 hl (by decide) rfl (fun ls hl => ?_)
      refine lv_iload hx hb dX7_longest_27 (lv_at hl 0 rfl) ?_
      refine lv_if_eq (tgt := 35) hx hb dX7_longest_29 (by decide) (fun c_29 => ?_) (fun c_29 => ?_)
      · have K_v := (rfQ_0 c_29).1
        have KI : (ixB way 3 && ixB wh 3) = true := by first | (simp [c_6, c_14]; done) | (simp [c_6]; done) | (simp [c_14]; done)
        obtain ⟨e_v, i_v⟩ := ixB_cN (by omega) K_v
        obtain ⟨e_w, i_w⟩ := ixB_cN (by decide) c_6
        have hl : lv_has ls 5 [(4, .int (rfQ nv ve true 0)), (0, .ref x), (1, .int (nI (cN ve))), (2, .int (nI (cN way))), (3, .int wh)] := by rw [← e_v, ← e_w]; exact hl
        refine lv_aload_n hx hb dX7_longest_35 rfl (lv_at hl 1 rfl) ?_
        refine va_get (D := D) (ci := 7) (v := .ref o) (C := RX7) (T := TX7) (N := 12) hx hb hts i_X7 hown hK.1 hP 0 rfl rfl 7 (by decide) f_31 (fun _ h9 => h9) rfl dX7_longest_36 ?_
        refine lv_iload_n hx hb dX7_longest_39 rfl (lv_at hl 2 rfl) ?_
        refine lv_iload_n hx hb dX7_longest_40 rfl (lv_at hl 3 rfl) ?_
        refine m_wvV (As := [.int (nI (cN ve)), .int (nI (cN way))]) (rest := []) (wc := [(o, .inr (2, [.ref oc, .ref q0, .ref ra, .int (nI ll), .int (nI lo), .int (nI lt)])), (q0, .inr (3, [.ref q1, .int (nI n1), .int (nI n2)])), (q1, aN cI 26 pt), (ra, aN cI 400 rc), (oc, .inr (0, [.ref a1, .ref a2, .int (nI nl), .int (nI nv)])), (a1, aN cI 640 g), (a2, aN cI 80 z)]) hcf (k_X2_compareAll (l := l) (D := D) (cI := cI) (cZ := cZ) (v := cN ve) (way := cN way) (o := o) (oc := oc) (q0 := q0) (ra := ra) (ll := ll) (lo := lo) (lt := lt) (q1 := q1) (n1 := n1) (n2 := n2) (pt := pt) (rc := rc) (a1 := a1) (a2 := a2) (nl := nl) (nv := nv) (g := g) (z := z) (hnl := hnl) (hnv := hnv) (hz := hz) (hg := hg) (hpt := hpt) (hrc := hrc) (hw := by omega) (hv := by omega)) (cwV 2 hts gX7_longest_X2_compareAll rfl rfl rfl yd_X2_compareAll ⟨Nat.le_of_ble_eq_true rfl, Nat.le_of_ble_eq_true rfl⟩) hK hP hD hS [1, 2, 3, 4, 5, 6, 7] (by decide) rfl rfl rfl rfl hl.1 rfl (Nat.le_of_ble_eq_true rfl) dX7_longest_41 ⟨Nat.zero_le _, Nat.zero_le _⟩ (fun _ => rfl) (fun (u : Nat × Nat × (Nat → Nat) × (Nat → Nat)) => [(x, .inr (7, [.ref oc, .ref oz, .ref oy, .int (nI k0), .int (nI k1), .ref pa, .int (nI ps), .ref o, .ref o5, .ref o4, .ref o6, .ref o1])), (o, .inr (2, [.ref oc, .ref q0, .ref ra, .int (nI ll), .int (nI lo), .int (nI lt)])), (q0, .inr (3, [.ref q1, .int (nI u.1), .int (nI u.2.1)])), (q1, aN cI 26 u.2.2.1), (ra, aN cI 400 u.2.2.2), (oc, .inr (0, [.ref a1, .ref a2, .int (nI nl), .int (nI nv)])), (a1, aN cI 640 g), (a2, aN cI 80 z)]) (fun _ => rfl) (fun u H locs hp_41 hP hD hS => ?_)
        obtain ⟨n1u_41, n2u_41, ptu_41, rcu_41⟩ := u
        have hP : va_P D vwCl [(x, .inr (7, [.ref oc, .ref oz, .ref oy, .int (nI k0), .int (nI k1), .ref pa, .int (nI ps), .ref o, .ref o5, .ref o4, .ref o6, .ref o1])), (o, .inr (2, [.ref oc, .ref q0, .ref ra, .int (nI ll), .int (nI lo), .int (nI lt)])), (q0, .inr (3, [.ref q1, .int (nI n1u_41), .int (nI n2u_41)])), (q1, aN cI 26 ptu_41), (ra, aN cI 400 rcu_41), (oc, .inr (0, [.ref a1, .ref a2, .int (nI nl), .int (nI nv)])), (a1, aN cI 640 g), (a2, aN cI 80 z)] H := hP
        have hD : va_D A [(x, .inr (7, [.ref oc, .ref oz, .ref oy, .int (nI k0), .int (nI k1), .ref pa, .int (nI ps), .ref o, .ref o5, .ref o4, .ref o6, .ref o1])), (o, .inr (2, [.ref oc, .ref q0, .ref ra, .int (nI ll), .int (nI lo), .int (nI lt)])), (q0, .inr (3, [.ref q1, .int (nI n1u_41), .int (nI n2u_41)])), (q1, aN cI 26 ptu_41), (ra, aN cI 400 rcu_41), (oc, .inr (0, [.ref a1, .ref a2, .int (nI nl), .int (nI nv)])), (a1, aN cI 640 g), (a2, aN cI 80 z)] := hD
        try dsimp only at hp_41
        refine lv_aload_n hx hb dX7_longest_44 rfl (lv_at hl 1 rfl) ?_
        refine va_get (D := D) (ci := 7) (v := .ref o) (C := RX7) (T := TX7) (N := 12) hx hb hts i_X7 hown hK.1 hP 0 rfl rfl 7 (by decide) f_31 (fun _ h9 => h9) rfl dX7_longest_45 ?_
        refine m_wvV (As := []) (rest := []) (wc := [(o, .inr (2, [.ref oc, .ref q0, .ref ra, .int (nI ll), .int (nI lo), .int (nI lt)])), (q0, .inr (3, [.ref q1, .int (nI n1u_41), .int (nI n2u_41)])), (q1, aN cI 26 ptu_41), (ra, aN cI 400 rcu_41), (oc, .inr (0, [.ref a1, .ref a2, .int (nI nl), .int (nI nv)])), (a1, aN cI 640 g), (a2, aN cI 80 z)]) hcf (k_X2_seekLongest (l := l) (D := D) (cI := cI) (cZ := cZ) (o := o) (oc := oc) (q0 := q0) (ra := ra) (ll := ll) (lo := lo) (lt := lt) (q1 := q1) (n1 := n1u_41) (n2 := n2u_41) (pt := ptu_41) (rc := rcu_41) (a1 := a1) (a2 := a2) (nl := nl) (nv := nv) (g := g) (z := z) (hnl := hnl) (hnv := hnv) (hrc := hp_41.2.1)) (cwV 0 hts gX7_longest_X2_seekLongest rfl rfl rfl yd_X2_seekLongest ⟨Nat.le_of_ble_eq_true rfl, Nat.le_of_ble_eq_true rfl⟩) hK hP hD hS [1, 2, 3, 4, 5, 6, 7] (by decide) rfl rfl rfl rfl hl.1 rfl (Nat.le_of_ble_eq_true rfl) dX7_longest_48 ⟨Nat.zero_le _, Nat.zero_le _⟩ (fun _ => rfl) (fun (u : Nat × Nat × Nat) => [(x, .inr (7, [.ref oc, .ref oz, .ref oy, .int (nI k0), .int (nI k1), .ref pa, .int (nI ps), .ref o, .ref o5, .ref o4, .ref o6, .ref o1])), (o, .inr (2, [.ref oc, .ref q0, .ref ra, .int (nI u.1), .int (nI u.2.1), .int (nI u.2.2)])), (q0, .inr (3, [.ref q1, .int (nI n1u_41), .int (nI n2u_41)])), (q1, aN cI 26 ptu_41), (ra, aN cI 400 rcu_41), (oc, .inr (0, [.ref a1, .ref a2, .int (nI nl), .int (nI nv)])), (a1, aN cI 640 g), (a2, aN cI 80 z)]) (fun _ => rfl) (fun u H locs hp_48 hP hD hS => ?_)
        obtain ⟨llu_48, lou_48, ltu_48⟩ := u
        have hP : va_P D vwCl [(x, .inr (7, [.ref oc, .ref oz, .ref oy, .int (nI k0), .int (nI k1), .ref pa, .int (nI ps), .ref o, .ref o5, .ref o4, .ref o6, .ref o1])), (o, .inr (2, [.ref oc, .ref q0, .ref ra, .int (nI llu_48), .int (nI lou_48), .int (nI ltu_48)])), (q0, .inr (3, [.ref q1, .int (nI n1u_41), .int (nI n2u_41)])), (q1, aN cI 26 ptu_41), (ra, aN cI 400 rcu_41), (oc, .inr (0, [.ref a1, .ref a2, .int (nI nl), .int (nI nv)])), (a1, aN cI 640 g), (a2, aN cI 80 z)] H := hP
        have hD : va_D A [(x, .inr (7, [.ref oc, .ref oz, .ref oy, .int (nI k0), .int (nI k1), .ref pa, .int (nI ps), .ref o, .ref o5, .ref o4, .ref o6, .ref o1])), (o, .inr (2, [.ref oc, .ref q0, .ref ra, .int (nI llu_48), .int (nI lou_48), .int (nI ltu_48)])), (q0, .inr (3, [.ref q1, .int (nI n1u_41), .int (nI n2u_41)])), (q1, aN cI 26 ptu_41), (ra, aN cI 400 rcu_41), (oc, .inr (0, [.ref a1, .ref a2, .int (nI nl), .int (nI nv)])), (a1, aN cI 640 g), (a2, aN cI 80 z)] := hD
        try dsimp only at hp_48
        refine lv_aload_n hx hb dX7_longest_51 rfl (lv_at hl 1 rfl) ?_
        refine va_get (D := D) (ci := 7) (v := .ref o) (C := RX7) (T := TX7) (N := 12) hx hb hts i_X7 hown hK.1 hP 0 rfl rfl 7 (by decide) f_31 (fun _ h9 => h9) rfl dX7_longest_52 ?_
        refine va_getN (D := D) (ci := 2) (v := .int (nI llu_48)) (C := RX2) (T := TX2) (N := 6) hx hb hts i_X2 hown hK.1 hP 1 rfl rfl 3 (by decide) fn_130 (fun _ h9 => h9) rfl dX7_longest_55 ?_
        refine m_if_ne (tgt := 64) hx hb dX7_longest_58 (by decide) (by have := hp_48.2; omega) (fun c_58 => ?_) (fun c_58 => ?_)
        · refine lv_iload_n hx hb dX7_longest_64 rfl (lv_at hl 4 rfl) ?_
          refine lv_if_ne (tgt := 76) hx hb dX7_longest_65 (by decide) (fun c_65 => ?_) (fun c_65 => ?_)
          · refine lv_iload_n hx hb dX7_longest_76 rfl (lv_at hl 4 rfl) ?_
            refine lv_iconst (v := nI 1) hx hb dX7_longest_77 (by decide) ?_
            refine lv_icmp_ne (tgt := 91) hx hb dX7_longest_78 (by decide) (fun c_78 => ?_) (fun c_78 => ?_)
            · refine lv_aload_n hx hb dX7_longest_91 rfl (lv_at hl 1 rfl) ?_
              refine va_get (D := D) (ci := 7) (v := .ref o) (C := RX7) (T := TX7) (N := 12) hx hb hts i_X7 hown hK.1 hP 0 rfl rfl 7 (by decide) f_31 (fun _ h9 => h9) rfl dX7_longest_92 ?_
              refine va_getN (D := D) (ci := 2) (v := .int (nI ltu_48)) (C := RX2) (T := TX2) (N := 6) hx hb hts i_X2 hown hK.1 hP 1 rfl rfl 5 (by decide) fn_136 (fun _ h9 => h9) rfl dX7_longest_95 ?_
              rw [hQ]
              exact m_iwr hx hb hr hlocks (n1u_41, n2u_41, ptu_41, rcu_41, llu_48, lou_48, ltu_48) (⟨by rw [rfQ_v K_v KI]; unfold lgR; rw [if_neg c_58, if_neg c_65, if_neg (show ¬ wh = 1 from c_78)], hp_41.2.2, hp_41.2.1, fun _ _ => lgI_C hnl hp_41.1 hp_48.1⟩) hP hS dX7_longest_98
            · refine lv_aload_n hx hb dX7_longest_81 rfl (lv_at hl 1 rfl) ?_
              refine va_get (D := D) (ci := 7) (v := .ref o) (C := RX7) (T := TX7) (N := 12) hx hb hts i_X7 hown hK.1 hP 0 rfl rfl 7 (by decide) f_31 (fun _ h9 => h9) rfl dX7_longest_82 ?_
              refine va_getN (D := D) (ci := 2) (v := .int (nI lou_48)) (C := RX2) (T := TX2) (N := 6) hx hb hts i_X2 hown hK.1 hP 1 rfl rfl 4 (by decide) fn_133 (fun _ h9 => h9) rfl dX7_longest_85 ?_
              refine lv_goto (tgt := 98) hx hb dX7_longest_88 (by decide) ?_
              rw [hQ]
              exact m_iwr hx hb hr hlocks (n1u_41, n2u_41, ptu_41, rcu_41, llu_48, lou_48, ltu_48) (⟨by rw [rfQ_v K_v KI]; unfold lgR; rw [if_neg c_58, if_neg c_65, if_pos (show wh = 1 from c_78)], hp_41.2.2, hp_41.2.1, fun _ _ => lgI_C hnl hp_41.1 hp_48.1⟩) hP hS dX7_longest_98
          · refine lv_aload_n hx hb dX7_longest_68 rfl (lv_at hl 1 rfl) ?_
            refine va_get (D := D) (ci := 7) (v := .ref o) (C := RX7) (T := TX7) (N := 12) hx hb hts i_X7 hown hK.1 hP 0 rfl rfl 7 (by decide) f_31 (fun _ h9 => h9) rfl dX7_longest_69 ?_
            refine va_getN (D := D) (ci := 2) (v := .int (nI llu_48)) (C := RX2) (T := TX2) (N := 6) hx hb hts i_X2 hown hK.1 hP 1 rfl rfl 3 (by decide) fn_130 (fun _ h9 => h9) rfl dX7_longest_72 ?_
            rw [hQ]
            exact m_iwr hx hb hr hlocks (n1u_41, n2u_41, ptu_41, rcu_41, llu_48, lou_48, ltu_48) (⟨by rw [rfQ_v K_v KI]; unfold lgR; rw [if_neg c_58, if_pos c_65], hp_41.2.2, hp_41.2.1, fun _ _ => lgI_C hnl hp_41.1 hp_48.1⟩) hP hS dX7_longest_75
        · refine lv_bipush (v := (-6)) hx hb dX7_longest_61 (by decide) ?_
          rw [hQ]
          exact m_iwr hx hb hr hlocks (n1u_41, n2u_41, ptu_41, rcu_41, llu_48, lou_48, ltu_48) (⟨by rw [rfQ_v K_v KI]; unfold lgR; rw [if_pos c_58], hp_41.2.2, hp_41.2.1, fun _ _ => lgI_C hnl hp_41.1 hp_48.1⟩) hP hS dX7_longest_63
      · refine lv_iload hx hb dX7_longest_32 (lv_at hl 0 rfl) ?_
        rw [hQ]
        exact m_iwr hx hb hr hlocks (n1, n2, pt, rc, ll, lo, lt) (⟨rfQ_n c_29 (by first | (simp [c_6, c_14]; done) | (simp [c_6]; done) | (simp [c_14]; done)), hpt, hrc, fun h1 h2 => (rfQ_x c_29 (by first | (simp [c_6, c_14]; done) | (simp [c_6]; done) | (simp [c_14]; done)) h1 h2).elim⟩) hP hS dX7_longest_34

theorem yd_X7_like : yX7_like.cls = RX7 ∧ yX7_like.cls ≠ "java/lang/invoke/MethodHandle" ∧ yX7_like.cls ≠ "java/lang/invoke/VarHandle" ∧ (parseMethodDescriptor yX7_like.desc).map (fun d => d.parameters.length) = some 4 := by decide +kernel
set_option maxHeartbeats 4000000 in
set_option maxRecDepth 100000 in
theorem k_X7_like (l : Launch) (D : va_G) (cI cZ : ClassId) (x oz oy k0 k1 pa ps o5 o4 o6 o1 : Nat) (o q0 q1 ra oc a1 a2 ll lo lt n1 n2 nl nv : Nat) (pt rc z g : Nat → Nat) (ve way sta n : Int32) (hnl : nl ≤ 20) (hnv : nv ≤ 4) (hz : ∀ j, z j ≤ 8) (hg : ∀ j, g j ≤ 126) (hpt : ∀ j, pt j ≤ 126) (hrc : ∀ j, rc j ≤ 20) : Met l yX7_like wsX7_like ({ frames := 6, cells := 0, slots := 0, locals := 148 }) (mPc [.ref x, .int ve, .int way, .int sta, .int n] D cI cZ [(x, .inr (7, [.ref oc, .ref oz, .ref oy, .int (nI k0), .int (nI k1), .ref pa, .int (nI ps), .ref o, .ref o5, .ref o4, .ref o6, .ref o1])), (o, .inr (2, [.ref oc, .ref q0, .ref ra, .int (nI ll), .int (nI lo), .int (nI lt)])), (q0, .inr (3, [.ref q1, .int (nI n1), .int (nI n2)])), (q1, aN cI 26 pt), (ra, aN cI 400 rc), (oc, .inr (0, [.ref a1, .ref a2, .int (nI nl), .int (nI nv)])), (a1, aN cI 640 g), (a2, aN cI 80 z)]) (mQi D (mA [(x, .inr (7, [.ref oc, .ref oz, .ref oy, .int (nI k0), .int (nI k1), .ref pa, .int (nI ps), .ref o, .ref o5, .ref o4, .ref o6, .ref o1])), (o, .inr (2, [.ref oc, .ref q0, .ref ra, .int (nI ll), .int (nI lo), .int (nI lt)])), (q0, .inr (3, [.ref q1, .int (nI n1), .int (nI n2)])), (q1, aN cI 26 pt), (ra, aN cI 400 rc), (oc, .inr (0, [.ref a1, .ref a2, .int (nI nl), .int (nI nv)])), (a1, aN cI 640 g), (a2, aN cI 80 z)]) (fun (r : Int32) (u : Nat × Nat × (Nat → Nat) × (Nat → Nat)) => r = rfQ nv ve (ixB way 3 && ixB sta 20 && lnB n) (nI (slN (rcC (cN way) z g (cN ve) nl) nl (cN sta) (cN n))) ∧ (∀ j, u.2.2.1 j ≤ 126) ∧ (∀ j, u.2.2.2 j ≤ 20)) (fun (u : Nat × Nat × (Nat → Nat) × (Nat → Nat)) => [(x, .inr (7, [.ref oc, .ref oz, .ref oy, .int (nI k0), .int (nI k1), .ref pa, .int (nI ps), .ref o, .ref o5, .ref o4, .ref o6, .ref o1])), (o, .inr (2, [.ref oc, .ref q0, .ref ra, .int (nI ll), .int (nI lo), .int (nI lt)])), (q0, .inr (3, [.ref q1, .int (nI u.1), .int (nI u.2.1)])), (q1, aN cI 26 u.2.2.1), (ra, aN cI 400 u.2.2.2), (oc, .inr (0, [.ref a1, .ref a2, .int (nI nl), .int (nI nv)])), (a1, aN cI 640 g), (a2, aN cI 80 z)])) 0 0 (mA [(x, .inr (7, [.ref oc, .ref oz, .ref oy, .int (nI k0), .int (nI k1), .ref pa, .int (nI ps), .ref o, .ref o5, .ref o4, .ref o6, .ref o1])), (o, .inr (2, [.ref oc, .ref q0, .ref ra, .int (nI ll), .int (nI lo), .int (nI lt)])), (q0, .inr (3, [.ref q1, .int (nI n1), .int (nI n2)])), (q1, aN cI 26 pt), (ra, aN cI 400 rc), (oc, .inr (0, [.ref a1, .ref a2, .int (nI nl), .int (nI nv)])), (a1, aN cI 640 g), (a2, aN cI 80 z)]) := by
  refine Met.ofW (cc := cX7_like) (maxL := 6) (ret := (some .int)) (by decide) rfl ?_
  intro p e s m args below meth c s₁ BB hml hv
  obtain ⟨hargs, hP, hD0, hK⟩ := hv
  have hx := BB.exec
  have hb := BB.bytes
  have hr := BB.returns
  have hts := atoms_spec (ws := wsX7_like) BB.pre
  have hown : s.vm.findClass RX7 = some m.cls := findClass_of_methodNamed BB.named
  have hlocks := BB.notSynchronized
  have hcf : CallFix p m c cX7_like 6 s args wsX7_like RX7 := ⟨hx, hb, hml, hown, hts⟩
  obtain ⟨A, hAe⟩ : ∃ A, A = mA [(x, .inr (7, [.ref oc, .ref oz, .ref oy, .int (nI k0), .int (nI k1), .ref pa, .int (nI ps), .ref o, .ref o5, .ref o4, .ref o6, .ref o1])), (o, .inr (2, [.ref oc, .ref q0, .ref ra, .int (nI ll), .int (nI lo), .int (nI lt)])), (q0, .inr (3, [.ref q1, .int (nI n1), .int (nI n2)])), (q1, aN cI 26 pt), (ra, aN cI 400 rc), (oc, .inr (0, [.ref a1, .ref a2, .int (nI nl), .int (nI nv)])), (a1, aN cI 640 g), (a2, aN cI 80 z)] := ⟨_, rfl⟩
  have hD : va_D A [(x, .inr (7, [.ref oc, .ref oz, .ref oy, .int (nI k0), .int (nI k1), .ref pa, .int (nI ps), .ref o, .ref o5, .ref o4, .ref o6, .ref o1])), (o, .inr (2, [.ref oc, .ref q0, .ref ra, .int (nI ll), .int (nI lo), .int (nI lt)])), (q0, .inr (3, [.ref q1, .int (nI n1), .int (nI n2)])), (q1, aN cI 26 pt), (ra, aN cI 400 rc), (oc, .inr (0, [.ref a1, .ref a2, .int (nI nl), .int (nI nv)])), (a1, aN cI 640 g), (a2, aN cI 80 z)] := ⟨hD0.1, fun k q h => by rw [hAe]; exact ⟨k, q.2, h⟩⟩
  have hS : va_S A s.heap s.heap [] := va_S.rf
  rw [← hAe]
  rw [hargs, lg_entry_eq, ← hargs]
  have hl := lv_entry ([.ref x, .int ve, .int way, .int sta, .int n]) (n := 6) (Nat.le_of_ble_eq_true rfl)
  generalize (lg_sl ([.ref x, .int ve, .int way, .int sta, .int n]) ++ List.replicate (6 - (lg_sl ([.ref x, .int ve, .int way, .int sta, .int n])).length) Slot.unset).toArray = ls at hl ⊢
  have hl : lv_has ls 6 [(0, .ref x), (1, .int ve), (2, .int way), (3, .int sta), (4, .int n)] := hl
  obtain ⟨Q, hQ⟩ : ∃ Q, Q = MQ below (mQi D A (fun (r : Int32) (u : Nat × Nat × (Nat → Nat) × (Nat → Nat)) => r = rfQ nv ve (ixB way 3 && ixB sta 20 && lnB n) (nI (slN (rcC (cN way) z g (cN ve) nl) nl (cN sta) (cN n))) ∧ (∀ j, u.2.2.1 j ≤ 126) ∧ (∀ j, u.2.2.2 j ≤ 20)) (fun (u : Nat × Nat × (Nat → Nat) × (Nat → Nat)) => [(x, .inr (7, [.ref oc, .ref oz, .ref oy, .int (nI k0), .int (nI k1), .ref pa, .int (nI ps), .ref o, .ref o5, .ref o4, .ref o6, .ref o1])), (o, .inr (2, [.ref oc, .ref q0, .ref ra, .int (nI ll), .int (nI lo), .int (nI lt)])), (q0, .inr (3, [.ref q1, .int (nI u.1), .int (nI u.2.1)])), (q1, aN cI 26 u.2.2.1), (ra, aN cI 400 u.2.2.2), (oc, .inr (0, [.ref a1, .ref a2, .int (nI nl), .int (nI nv)])), (a1, aN cI 640 g), (a2, aN cI 80 z)])) args s 0 0 A := ⟨_, rfl⟩
  rw [← hQ]
  have i_X7 : ∀ w ∈ u_ws RX7 TX7 12, w ∈ wsX7_like := by decide +kernel
  have f_31 := hts (.fieldLink RX7 31 "SameAgain" "likeness" "LSameAgain$Likeness;") (by decide +kernel)
  refine lv_aload_n hx hb dX7_like_0 rfl (lv_at hl 0 rfl) ?_
  refine lv_iload_n hx hb dX7_like_1 rfl (lv_at hl 1 rfl) ?_
  refine lv_iload_n hx hb dX7_like_2 rfl (lv_at hl 2 rfl) ?_
  refine m_rdS (As := [.int way]) (rest := [.int ve, .ref x]) (wc := []) hcf (k_X7_isWay (l := l) (D := D) (cI := cI) (cZ := cZ) (a := way) ) (va_cwS 1 hts gX7_like_X7_isWay rfl rfl rfl yd_X7_isWay.2 ⟨Nat.le_of_ble_eq_true rfl, Nat.le_of_ble_eq_true rfl⟩) (m_preS hK hP hD [] (by decide) rfl) rfl hl.1 rfl (Nat.le_of_ble_eq_true rfl) dX7_like_3 ⟨Nat.zero_le _, Nat.zero_le _⟩ ?_
  refine m_ifB_eq (tgt := 28) hx hb dX7_like_6 (by decide) (fun c_6 => ?_) (fun c_6 => ?_)
  · refine lv_iconst (v := nI 0) hx hb dX7_like_28 (by decide) ?_
    refine m_rdV (As := [.int ve, .int (nI 0)]) (rest := []) (wc := [(x, .inr (7, [.ref oc, .ref oz, .ref oy, .int (nI k0), .int (nI k1), .ref pa, .int (nI ps), .ref o, .ref o5, .ref o4, .ref o6, .ref o1])), (oc, .inr (0, [.ref a1, .ref a2, .int (nI nl), .int (nI nv)])), (a1, aN cI 640 g), (a2, aN cI 80 z)]) hcf (k_X7_refusalIn (l := l) (D := D) (cI := cI) (cZ := cZ) (ve := ve) (b := false) (x := x) (oc := oc) (oz := oz) (oy := oy) (k0 := k0) (k1 := k1) (pa := pa) (ps := ps) (o := o) (o5 := o5) (o4 := o4) (o6 := o6) (o1 := o1) (a1 := a1) (a2 := a2) (nl := nl) (nv := nv) (g := g) (z := z) (hnl := hnl) (hnv := hnv)) (cwV 2 hts gX7_like_X7_refusalIn rfl rfl rfl yd_X7_refusalIn ⟨Nat.le_of_ble_eq_true rfl, Nat.le_of_ble_eq_true rfl⟩) (m_preV hK hP hD [0, 5, 6, 7] (by decide) rfl rfl rfl) rfl hl.1 rfl (Nat.le_of_ble_eq_true rfl) dX7_like_29 ⟨Nat.zero_le _, Nat.zero_le _⟩ ?_
    refine lv_istore (lv' := [(5, .int (rfQ nv ve false 0)), (0, .ref x), (1, .int ve), (2, .int way), (3, .int sta), (4, .int n)]) hx hb dX7_like_32 hl (by decide) rfl (fun ls hl => ?_)
    refine lv_iload hx hb dX7_like_34 (lv_at hl 0 rfl) ?_
    refine lv_if_eq (tgt := 42) hx hb dX7_like_36 (by decide) (fun c_36 => ?_) (fun c_36 => ?_)
    · exact absurd (rfQ_0 c_36).2 (by decide)
    · refine lv_iload hx hb dX7_like_39 (lv_at hl 0 rfl) ?_
      rw [hQ]
      exact m_iwr hx hb hr hlocks (n1, n2, pt, rc) (⟨rfQ_n c_36 (by first | (simp [c_6, c_13, c_21]; done) | (simp [c_6]; done) | (simp [c_13]; done) | (simp [c_21]; done)), hpt, hrc⟩) hP hS dX7_like_41
  · refine lv_iload_n hx hb dX7_like_9 rfl (lv_at hl 3 rfl) ?_
    refine m_rdS (As := [.int sta]) (rest := [.int ve, .ref x]) (wc := []) hcf (k_X7_isStart (l := l) (D := D) (cI := cI) (cZ := cZ) (a := sta) ) (va_cwS 1 hts gX7_like_X7_isStart rfl rfl rfl yd_X7_isStart.2 ⟨Nat.le_of_ble_eq_true rfl, Nat.le_of_ble_eq_true rfl⟩) (m_preS hK hP hD [] (by decide) rfl) rfl hl.1 rfl (Nat.le_of_ble_eq_true rfl) dX7_like_10 ⟨Nat.zero_le _, Nat.zero_le _⟩ ?_
    refine m_ifB_eq (tgt := 28) hx hb dX7_like_13 (by decide) (fun c_13 => ?_) (fun c_13 => ?_)
    · refine lv_iconst (v := nI 0) hx hb dX7_like_28 (by decide) ?_
      refine m_rdV (As := [.int ve, .int (nI 0)]) (rest := []) (wc := [(x, .inr (7, [.ref oc, .ref oz, .ref oy, .int (nI k0), .int (nI k1), .ref pa, .int (nI ps), .ref o, .ref o5, .ref o4, .ref o6, .ref o1])), (oc, .inr (0, [.ref a1, .ref a2, .int (nI nl), .int (nI nv)])), (a1, aN cI 640 g), (a2, aN cI 80 z)]) hcf (k_X7_refusalIn (l := l) (D := D) (cI := cI) (cZ := cZ) (ve := ve) (b := false) (x := x) (oc := oc) (oz := oz) (oy := oy) (k0 := k0) (k1 := k1) (pa := pa) (ps := ps) (o := o) (o5 := o5) (o4 := o4) (o6 := o6) (o1 := o1) (a1 := a1) (a2 := a2) (nl := nl) (nv := nv) (g := g) (z := z) (hnl := hnl) (hnv := hnv)) (cwV 2 hts gX7_like_X7_refusalIn rfl rfl rfl yd_X7_refusalIn ⟨Nat.le_of_ble_eq_true rfl, Nat.le_of_ble_eq_true rfl⟩) (m_preV hK hP hD [0, 5, 6, 7] (by decide) rfl rfl rfl) rfl hl.1 rfl (Nat.le_of_ble_eq_true rfl) dX7_like_29 ⟨Nat.zero_le _, Nat.zero_le _⟩ ?_
      refine lv_istore (lv' := [(5, .int (rfQ nv ve false 0)), (0, .ref x), (1, .int ve), (2, .int way), (3, .int sta), (4, .int n)]) hx hb dX7_like_32 hl (by decide) rfl (fun ls hl => ?_)
      refine lv_iload hx hb dX7_like_34 (lv_at hl 0 rfl) ?_
      refine lv_if_eq (tgt := 42) hx hb dX7_like_36 (by decide) (fun c_36 => ?_) (fun c_36 => ?_)
      · exact absurd (rfQ_0 c_36).2 (by decide)
      · refine lv_iload hx hb dX7_like_39 (lv_at hl 0 rfl) ?_
        rw [hQ]
        exact m_iwr hx hb hr hlocks (n1, n2, pt, rc) (⟨rfQ_n c_36 (by first | (simp [c_6, c_13, c_21]; done) | (simp [c_6]; done) | (simp [c_13]; done) | (simp [c_21]; done)), hpt, hrc⟩) hP hS dX7_like_41
    · refine lv_iload hx hb dX7_like_16 (lv_at hl 4 rfl) ?_
      refine m_rdS (As := [.int n]) (rest := [.int ve, .ref x]) (wc := []) hcf (k_X7_isLength (l := l) (D := D) (cI := cI) (cZ := cZ) (a := n) ) (va_cwS 1 hts gX7_like_X7_isLength rfl rfl rfl yd_X7_isLength.2 ⟨Nat.le_of_ble_eq_true rfl, Nat.le_of_ble_eq_true rfl⟩) (m_preS hK hP hD [] (by decide) rfl) rfl hl.1 rfl (Nat.le_of_ble_eq_true rfl) dX7_like_18 ⟨Nat.zero_le _, Nat.zero_le _⟩ ?_
      refine m_ifB_eq (tgt := 28) hx hb dX7_like_21 (by decide) (fun c_21 => ?_) (fun c_21 => ?_)
      · refine lv_iconst (v := nI 0) hx hb dX7_like_28 (by decide) ?_
        refine m_rdV (As := [.int ve, .int (nI 0)]) (rest := []) (wc := [(x, .inr (7, [.ref oc, .ref oz, .ref oy, .int (nI k0), .int (nI k1), .ref pa, .int (nI ps), .ref o, .ref o5, .ref o4, .ref o6, .ref o1])), (oc, .inr (0, [.ref a1, .ref a2, .int (nI nl), .int (nI nv)])), (a1, aN cI 640 g), (a2, aN cI 80 z)]) hcf (k_X7_refusalIn (l := l) (D := D) (cI := cI) (cZ := cZ) (ve := ve) (b := false) (x := x) (oc := oc) (oz := oz) (oy := oy) (k0 := k0) (k1 := k1) (pa := pa) (ps := ps) (o := o) (o5 := o5) (o4 := o4) (o6 := o6) (o1 := o1) (a1 := a1) (a2 := a2) (nl := nl) (nv := nv) (g := g) (z := z) (hnl := hnl) (hnv := hnv)) (cwV 2 hts gX7_like_X7_refusalIn rfl rfl rfl yd_X7_refusalIn ⟨Nat.le_of_ble_eq_true rfl, Nat.le_of_ble_eq_true rfl⟩) (m_preV hK hP hD [0, 5, 6, 7] (by decide) rfl rfl rfl) rfl hl.1 rfl (Nat.le_of_ble_eq_true rfl) dX7_like_29 ⟨Nat.zero_le _, Nat.zero_le _⟩ ?_
        refine lv_istore (lv' := [(5, .int (rfQ nv ve false 0)), (0, .ref x), (1, .int ve), (2, .int way), (3, .int sta), (4, .int n)]) hx hb dX7_like_32 hl (by decide) rfl (fun ls hl => ?_)
        refine lv_iload hx hb dX7_like_34 (lv_at hl 0 rfl) ?_
        refine lv_if_eq (tgt := 42) hx hb dX7_like_36 (by decide) (fun c_36 => ?_) (fun c_36 => ?_)
        · exact absurd (rfQ_0 c_36).2 (by decide)
        · refine lv_iload hx hb dX7_like_39 (lv_at hl 0 rfl) ?_
          rw [hQ]
          exact m_iwr hx hb hr hlocks (n1, n2, pt, rc) (⟨rfQ_n c_36 (by first | (simp [c_6, c_13, c_21]; done) | (simp [c_6]; done) | (simp [c_13]; done) | (simp [c_21]; done)), hpt, hrc⟩) hP hS dX7_like_41
      · refine lv_iconst (v := nI 1) hx hb dX7_like_24 (by decide) ?_
        refine lv_goto (tgt := 29) hx hb dX7_like_25 (by decide) ?_
        refine m_rdV (As := [.int ve, .int (nI 1)]) (rest := []) (wc := [(x, .inr (7, [.ref oc, .ref oz, .ref oy, .int (nI k0), .int (nI k1), .ref pa, .int (nI ps), .ref o, .ref o5, .ref o4, .ref o6, .ref o1])), (oc, .inr (0, [.ref a1, .ref a2, .int (nI nl), .int (nI nv)])), (a1, aN cI 640 g), (a2, aN cI 80 z)]) hcf (k_X7_refusalIn (l := l) (D := D) (cI := cI) (cZ := cZ) (ve := ve) (b := true) (x := x) (oc := oc) (oz := oz) (oy := oy) (k0 := k0) (k1 := k1) (pa := pa) (ps := ps) (o := o) (o5 := o5) (o4 := o4) (o6 := o6) (o1 := o1) (a1 := a1) (a2 := a2) (nl := nl) (nv := nv) (g := g) (z := z) (hnl := hnl) (hnv := hnv)) (cwV 2 hts gX7_like_X7_refusalIn rfl rfl rfl yd_X7_refusalIn ⟨Nat.le_of_ble_eq_true rfl, Nat.le_of_ble_eq_true rfl⟩) (m_preV hK hP hD [0, 5, 6, 7] (by decide) rfl rfl rfl) rfl hl.1 rfl (Nat.le_of_ble_eq_true rfl) dX7_like_29 ⟨Nat.zero_le _, Nat.zero_le _⟩ ?_
        refine lv_istore (lv' := [(5, .int (rfQ nv ve true 0)), (0, .ref x), (1, .int ve), (2, .int way), (3, .int sta), (4, .int n)]) hx hb dX7_like_32 hl (by decide) rfl (fun ls hl => ?_)
        refine lv_iload hx hb dX7_like_34 (lv_at hl 0 rfl) ?_
        refine lv_if_eq (tgt := 42) hx hb dX7_like_36 (by decide) (fun c_36 => ?_) (fun c_36 => ?_)
        · have K_v := (rfQ_0 c_36).1
          have KI : (ixB way 3 && ixB sta 20 && lnB n) = true := by first | (simp [c_6, c_13, c_21]; done) | (simp [c_6]; done) | (simp [c_13]; done) | (simp [c_21]; done)
          obtain ⟨e_v, i_v⟩ := ixB_cN (by omega) K_v
          obtain ⟨e_w, i_w⟩ := ixB_cN (by decide) c_6
          obtain ⟨e_s, i_s⟩ := ixB_cN (by decide) c_13
          obtain ⟨e_n, i_n, j_n⟩ := lnB_cN c_21
          have hl : lv_has ls 6 [(5, .int (rfQ nv ve true 0)), (0, .ref x), (1, .int (nI (cN ve))), (2, .int (nI (cN way))), (3, .int (nI (cN sta))), (4, .int (nI (cN n)))] := by rw [← e_v, ← e_w, ← e_s, ← e_n]; exact hl
          refine lv_aload_n hx hb dX7_like_42 rfl (lv_at hl 1 rfl) ?_
          refine va_get (D := D) (ci := 7) (v := .ref o) (C := RX7) (T := TX7) (N := 12) hx hb hts i_X7 hown hK.1 hP 0 rfl rfl 7 (by decide) f_31 (fun _ h9 => h9) rfl dX7_like_43 ?_
          refine lv_iload_n hx hb dX7_like_46 rfl (lv_at hl 2 rfl) ?_
          refine lv_iload_n hx hb dX7_like_47 rfl (lv_at hl 3 rfl) ?_
          refine m_wvV (As := [.int (nI (cN ve)), .int (nI (cN way))]) (rest := []) (wc := [(o, .inr (2, [.ref oc, .ref q0, .ref ra, .int (nI ll), .int (nI lo), .int (nI lt)])), (q0, .inr (3, [.ref q1, .int (nI n1), .int (nI n2)])), (q1, aN cI 26 pt), (ra, aN cI 400 rc), (oc, .inr (0, [.ref a1, .ref a2, .int (nI nl), .int (nI nv)])), (a1, aN cI 640 g), (a2, aN cI 80 z)]) hcf (k_X2_compareAll (l := l) (D := D) (cI := cI) (cZ := cZ) (v := cN ve) (way := cN way) (o := o) (oc := oc) (q0 := q0) (ra := ra) (ll := ll) (lo := lo) (lt := lt) (q1 := q1) (n1 := n1) (n2 := n2) (pt := pt) (rc := rc) (a1 := a1) (a2 := a2) (nl := nl) (nv := nv) (g := g) (z := z) (hnl := hnl) (hnv := hnv) (hz := hz) (hg := hg) (hpt := hpt) (hrc := hrc) (hw := by omega) (hv := by omega)) (cwV 2 hts gX7_like_X2_compareAll rfl rfl rfl yd_X2_compareAll ⟨Nat.le_of_ble_eq_true rfl, Nat.le_of_ble_eq_true rfl⟩) hK hP hD hS [1, 2, 3, 4, 5, 6, 7] (by decide) rfl rfl rfl rfl hl.1 rfl (Nat.le_of_ble_eq_true rfl) dX7_like_48 ⟨Nat.zero_le _, Nat.zero_le _⟩ (fun _ => rfl) (fun (u : Nat × Nat × (Nat → Nat) × (Nat → Nat)) => [(x, .inr (7, [.ref oc, .ref oz, .ref oy, .int (nI k0), .int (nI k1), .ref pa, .int (nI ps), .ref o, .ref o5, .ref o4, .ref o6, .ref o1])), (o, .inr (2, [.ref oc, .ref q0, .ref ra, .int (nI ll), .int (nI lo), .int (nI lt)])), (q0, .inr (3, [.ref q1, .int (nI u.1), .int (nI u.2.1)])), (q1, aN cI 26 u.2.2.1), (ra, aN cI 400 u.2.2.2), (oc, .inr (0, [.ref a1, .ref a2, .int (nI nl), .int (nI nv)])), (a1, aN cI 640 g), (a2, aN cI 80 z)]) (fun _ => rfl) (fun u H locs hp_48 hP hD hS => ?_)
          obtain ⟨n1u_48, n2u_48, ptu_48, rcu_48⟩ := u
          have hP : va_P D vwCl [(x, .inr (7, [.ref oc, .ref oz, .ref oy, .int (nI k0), .int (nI k1), .ref pa, .int (nI ps), .ref o, .ref o5, .ref o4, .ref o6, .ref o1])), (o, .inr (2, [.ref oc, .ref q0, .ref ra, .int (nI ll), .int (nI lo), .int (nI lt)])), (q0, .inr (3, [.ref q1, .int (nI n1u_48), .int (nI n2u_48)])), (q1, aN cI 26 ptu_48), (ra, aN cI 400 rcu_48), (oc, .inr (0, [.ref a1, .ref a2, .int (nI nl), .int (nI nv)])), (a1, aN cI 640 g), (a2, aN cI 80 z)] H := hP
          have hD : va_D A [(x, .inr (7, [.ref oc, .ref oz, .ref oy, .int (nI k0), .int (nI k1), .ref pa, .int (nI ps), .ref o, .ref o5, .ref o4, .ref o6, .ref o1])), (o, .inr (2, [.ref oc, .ref q0, .ref ra, .int (nI ll), .int (nI lo), .int (nI lt)])), (q0, .inr (3, [.ref q1, .int (nI n1u_48), .int (nI n2u_48)])), (q1, aN cI 26 ptu_48), (ra, aN cI 400 rcu_48), (oc, .inr (0, [.ref a1, .ref a2, .int (nI nl), .int (nI nv)])), (a1, aN cI 640 g), (a2, aN cI 80 z)] := hD
          try dsimp only at hp_48
          refine lv_aload_n hx hb dX7_like_51 rfl (lv_at hl 1 rfl) ?_
          refine va_get (D := D) (ci := 7) (v := .ref o) (C := RX7) (T := TX7) (N := 12) hx hb hts i_X7 hown hK.1 hP 0 rfl rfl 7 (by decide) f_31 (fun _ h9 => h9) rfl dX7_like_52 ?_
          refine lv_iload_n hx hb dX7_like_55 rfl (lv_at hl 4 rfl) ?_
          refine lv_iload hx hb dX7_like_56 (lv_at hl 5 rfl) ?_
          refine m_rdV (As := [.int (nI (cN sta)), .int (nI (cN n))]) (rest := []) (wc := [(o, .inr (2, [.ref oc, .ref q0, .ref ra, .int (nI ll), .int (nI lo), .int (nI lt)])), (q0, .inr (3, [.ref q1, .int (nI n1u_48), .int (nI n2u_48)])), (q1, aN cI 26 ptu_48), (ra, aN cI 400 rcu_48), (oc, .inr (0, [.ref a1, .ref a2, .int (nI nl), .int (nI nv)])), (a1, aN cI 640 g), (a2, aN cI 80 z)]) hcf (k_X2_startsLike (l := l) (D := D) (cI := cI) (cZ := cZ) (start := cN sta) (n := cN n) (o := o) (oc := oc) (q0 := q0) (ra := ra) (ll := ll) (lo := lo) (lt := lt) (q1 := q1) (n1 := n1u_48) (n2 := n2u_48) (pt := ptu_48) (rc := rcu_48) (a1 := a1) (a2 := a2) (nl := nl) (nv := nv) (g := g) (z := z) (hnl := hnl) (hnv := hnv) (hrc := hp_48.2.1) (h1 := by omega) (hn := by omega)) (cwV 2 hts gX7_like_X2_startsLike rfl rfl rfl yd_X2_startsLike ⟨Nat.le_of_ble_eq_true rfl, Nat.le_of_ble_eq_true rfl⟩) (m_preV hK hP hD [1, 2, 3, 4, 5, 6, 7] (by decide) rfl rfl rfl) rfl hl.1 rfl (Nat.le_of_ble_eq_true rfl) dX7_like_58 ⟨Nat.zero_le _, Nat.zero_le _⟩ ?_
          rw [hQ]
          exact m_iwr hx hb hr hlocks (n1u_48, n2u_48, ptu_48, rcu_48) (⟨by rw [rfQ_v K_v KI, slN_C hnl hp_48.1], hp_48.2.2, hp_48.2.1⟩) hP hS dX7_like_61
        · refine lv_iload hx hb dX7_like_39 (lv_at hl 0 rfl) ?_
          rw [hQ]
          exact m_iwr hx hb hr hlocks (n1, n2, pt, rc) (⟨rfQ_n c_36 (by first | (simp [c_6, c_13, c_21]; done) | (simp [c_6]; done) | (simp [c_13]; done) | (simp [c_21]; done)), hpt, hrc⟩) hP hS dX7_like_41

theorem yd_X7_groups : yX7_groups.cls = RX7 ∧ yX7_groups.cls ≠ "java/lang/invoke/MethodHandle" ∧ yX7_groups.cls ≠ "java/lang/invoke/VarHandle" ∧ (parseMethodDescriptor yX7_groups.desc).map (fun d => d.parameters.length) = some 4 := by decide +kernel
set_option maxHeartbeats 4000000 in
set_option maxRecDepth 100000 in
theorem k_X7_groups (l : Launch) (D : va_G) (cI cZ : ClassId) (x oz oy k0 k1 pa ps o5 o4 o6 o1 : Nat) (o q0 q1 ra oc a1 a2 ll lo lt n1 n2 nl nv : Nat) (pt rc z g : Nat → Nat) (ve way n gi : Int32) (hnl : nl ≤ 20) (hnv : nv ≤ 4) (hz : ∀ j, z j ≤ 8) (hg : ∀ j, g j ≤ 126) (hpt : ∀ j, pt j ≤ 126) (hrc : ∀ j, rc j ≤ 20) : Met l yX7_groups wsX7_groups ({ frames := 6, cells := 0, slots := 0, locals := 148 }) (mPc [.ref x, .int ve, .int way, .int n, .int gi] D cI cZ [(x, .inr (7, [.ref oc, .ref oz, .ref oy, .int (nI k0), .int (nI k1), .ref pa, .int (nI ps), .ref o, .ref o5, .ref o4, .ref o6, .ref o1])), (o, .inr (2, [.ref oc, .ref q0, .ref ra, .int (nI ll), .int (nI lo), .int (nI lt)])), (q0, .inr (3, [.ref q1, .int (nI n1), .int (nI n2)])), (q1, aN cI 26 pt), (ra, aN cI 400 rc), (oc, .inr (0, [.ref a1, .ref a2, .int (nI nl), .int (nI nv)])), (a1, aN cI 640 g), (a2, aN cI 80 z)]) (mQi D (mA [(x, .inr (7, [.ref oc, .ref oz, .ref oy, .int (nI k0), .int (nI k1), .ref pa, .int (nI ps), .ref o, .ref o5, .ref o4, .ref o6, .ref o1])), (o, .inr (2, [.ref oc, .ref q0, .ref ra, .int (nI ll), .int (nI lo), .int (nI lt)])), (q0, .inr (3, [.ref q1, .int (nI n1), .int (nI n2)])), (q1, aN cI 26 pt), (ra, aN cI 400 rc), (oc, .inr (0, [.ref a1, .ref a2, .int (nI nl), .int (nI nv)])), (a1, aN cI 640 g), (a2, aN cI 80 z)]) (fun (r : Int32) (u : Nat × Nat × (Nat → Nat) × (Nat → Nat)) => r = rfQ nv ve (ixB way 3 && lnB n) (grF (fun w => lgB (rcC (cN way) z g (cN ve) nl) nl w (cN n)) gi nl 0 0) ∧ (∀ j, u.2.2.1 j ≤ 126) ∧ (∀ j, u.2.2.2 j ≤ 20)) (fun (u : Nat × Nat × (Nat → Nat) × (Nat → Nat)) => [(x, .inr (7, [.ref oc, .ref oz, .ref oy, .int (nI k0), .int (nI k1), .ref pa, .int (nI ps), .ref o, .ref o5, .ref o4, .ref o6, .ref o1])), (o, .inr (2, [.ref oc, .ref q0, .ref ra, .int (nI ll), .int (nI lo), .int (nI lt)])), (q0, .inr (3, [.ref q1, .int (nI u.1), .int (nI u.2.1)])), (q1, aN cI 26 u.2.2.1), (ra, aN cI 400 u.2.2.2), (oc, .inr (0, [.ref a1, .ref a2, .int (nI nl), .int (nI nv)])), (a1, aN cI 640 g), (a2, aN cI 80 z)])) 0 0 (mA [(x, .inr (7, [.ref oc, .ref oz, .ref oy, .int (nI k0), .int (nI k1), .ref pa, .int (nI ps), .ref o, .ref o5, .ref o4, .ref o6, .ref o1])), (o, .inr (2, [.ref oc, .ref q0, .ref ra, .int (nI ll), .int (nI lo), .int (nI lt)])), (q0, .inr (3, [.ref q1, .int (nI n1), .int (nI n2)])), (q1, aN cI 26 pt), (ra, aN cI 400 rc), (oc, .inr (0, [.ref a1, .ref a2, .int (nI nl), .int (nI nv)])), (a1, aN cI 640 g), (a2, aN cI 80 z)]) := by
  refine Met.ofW (cc := cX7_groups) (maxL := 8) (ret := (some .int)) (by decide) rfl ?_
  intro p e s m args below meth c s₁ BB hml hv
  obtain ⟨hargs, hP, hD0, hK⟩ := hv
  have hx := BB.exec
  have hb := BB.bytes
  have hr := BB.returns
  have hts := atoms_spec (ws := wsX7_groups) BB.pre
  have hown : s.vm.findClass RX7 = some m.cls := findClass_of_methodNamed BB.named
  have hlocks := BB.notSynchronized
  have hcf : CallFix p m c cX7_groups 8 s args wsX7_groups RX7 := ⟨hx, hb, hml, hown, hts⟩
  obtain ⟨A, hAe⟩ : ∃ A, A = mA [(x, .inr (7, [.ref oc, .ref oz, .ref oy, .int (nI k0), .int (nI k1), .ref pa, .int (nI ps), .ref o, .ref o5, .ref o4, .ref o6, .ref o1])), (o, .inr (2, [.ref oc, .ref q0, .ref ra, .int (nI ll), .int (nI lo), .int (nI lt)])), (q0, .inr (3, [.ref q1, .int (nI n1), .int (nI n2)])), (q1, aN cI 26 pt), (ra, aN cI 400 rc), (oc, .inr (0, [.ref a1, .ref a2, .int (nI nl), .int (nI nv)])), (a1, aN cI 640 g), (a2, aN cI 80 z)] := ⟨_, rfl⟩
  have hD : va_D A [(x, .inr (7, [.ref oc, .ref oz, .ref oy, .int (nI k0), .int (nI k1), .ref pa, .int (nI ps), .ref o, .ref o5, .ref o4, .ref o6, .ref o1])), (o, .inr (2, [.ref oc, .ref q0, .ref ra, .int (nI ll), .int (nI lo), .int (nI lt)])), (q0, .inr (3, [.ref q1, .int (nI n1), .int (nI n2)])), (q1, aN cI 26 pt), (ra, aN cI 400 rc), (oc, .inr (0, [.ref a1, .ref a2, .int (nI nl), .int (nI nv)])), (a1, aN cI 640 g), (a2, aN cI 80 z)] := ⟨hD0.1, fun k q h => by rw [hAe]; exact ⟨k, q.2, h⟩⟩
  have hS : va_S A s.heap s.heap [] := va_S.rf
  rw [← hAe]
  rw [hargs, lg_entry_eq, ← hargs]
  have hl := lv_entry ([.ref x, .int ve, .int way, .int n, .int gi]) (n := 8) (Nat.le_of_ble_eq_true rfl)
  generalize (lg_sl ([.ref x, .int ve, .int way, .int n, .int gi]) ++ List.replicate (8 - (lg_sl ([.ref x, .int ve, .int way, .int n, .int gi])).length) Slot.unset).toArray = ls at hl ⊢
  have hl : lv_has ls 8 [(0, .ref x), (1, .int ve), (2, .int way), (3, .int n), (4, .int gi)] := hl
  obtain ⟨Q, hQ⟩ : ∃ Q, Q = MQ below (mQi D A (fun (r : Int32) (u : Nat × Nat × (Nat → Nat) × (Nat → Nat)) => r = rfQ nv ve (ixB way 3 && lnB n) (grF (fun w => lgB (rcC (cN way) z g (cN ve) nl) nl w (cN n)) gi nl 0 0) ∧ (∀ j, u.2.2.1 j ≤ 126) ∧ (∀ j, u.2.2.2 j ≤ 20)) (fun (u : Nat × Nat × (Nat → Nat) × (Nat → Nat)) => [(x, .inr (7, [.ref oc, .ref oz, .ref oy, .int (nI k0), .int (nI k1), .ref pa, .int (nI ps), .ref o, .ref o5, .ref o4, .ref o6, .ref o1])), (o, .inr (2, [.ref oc, .ref q0, .ref ra, .int (nI ll), .int (nI lo), .int (nI lt)])), (q0, .inr (3, [.ref q1, .int (nI u.1), .int (nI u.2.1)])), (q1, aN cI 26 u.2.2.1), (ra, aN cI 400 u.2.2.2), (oc, .inr (0, [.ref a1, .ref a2, .int (nI nl), .int (nI nv)])), (a1, aN cI 640 g), (a2, aN cI 80 z)])) args s 0 0 A := ⟨_, rfl⟩
  rw [← hQ]
  have i_X7 : ∀ w ∈ u_ws RX7 TX7 12, w ∈ wsX7_groups := by decide +kernel
  have f_31 := hts (.fieldLink RX7 31 "SameAgain" "likeness" "LSameAgain$Likeness;") (by decide +kernel)
  have f_10 := hts (.fieldLink RX7 10 "SameAgain" "code" "LSameAgain$Code;") (by decide +kernel)
  refine lv_aload_n hx hb dX7_groups_0 rfl (lv_at hl 0 rfl) ?_
  refine lv_iload_n hx hb dX7_groups_1 rfl (lv_at hl 1 rfl) ?_
  refine lv_iload_n hx hb dX7_groups_2 rfl (lv_at hl 2 rfl) ?_
  refine m_rdS (As := [.int way]) (rest := [.int ve, .ref x]) (wc := []) hcf (k_X7_isWay (l := l) (D := D) (cI := cI) (cZ := cZ) (a := way) ) (va_cwS 1 hts gX7_groups_X7_isWay rfl rfl rfl yd_X7_isWay.2 ⟨Nat.le_of_ble_eq_true rfl, Nat.le_of_ble_eq_true rfl⟩) (m_preS hK hP hD [] (by decide) rfl) rfl hl.1 rfl (Nat.le_of_ble_eq_true rfl) dX7_groups_3 ⟨Nat.zero_le _, Nat.zero_le _⟩ ?_
  refine m_ifB_eq (tgt := 20) hx hb dX7_groups_6 (by decide) (fun c_6 => ?_) (fun c_6 => ?_)
  · refine lv_iconst (v := nI 0) hx hb dX7_groups_20 (by decide) ?_
    refine m_rdV (As := [.int ve, .int (nI 0)]) (rest := []) (wc := [(x, .inr (7, [.ref oc, .ref oz, .ref oy, .int (nI k0), .int (nI k1), .ref pa, .int (nI ps), .ref o, .ref o5, .ref o4, .ref o6, .ref o1])), (oc, .inr (0, [.ref a1, .ref a2, .int (nI nl), .int (nI nv)])), (a1, aN cI 640 g), (a2, aN cI 80 z)]) hcf (k_X7_refusalIn (l := l) (D := D) (cI := cI) (cZ := cZ) (ve := ve) (b := false) (x := x) (oc := oc) (oz := oz) (oy := oy) (k0 := k0) (k1 := k1) (pa := pa) (ps := ps) (o := o) (o5 := o5) (o4 := o4) (o6 := o6) (o1 := o1) (a1 := a1) (a2 := a2) (nl := nl) (nv := nv) (g := g) (z := z) (hnl := hnl) (hnv := hnv)) (cwV 2 hts gX7_groups_X7_refusalIn rfl rfl rfl yd_X7_refusalIn ⟨Nat.le_of_ble_eq_true rfl, Nat.le_of_ble_eq_true rfl⟩) (m_preV hK hP hD [0, 5, 6, 7] (by decide) rfl rfl rfl) rfl hl.1 rfl (Nat.le_of_ble_eq_true rfl) dX7_groups_21 ⟨Nat.zero_le _, Nat.zero_le _⟩ ?_
    refine lv_istore (lv' := [(5, .int (rfQ nv ve false 0)), (0, .ref x), (1, .int ve), (2, .int way), (3, .int n), (4, .int gi)]) hx hb dX7_groups_24 hl (by decide) rfl (fun ls hl => ?_)
    refine lv_iload hx hb dX7_groups_26 (lv_at hl 0 rfl) ?_
    refine lv_if_eq (tgt := 34) hx hb dX7_groups_28 (by decide) (fun c_28 => ?_) (fun c_28 => ?_)
    · exact absurd (rfQ_0 c_28).2 (by decide)
    · refine lv_iload hx hb dX7_groups_31 (lv_at hl 0 rfl) ?_
      rw [hQ]
      exact m_iwr hx hb hr hlocks (n1, n2, pt, rc) (⟨rfQ_n c_28 (by first | (simp [c_6, c_13]; done) | (simp [c_6]; done) | (simp [c_13]; done)), hpt, hrc⟩) hP hS dX7_groups_33
  · refine lv_iload_n hx hb dX7_groups_9 rfl (lv_at hl 3 rfl) ?_
    refine m_rdS (As := [.int n]) (rest := [.int ve, .ref x]) (wc := []) hcf (k_X7_isLength (l := l) (D := D) (cI := cI) (cZ := cZ) (a := n) ) (va_cwS 1 hts gX7_groups_X7_isLength rfl rfl rfl yd_X7_isLength.2 ⟨Nat.le_of_ble_eq_true rfl, Nat.le_of_ble_eq_true rfl⟩) (m_preS hK hP hD [] (by decide) rfl) rfl hl.1 rfl (Nat.le_of_ble_eq_true rfl) dX7_groups_10 ⟨Nat.zero_le _, Nat.zero_le _⟩ ?_
    refine m_ifB_eq (tgt := 20) hx hb dX7_groups_13 (by decide) (fun c_13 => ?_) (fun c_13 => ?_)
    · refine lv_iconst (v := nI 0) hx hb dX7_groups_20 (by decide) ?_
      refine m_rdV (As := [.int ve, .int (nI 0)]) (rest := []) (wc := [(x, .inr (7, [.ref oc, .ref oz, .ref oy, .int (nI k0), .int (nI k1), .ref pa, .int (nI ps), .ref o, .ref o5, .ref o4, .ref o6, .ref o1])), (oc, .inr (0, [.ref a1, .ref a2, .int (nI nl), .int (nI nv)])), (a1, aN cI 640 g), (a2, aN cI 80 z)]) hcf (k_X7_refusalIn (l := l) (D := D) (cI := cI) (cZ := cZ) (ve := ve) (b := false) (x := x) (oc := oc) (oz := oz) (oy := oy) (k0 := k0) (k1 := k1) (pa := pa) (ps := ps) (o := o) (o5 := o5) (o4 := o4) (o6 := o6) (o1 := o1) (a1 := a1) (a2 := a2) (nl := nl) (nv := nv) (g := g) (z := z) (hnl := hnl) (hnv := hnv)) (cwV 2 hts gX7_groups_X7_refusalIn rfl rfl rfl yd_X7_refusalIn ⟨Nat.le_of_ble_eq_true rfl, Nat.le_of_ble_eq_true rfl⟩) (m_preV hK hP hD [0, 5, 6, 7] (by decide) rfl rfl rfl) rfl hl.1 rfl (Nat.le_of_ble_eq_true rfl) dX7_groups_21 ⟨Nat.zero_le _, Nat.zero_le _⟩ ?_
      refine lv_istore (lv' := [(5, .int (rfQ nv ve false 0)), (0, .ref x), (1, .int ve), (2, .int way), (3, .int n), (4, .int gi)]) hx hb dX7_groups_24 hl (by decide) rfl (fun ls hl => ?_)
      refine lv_iload hx hb dX7_groups_26 (lv_at hl 0 rfl) ?_
      refine lv_if_eq (tgt := 34) hx hb dX7_groups_28 (by decide) (fun c_28 => ?_) (fun c_28 => ?_)
      · exact absurd (rfQ_0 c_28).2 (by decide)
      · refine lv_iload hx hb dX7_groups_31 (lv_at hl 0 rfl) ?_
        rw [hQ]
        exact m_iwr hx hb hr hlocks (n1, n2, pt, rc) (⟨rfQ_n c_28 (by first | (simp [c_6, c_13]; done) | (simp [c_6]; done) | (simp [c_13]; done)), hpt, hrc⟩) hP hS dX7_groups_33
    · refine lv_iconst (v := nI 1) hx hb dX7_groups_16 (by decide) ?_
      refine lv_goto (tgt := 21) hx hb dX7_groups_17 (by decide) ?_
      refine m_rdV (As := [.int ve, .int (nI 1)]) (rest := []) (wc := [(x, .inr (7, [.ref oc, .ref oz, .ref oy, .int (nI k0), .int (nI k1), .ref pa, .int (nI ps), .ref o, .ref o5, .ref o4, .ref o6, .ref o1])), (oc, .inr (0, [.ref a1, .ref a2, .int (nI nl), .int (nI nv)])), (a1, aN cI 640 g), (a2, aN cI 80 z)]) hcf (k_X7_refusalIn (l := l) (D := D) (cI := cI) (cZ := cZ) (ve := ve) (b := true) (x := x) (oc := oc) (oz := oz) (oy := oy) (k0 := k0) (k1 := k1) (pa := pa) (ps := ps) (o := o) (o5 := o5) (o4 := o4) (o6 := o6) (o1 := o1) (a1 := a1) (a2 := a2) (nl := nl) (nv := nv) (g := g) (z := z) (hnl := hnl) (hnv := hnv)) (cwV 2 hts gX7_groups_X7_refusalIn rfl rfl rfl yd_X7_refusalIn ⟨Nat.le_of_ble_eq_true rfl, Nat.le_of_ble_eq_true rfl⟩) (m_preV hK hP hD [0, 5, 6, 7] (by decide) rfl rfl rfl) rfl hl.1 rfl (Nat.le_of_ble_eq_true rfl) dX7_groups_21 ⟨Nat.zero_le _, Nat.zero_le _⟩ ?_
      refine lv_istore (lv' := [(5, .int (rfQ nv ve true 0)), (0, .ref x), (1, .int ve), (2, .int way), (3, .int n), (4, .int gi)]) hx hb dX7_groups_24 hl (by decide) rfl (fun ls hl => ?_)
      refine lv_iload hx hb dX7_groups_26 (lv_at hl 0 rfl) ?_
      refine lv_if_eq (tgt := 34) hx hb dX7_groups_28 (by decide) (fun c_28 => ?_) (fun c_28 => ?_)
      · have K_v := (rfQ_0 c_28).1
        have KI : (ixB way 3 && lnB n) = true := by first | (simp [c_6, c_13]; done) | (simp [c_6]; done) | (simp [c_13]; done)
        obtain ⟨e_v, i_v⟩ := ixB_cN (by omega) K_v
        obtain ⟨e_w, i_w⟩ := ixB_cN (by decide) c_6
        obtain ⟨e_n, i_n, j_n⟩ := lnB_cN c_13
        have hl : lv_has ls 8 [(5, .int (rfQ nv ve true 0)), (0, .ref x), (1, .int (nI (cN ve))), (2, .int (nI (cN way))), (3, .int (nI (cN n))), (4, .int gi)] := by rw [← e_v, ← e_w, ← e_n]; exact hl
        refine lv_aload_n hx hb dX7_groups_34 rfl (lv_at hl 1 rfl) ?_
        refine va_get (D := D) (ci := 7) (v := .ref o) (C := RX7) (T := TX7) (N := 12) hx hb hts i_X7 hown hK.1 hP 0 rfl rfl 7 (by decide) f_31 (fun _ h9 => h9) rfl dX7_groups_35 ?_
        refine lv_iload_n hx hb dX7_groups_38 rfl (lv_at hl 2 rfl) ?_
        refine lv_iload_n hx hb dX7_groups_39 rfl (lv_at hl 3 rfl) ?_
        refine m_wvV (As := [.int (nI (cN ve)), .int (nI (cN way))]) (rest := []) (wc := [(o, .inr (2, [.ref oc, .ref q0, .ref ra, .int (nI ll), .int (nI lo), .int (nI lt)])), (q0, .inr (3, [.ref q1, .int (nI n1), .int (nI n2)])), (q1, aN cI 26 pt), (ra, aN cI 400 rc), (oc, .inr (0, [.ref a1, .ref a2, .int (nI nl), .int (nI nv)])), (a1, aN cI 640 g), (a2, aN cI 80 z)]) hcf (k_X2_compareAll (l := l) (D := D) (cI := cI) (cZ := cZ) (v := cN ve) (way := cN way) (o := o) (oc := oc) (q0 := q0) (ra := ra) (ll := ll) (lo := lo) (lt := lt) (q1 := q1) (n1 := n1) (n2 := n2) (pt := pt) (rc := rc) (a1 := a1) (a2 := a2) (nl := nl) (nv := nv) (g := g) (z := z) (hnl := hnl) (hnv := hnv) (hz := hz) (hg := hg) (hpt := hpt) (hrc := hrc) (hw := by omega) (hv := by omega)) (cwV 2 hts gX7_groups_X2_compareAll rfl rfl rfl yd_X2_compareAll ⟨Nat.le_of_ble_eq_true rfl, Nat.le_of_ble_eq_true rfl⟩) hK hP hD hS [1, 2, 3, 4, 5, 6, 7] (by decide) rfl rfl rfl rfl hl.1 rfl (Nat.le_of_ble_eq_true rfl) dX7_groups_40 ⟨Nat.zero_le _, Nat.zero_le _⟩ (fun _ => rfl) (fun (u : Nat × Nat × (Nat → Nat) × (Nat → Nat)) => [(x, .inr (7, [.ref oc, .ref oz, .ref oy, .int (nI k0), .int (nI k1), .ref pa, .int (nI ps), .ref o, .ref o5, .ref o4, .ref o6, .ref o1])), (o, .inr (2, [.ref oc, .ref q0, .ref ra, .int (nI ll), .int (nI lo), .int (nI lt)])), (q0, .inr (3, [.ref q1, .int (nI u.1), .int (nI u.2.1)])), (q1, aN cI 26 u.2.2.1), (ra, aN cI 400 u.2.2.2), (oc, .inr (0, [.ref a1, .ref a2, .int (nI nl), .int (nI nv)])), (a1, aN cI 640 g), (a2, aN cI 80 z)]) (fun _ => rfl) (fun u H locs hp_40 hP hD hS => ?_)
        obtain ⟨n1u_40, n2u_40, ptu_40, rcu_40⟩ := u
        have hP : va_P D vwCl [(x, .inr (7, [.ref oc, .ref oz, .ref oy, .int (nI k0), .int (nI k1), .ref pa, .int (nI ps), .ref o, .ref o5, .ref o4, .ref o6, .ref o1])), (o, .inr (2, [.ref oc, .ref q0, .ref ra, .int (nI ll), .int (nI lo), .int (nI lt)])), (q0, .inr (3, [.ref q1, .int (nI n1u_40), .int (nI n2u_40)])), (q1, aN cI 26 ptu_40), (ra, aN cI 400 rcu_40), (oc, .inr (0, [.ref a1, .ref a2, .int (nI nl), .int (nI nv)])), (a1, aN cI 640 g), (a2, aN cI 80 z)] H := hP
        have hD : va_D A [(x, .inr (7, [.ref oc, .ref oz, .ref oy, .int (nI k0), .int (nI k1), .ref pa, .int (nI ps), .ref o, .ref o5, .ref o4, .ref o6, .ref o1])), (o, .inr (2, [.ref oc, .ref q0, .ref ra, .int (nI ll), .int (nI lo), .int (nI lt)])), (q0, .inr (3, [.ref q1, .int (nI n1u_40), .int (nI n2u_40)])), (q1, aN cI 26 ptu_40), (ra, aN cI 400 rcu_40), (oc, .inr (0, [.ref a1, .ref a2, .int (nI nl), .int (nI nv)])), (a1, aN cI 640 g), (a2, aN cI 80 z)] := hD
        try dsimp only at hp_40
        refine lv_iconst (v := nI 0) hx hb dX7_groups_43 (by decide) ?_
        refine lv_istore (lv' := [(6, .int (nI 0)), (5, .int (rfQ nv ve true 0)), (0, .ref x), (1, .int (nI (cN ve))), (2, .int (nI (cN way))), (3, .int (nI (cN n))), (4, .int gi)]) hx hb dX7_groups_44 hl (by decide) rfl (fun ls hl => ?_)
        refine lv_iconst (v := nI 0) hx hb dX7_groups_46 (by decide) ?_
        refine lv_istore (lv' := [(7, .int (nI 0)), (6, .int (nI 0)), (5, .int (rfQ nv ve true 0)), (0, .ref x), (1, .int (nI (cN ve))), (2, .int (nI (cN way))), (3, .int (nI (cN n))), (4, .int gi)]) hx hb dX7_groups_47 hl (by decide) rfl (fun ls hl => ?_)
        have loop_49 : ∀ (fu : Nat) (w cc : Nat) (hfu : nl - w < fu)  (hw : w ≤ nl) (hcc : cc ≤ w) (hR : grF (fun w => lgB (rcC (cN way) z g (cN ve) nl) nl w (cN n)) gi nl 0 0 = grF (fun w => lgB (rcC (cN way) z g (cN ve) nl) nl w (cN n)) gi (nl - w) w cc) (H : Heap) (locs : List Loc) (hP : va_P D vwCl [(x, .inr (7, [.ref oc, .ref oz, .ref oy, .int (nI k0), .int (nI k1), .ref pa, .int (nI ps), .ref o, .ref o5, .ref o4, .ref o6, .ref o1])), (o, .inr (2, [.ref oc, .ref q0, .ref ra, .int (nI ll), .int (nI lo), .int (nI lt)])), (q0, .inr (3, [.ref q1, .int (nI n1u_40), .int (nI n2u_40)])), (q1, aN cI 26 ptu_40), (ra, aN cI 400 rcu_40), (oc, .inr (0, [.ref a1, .ref a2, .int (nI nl), .int (nI nv)])), (a1, aN cI 640 g), (a2, aN cI 80 z)] H) (hD : va_D A [(x, .inr (7, [.ref oc, .ref oz, .ref oy, .int (nI k0), .int (nI k1), .ref pa, .int (nI ps), .ref o, .ref o5, .ref o4, .ref o6, .ref o1])), (o, .inr (2, [.ref oc, .ref q0, .ref ra, .int (nI ll), .int (nI lo), .int (nI lt)])), (q0, .inr (3, [.ref q1, .int (nI n1u_40), .int (nI n2u_40)])), (q1, aN cI 26 ptu_40), (ra, aN cI 400 rcu_40), (oc, .inr (0, [.ref a1, .ref a2, .int (nI nl), .int (nI nv)])), (a1, aN cI 640 g), (a2, aN cI 80 z)]) (hS : va_S A s.heap H locs) (ls : Array Slot) (hl : lv_has ls 8 [(0, .ref x), (1, .int (nI (cN ve))), (2, .int (nI (cN way))), (3, .int (nI (cN n))), (4, .int gi), (6, .int (nI cc)), (7, .int (nI w))]), W p l e (headSpec wsX7_groups { frames := 6, cells := 0, slots := 0, locals := 148 }).room s m args below meth c H locs 0 0 Q (F0 m 49 ls []) := by
          intro fu
          induction fu with
          | zero => intro w cc hfu; exact absurd hfu (Nat.not_lt_zero _)
          | succ fu ih_49 =>
            intro w cc hfu hw hcc hR H locs hP hD hS ls hl
            refine lv_iload hx hb dX7_groups_49 (lv_at hl 6 rfl) ?_
            refine lv_aload_n hx hb dX7_groups_51 rfl (lv_at hl 0 rfl) ?_
            refine va_get (D := D) (ci := 7) (v := .ref oc) (C := RX7) (T := TX7) (N := 12) hx hb hts i_X7 hown hK.1 hP 0 rfl rfl 0 (by decide) f_10 (fun _ h9 => h9) rfl dX7_groups_52 ?_
            refine m_rdV (As := []) (rest := [.int (nI w)]) (wc := [(oc, .inr (0, [.ref a1, .ref a2, .int (nI nl), .int (nI nv)])), (a1, aN cI 640 g), (a2, aN cI 80 z)]) hcf (k_X0_lines (l := l) (D := D) (cI := cI) (cZ := cZ) (o := oc) (a1 := a1) (a2 := a2) (nl := nl) (nv := nv) (g := g) (z := z) ) (cwV 0 hts gX7_groups_X0_lines rfl rfl rfl yd_X0_lines ⟨Nat.le_of_ble_eq_true rfl, Nat.le_of_ble_eq_true rfl⟩) (m_preV hK hP hD [5, 6, 7] (by decide) rfl rfl rfl) rfl hl.1 rfl (Nat.le_of_ble_eq_true rfl) dX7_groups_55 ⟨Nat.zero_le _, Nat.zero_le _⟩ ?_
            refine m_cmp_ge (tgt := 93) hx hb dX7_groups_58 (by decide) (by omega) (by omega) (fun c_58 => ?_) (fun c_58 => ?_)
            · refine lv_iload hx hb dX7_groups_93 (lv_at hl 4 rfl) ?_
              refine lv_iconst (v := (-1)) hx hb dX7_groups_95 (by decide) ?_
              refine lv_icmp_ne (tgt := 104) hx hb dX7_groups_96 (by decide) (fun c_96 => ?_) (fun c_96 => ?_)
              · refine lv_bipush (v := (-6)) hx hb dX7_groups_104 (by decide) ?_
                rw [hQ]
                have E9 : nl - w = 0 := by omega
                rw [E9] at hR
                exact m_iwr hx hb hr hlocks (n1u_40, n2u_40, ptu_40, rcu_40) (⟨by rw [rfQ_v K_v KI, hR]; exact (if_neg c_96).symm, hp_40.2.2, hp_40.2.1⟩) hP hS dX7_groups_106
              · refine lv_iload hx hb dX7_groups_99 (lv_at hl 5 rfl) ?_
                refine lv_goto (tgt := 106) hx hb dX7_groups_101 (by decide) ?_
                rw [hQ]
                have E9 : nl - w = 0 := by omega
                rw [E9] at hR
                exact m_iwr hx hb hr hlocks (n1u_40, n2u_40, ptu_40, rcu_40) (⟨by rw [rfQ_v K_v KI, hR]; exact (if_pos c_96).symm, hp_40.2.2, hp_40.2.1⟩) hP hS dX7_groups_106
            · refine lv_aload_n hx hb dX7_groups_61 rfl (lv_at hl 0 rfl) ?_
              refine va_get (D := D) (ci := 7) (v := .ref o) (C := RX7) (T := TX7) (N := 12) hx hb hts i_X7 hown hK.1 hP 0 rfl rfl 7 (by decide) f_31 (fun _ h9 => h9) rfl dX7_groups_62 ?_
              refine lv_iload hx hb dX7_groups_65 (lv_at hl 6 rfl) ?_
              refine lv_iload_n hx hb dX7_groups_67 rfl (lv_at hl 3 rfl) ?_
              refine m_rdV (As := [.int (nI w), .int (nI (cN n))]) (rest := []) (wc := [(o, .inr (2, [.ref oc, .ref q0, .ref ra, .int (nI ll), .int (nI lo), .int (nI lt)])), (q0, .inr (3, [.ref q1, .int (nI n1u_40), .int (nI n2u_40)])), (q1, aN cI 26 ptu_40), (ra, aN cI 400 rcu_40), (oc, .inr (0, [.ref a1, .ref a2, .int (nI nl), .int (nI nv)])), (a1, aN cI 640 g), (a2, aN cI 80 z)]) hcf (k_X2_isLeastOfGroup (l := l) (D := D) (cI := cI) (cZ := cZ) (start := w) (n := cN n) (o := o) (oc := oc) (q0 := q0) (ra := ra) (ll := ll) (lo := lo) (lt := lt) (q1 := q1) (n1 := n1u_40) (n2 := n2u_40) (pt := ptu_40) (rc := rcu_40) (a1 := a1) (a2 := a2) (nl := nl) (nv := nv) (g := g) (z := z) (hnl := hnl) (hnv := hnv) (hrc := hp_40.2.1) (h1 := by omega) (hn := by omega)) (cwV 2 hts gX7_groups_X2_isLeastOfGroup rfl rfl rfl yd_X2_isLeastOfGroup ⟨Nat.le_of_ble_eq_true rfl, Nat.le_of_ble_eq_true rfl⟩) (m_preV hK hP hD [1, 2, 3, 4, 5, 6, 7] (by decide) rfl rfl rfl) rfl hl.1 rfl (Nat.le_of_ble_eq_true rfl) dX7_groups_68 ⟨Nat.zero_le _, Nat.zero_le _⟩ ?_
              refine m_top (y := bI (lgB (rcC (cN way) z g (cN ve) nl) nl w (cN n))) (congrArg bI (lgB_C hnl hp_40.1 _ _)) ?_
              refine m_ifB_eq (tgt := 87) hx hb dX7_groups_71 (by decide) (fun c_71 => ?_) (fun c_71 => ?_)
              · refine lv_iinc (v := nI (w + 1)) (lv' := [(7, .int (nI (w + 1))), (0, .ref x), (1, .int (nI (cN ve))), (2, .int (nI (cN way))), (3, .int (nI (cN n))), (4, .int gi), (6, .int (nI cc))]) hx hb dX7_groups_87 hl (k := 6) rfl ((nI_succ _).symm) (by decide) rfl (fun ls hl => ?_)
                refine lv_goto (tgt := 49) hx hb dX7_groups_90 (by decide) ?_
                have E9 : nl - w = (nl - (w + 1)) + 1 := by omega
                rw [E9] at hR
                exact ih_49 (w + 1) cc (by omega) (by omega) (by omega) (by rw [hR, grF_f (p := (fun w => lgB (rcC (cN way) z g (cN ve) nl) nl w (cN n))) c_71]) _ _ hP hD hS ls (lv_sub hl [1, 2, 3, 4, 5, 6, 0] rfl)
              · refine lv_iload hx hb dX7_groups_74 (lv_at hl 5 rfl) ?_
                refine lv_iload hx hb dX7_groups_76 (lv_at hl 4 rfl) ?_
                refine lv_icmp_ne (tgt := 84) hx hb dX7_groups_78 (by decide) (fun c_78 => ?_) (fun c_78 => ?_)
                · refine lv_iinc (v := nI (cc + 1)) (lv' := [(6, .int (nI (cc + 1))), (0, .ref x), (1, .int (nI (cN ve))), (2, .int (nI (cN way))), (3, .int (nI (cN n))), (4, .int gi), (7, .int (nI w))]) hx hb dX7_groups_84 hl (k := 5) rfl ((nI_succ _).symm) (by decide) rfl (fun ls hl => ?_)
                  refine lv_iinc (v := nI (w + 1)) (lv' := [(7, .int (nI (w + 1))), (6, .int (nI (cc + 1))), (0, .ref x), (1, .int (nI (cN ve))), (2, .int (nI (cN way))), (3, .int (nI (cN n))), (4, .int gi)]) hx hb dX7_groups_87 hl (k := 6) rfl ((nI_succ _).symm) (by decide) rfl (fun ls hl => ?_)
                  refine lv_goto (tgt := 49) hx hb dX7_groups_90 (by decide) ?_
                  have E9 : nl - w = (nl - (w + 1)) + 1 := by omega
                  rw [E9] at hR
                  exact ih_49 (w + 1) _ (by omega) (by omega) (by omega) (by rw [hR, grF_n (p := (fun w => lgB (rcC (cN way) z g (cN ve) nl) nl w (cN n))) c_71 c_78]) _ _ hP hD hS ls (lv_sub hl [2, 3, 4, 5, 6, 1, 0] rfl)
                · refine lv_iload hx hb dX7_groups_81 (lv_at hl 6 rfl) ?_
                  rw [hQ]
                  have E9 : nl - w = (nl - (w + 1)) + 1 := by omega
                  rw [E9] at hR
                  exact m_iwr hx hb hr hlocks (n1u_40, n2u_40, ptu_40, rcu_40) (⟨by rw [rfQ_v K_v KI, hR, grF_t (p := (fun w => lgB (rcC (cN way) z g (cN ve) nl) nl w (cN n))) c_71 c_78], hp_40.2.2, hp_40.2.1⟩) hP hS dX7_groups_83
        exact loop_49 (nl + 1) 0 0 (by omega) (by omega) (by omega) rfl _ _ hP hD hS ls (lv_sub hl [3, 4, 5, 6, 7, 1, 0] rfl)
      · refine lv_iload hx hb dX7_groups_31 (lv_at hl 0 rfl) ?_
        rw [hQ]
        exact m_iwr hx hb hr hlocks (n1, n2, pt, rc) (⟨rfQ_n c_28 (by first | (simp [c_6, c_13]; done) | (simp [c_6]; done) | (simp [c_13]; done)), hpt, hrc⟩) hP hS dX7_groups_33

theorem yd_X7_whole : yX7_whole.cls = RX7 ∧ yX7_whole.cls ≠ "java/lang/invoke/MethodHandle" ∧ yX7_whole.cls ≠ "java/lang/invoke/VarHandle" ∧ (parseMethodDescriptor yX7_whole.desc).map (fun d => d.parameters.length) = some 4 := by decide +kernel
set_option maxHeartbeats 4000000 in
set_option maxRecDepth 100000 in
theorem k_X7_whole (l : Launch) (D : va_G) (cI cZ : ClassId) (x oz oy k0 k1 pa ps o5 o4 o6 o1 : Nat) (o q0 q1 ra oc a1 a2 ll lo lt n1 n2 nl nv : Nat) (pt rc z g : Nat → Nat) (ve way sta n : Int32) (hnl : nl ≤ 20) (hnv : nv ≤ 4) (hz : ∀ j, z j ≤ 8) (hg : ∀ j, g j ≤ 126) (hpt : ∀ j, pt j ≤ 126) (hrc : ∀ j, rc j ≤ 20) : Met l yX7_whole wsX7_whole ({ frames := 6, cells := 0, slots := 0, locals := 148 }) (mPc [.ref x, .int ve, .int way, .int sta, .int n] D cI cZ [(x, .inr (7, [.ref oc, .ref oz, .ref oy, .int (nI k0), .int (nI k1), .ref pa, .int (nI ps), .ref o, .ref o5, .ref o4, .ref o6, .ref o1])), (o, .inr (2, [.ref oc, .ref q0, .ref ra, .int (nI ll), .int (nI lo), .int (nI lt)])), (q0, .inr (3, [.ref q1, .int (nI n1), .int (nI n2)])), (q1, aN cI 26 pt), (ra, aN cI 400 rc), (oc, .inr (0, [.ref a1, .ref a2, .int (nI nl), .int (nI nv)])), (a1, aN cI 640 g), (a2, aN cI 80 z)]) (mQi D (mA [(x, .inr (7, [.ref oc, .ref oz, .ref oy, .int (nI k0), .int (nI k1), .ref pa, .int (nI ps), .ref o, .ref o5, .ref o4, .ref o6, .ref o1])), (o, .inr (2, [.ref oc, .ref q0, .ref ra, .int (nI ll), .int (nI lo), .int (nI lt)])), (q0, .inr (3, [.ref q1, .int (nI n1), .int (nI n2)])), (q1, aN cI 26 pt), (ra, aN cI 400 rc), (oc, .inr (0, [.ref a1, .ref a2, .int (nI nl), .int (nI nv)])), (a1, aN cI 640 g), (a2, aN cI 80 z)]) (fun (r : Int32) (u : Nat × Nat × (Nat → Nat) × (Nat → Nat)) => r = rfQ nv ve (ixB way 3 && ixB sta 20 && lnB n) (whR (rcC (cN way) z g (cN ve) nl) nl (cN sta) (cN n)) ∧ (∀ j, u.2.2.1 j ≤ 126) ∧ (∀ j, u.2.2.2 j ≤ 20)) (fun (u : Nat × Nat × (Nat → Nat) × (Nat → Nat)) => [(x, .inr (7, [.ref oc, .ref oz, .ref oy, .int (nI k0), .int (nI k1), .ref pa, .int (nI ps), .ref o, .ref o5, .ref o4, .ref o6, .ref o1])), (o, .inr (2, [.ref oc, .ref q0, .ref ra, .int (nI ll), .int (nI lo), .int (nI lt)])), (q0, .inr (3, [.ref q1, .int (nI u.1), .int (nI u.2.1)])), (q1, aN cI 26 u.2.2.1), (ra, aN cI 400 u.2.2.2), (oc, .inr (0, [.ref a1, .ref a2, .int (nI nl), .int (nI nv)])), (a1, aN cI 640 g), (a2, aN cI 80 z)])) 0 0 (mA [(x, .inr (7, [.ref oc, .ref oz, .ref oy, .int (nI k0), .int (nI k1), .ref pa, .int (nI ps), .ref o, .ref o5, .ref o4, .ref o6, .ref o1])), (o, .inr (2, [.ref oc, .ref q0, .ref ra, .int (nI ll), .int (nI lo), .int (nI lt)])), (q0, .inr (3, [.ref q1, .int (nI n1), .int (nI n2)])), (q1, aN cI 26 pt), (ra, aN cI 400 rc), (oc, .inr (0, [.ref a1, .ref a2, .int (nI nl), .int (nI nv)])), (a1, aN cI 640 g), (a2, aN cI 80 z)]) := by
  refine Met.ofW (cc := cX7_whole) (maxL := 7) (ret := (some .int)) (by decide) rfl ?_
  intro p e s m args below meth c s₁ BB hml hv
  obtain ⟨hargs, hP, hD0, hK⟩ := hv
  have hx := BB.exec
  have hb := BB.bytes
  have hr := BB.returns
  have hts := atoms_spec (ws := wsX7_whole) BB.pre
  have hown : s.vm.findClass RX7 = some m.cls := findClass_of_methodNamed BB.named
  have hlocks := BB.notSynchronized
  have hcf : CallFix p m c cX7_whole 7 s args wsX7_whole RX7 := ⟨hx, hb, hml, hown, hts⟩
  obtain ⟨A, hAe⟩ : ∃ A, A = mA [(x, .inr (7, [.ref oc, .ref oz, .ref oy, .int (nI k0), .int (nI k1), .ref pa, .int (nI ps), .ref o, .ref o5, .ref o4, .ref o6, .ref o1])), (o, .inr (2, [.ref oc, .ref q0, .ref ra, .int (nI ll), .int (nI lo), .int (nI lt)])), (q0, .inr (3, [.ref q1, .int (nI n1), .int (nI n2)])), (q1, aN cI 26 pt), (ra, aN cI 400 rc), (oc, .inr (0, [.ref a1, .ref a2, .int (nI nl), .int (nI nv)])), (a1, aN cI 640 g), (a2, aN cI 80 z)] := ⟨_, rfl⟩
  have hD : va_D A [(x, .inr (7, [.ref oc, .ref oz, .ref oy, .int (nI k0), .int (nI k1), .ref pa, .int (nI ps), .ref o, .ref o5, .ref o4, .ref o6, .ref o1])), (o, .inr (2, [.ref oc, .ref q0, .ref ra, .int (nI ll), .int (nI lo), .int (nI lt)])), (q0, .inr (3, [.ref q1, .int (nI n1), .int (nI n2)])), (q1, aN cI 26 pt), (ra, aN cI 400 rc), (oc, .inr (0, [.ref a1, .ref a2, .int (nI nl), .int (nI nv)])), (a1, aN cI 640 g), (a2, aN cI 80 z)] := ⟨hD0.1, fun k q h => by rw [hAe]; exact ⟨k, q.2, h⟩⟩
  have hS : va_S A s.heap s.heap [] := va_S.rf
  rw [← hAe]
  rw [hargs, lg_entry_eq, ← hargs]
  have hl := lv_entry ([.ref x, .int ve, .int way, .int sta, .int n]) (n := 7) (Nat.le_of_ble_eq_true rfl)
  generalize (lg_sl ([.ref x, .int ve, .int way, .int sta, .int n]) ++ List.replicate (7 - (lg_sl ([.ref x, .int ve, .int way, .int sta, .int n])).length) Slot.unset).toArray = ls at hl ⊢
  have hl : lv_has ls 7 [(0, .ref x), (1, .int ve), (2, .int way), (3, .int sta), (4, .int n)] := hl
  obtain ⟨Q, hQ⟩ : ∃ Q, Q = MQ below (mQi D A (fun (r : Int32) (u : Nat × Nat × (Nat → Nat) × (Nat → Nat)) => r = rfQ nv ve (ixB way 3 && ixB sta 20 && lnB n) (whR (rcC (cN way) z g (cN ve) nl) nl (cN sta) (cN n)) ∧ (∀ j, u.2.2.1 j ≤ 126) ∧ (∀ j, u.2.2.2 j ≤ 20)) (fun (u : Nat × Nat × (Nat → Nat) × (Nat → Nat)) => [(x, .inr (7, [.ref oc, .ref oz, .ref oy, .int (nI k0), .int (nI k1), .ref pa, .int (nI ps), .ref o, .ref o5, .ref o4, .ref o6, .ref o1])), (o, .inr (2, [.ref oc, .ref q0, .ref ra, .int (nI ll), .int (nI lo), .int (nI lt)])), (q0, .inr (3, [.ref q1, .int (nI u.1), .int (nI u.2.1)])), (q1, aN cI 26 u.2.2.1), (ra, aN cI 400 u.2.2.2), (oc, .inr (0, [.ref a1, .ref a2, .int (nI nl), .int (nI nv)])), (a1, aN cI 640 g), (a2, aN cI 80 z)])) args s 0 0 A := ⟨_, rfl⟩
  rw [← hQ]
  have i_X7 : ∀ w ∈ u_ws RX7 TX7 12, w ∈ wsX7_whole := by decide +kernel
  have f_31 := hts (.fieldLink RX7 31 "SameAgain" "likeness" "LSameAgain$Likeness;") (by decide +kernel)
  refine lv_aload_n hx hb dX7_whole_0 rfl (lv_at hl 0 rfl) ?_
  refine lv_iload_n hx hb dX7_whole_1 rfl (lv_at hl 1 rfl) ?_
  refine lv_iload_n hx hb dX7_whole_2 rfl (lv_at hl 2 rfl) ?_
  refine m_rdS (As := [.int way]) (rest := [.int ve, .ref x]) (wc := []) hcf (k_X7_isWay (l := l) (D := D) (cI := cI) (cZ := cZ) (a := way) ) (va_cwS 1 hts gX7_whole_X7_isWay rfl rfl rfl yd_X7_isWay.2 ⟨Nat.le_of_ble_eq_true rfl, Nat.le_of_ble_eq_true rfl⟩) (m_preS hK hP hD [] (by decide) rfl) rfl hl.1 rfl (Nat.le_of_ble_eq_true rfl) dX7_whole_3 ⟨Nat.zero_le _, Nat.zero_le _⟩ ?_
  refine m_ifB_eq (tgt := 28) hx hb dX7_whole_6 (by decide) (fun c_6 => ?_) (fun c_6 => ?_)
  · refine lv_iconst (v := nI 0) hx hb dX7_whole_28 (by decide) ?_
    refine m_rdV (As := [.int ve, .int (nI 0)]) (rest := []) (wc := [(x, .inr (7, [.ref oc, .ref oz, .ref oy, .int (nI k0), .int (nI k1), .ref pa, .int (nI ps), .ref o, .ref o5, .ref o4, .ref o6, .ref o1])), (oc, .inr (0, [.ref a1, .ref a2, .int (nI nl), .int (nI nv)])), (a1, aN cI 640 g), (a2, aN cI 80 z)]) hcf (k_X7_refusalIn (l := l) (D := D) (cI := cI) (cZ := cZ) (ve := ve) (b := false) (x := x) (oc := oc) (oz := oz) (oy := oy) (k0 := k0) (k1 := k1) (pa := pa) (ps := ps) (o := o) (o5 := o5) (o4 := o4) (o6 := o6) (o1 := o1) (a1 := a1) (a2 := a2) (nl := nl) (nv := nv) (g := g) (z := z) (hnl := hnl) (hnv := hnv)) (cwV 2 hts gX7_whole_X7_refusalIn rfl rfl rfl yd_X7_refusalIn ⟨Nat.le_of_ble_eq_true rfl, Nat.le_of_ble_eq_true rfl⟩) (m_preV hK hP hD [0, 5, 6, 7] (by decide) rfl rfl rfl) rfl hl.1 rfl (Nat.le_of_ble_eq_true rfl) dX7_whole_29 ⟨Nat.zero_le _, Nat.zero_le _⟩ ?_
    refine lv_istore (lv' := [(5, .int (rfQ nv ve false 0)), (0, .ref x), (1, .int ve), (2, .int way), (3, .int sta), (4, .int n)]) hx hb dX7_whole_32 hl (by decide) rfl (fun ls hl => ?_)
    refine lv_iload hx hb dX7_whole_34 (lv_at hl 0 rfl) ?_
    refine lv_if_eq (tgt := 42) hx hb dX7_whole_36 (by decide) (fun c_36 => ?_) (fun c_36 => ?_)
    · exact absurd (rfQ_0 c_36).2 (by decide)
    · refine lv_iload hx hb dX7_whole_39 (lv_at hl 0 rfl) ?_
      rw [hQ]
      exact m_iwr hx hb hr hlocks (n1, n2, pt, rc) (⟨rfQ_n c_36 (by first | (simp [c_6, c_13, c_21]; done) | (simp [c_6]; done) | (simp [c_13]; done) | (simp [c_21]; done)), hpt, hrc⟩) hP hS dX7_whole_41
  · refine lv_iload_n hx hb dX7_whole_9 rfl (lv_at hl 3 rfl) ?_
    refine m_rdS (As := [.int sta]) (rest := [.int ve, .ref x]) (wc := []) hcf (k_X7_isStart (l := l) (D := D) (cI := cI) (cZ := cZ) (a := sta) ) (va_cwS 1 hts gX7_whole_X7_isStart rfl rfl rfl yd_X7_isStart.2 ⟨Nat.le_of_ble_eq_true rfl, Nat.le_of_ble_eq_true rfl⟩) (m_preS hK hP hD [] (by decide) rfl) rfl hl.1 rfl (Nat.le_of_ble_eq_true rfl) dX7_whole_10 ⟨Nat.zero_le _, Nat.zero_le _⟩ ?_
    refine m_ifB_eq (tgt := 28) hx hb dX7_whole_13 (by decide) (fun c_13 => ?_) (fun c_13 => ?_)
    · refine lv_iconst (v := nI 0) hx hb dX7_whole_28 (by decide) ?_
      refine m_rdV (As := [.int ve, .int (nI 0)]) (rest := []) (wc := [(x, .inr (7, [.ref oc, .ref oz, .ref oy, .int (nI k0), .int (nI k1), .ref pa, .int (nI ps), .ref o, .ref o5, .ref o4, .ref o6, .ref o1])), (oc, .inr (0, [.ref a1, .ref a2, .int (nI nl), .int (nI nv)])), (a1, aN cI 640 g), (a2, aN cI 80 z)]) hcf (k_X7_refusalIn (l := l) (D := D) (cI := cI) (cZ := cZ) (ve := ve) (b := false) (x := x) (oc := oc) (oz := oz) (oy := oy) (k0 := k0) (k1 := k1) (pa := pa) (ps := ps) (o := o) (o5 := o5) (o4 := o4) (o6 := o6) (o1 := o1) (a1 := a1) (a2 := a2) (nl := nl) (nv := nv) (g := g) (z := z) (hnl := hnl) (hnv := hnv)) (cwV 2 hts gX7_whole_X7_refusalIn rfl rfl rfl yd_X7_refusalIn ⟨Nat.le_of_ble_eq_true rfl, Nat.le_of_ble_eq_true rfl⟩) (m_preV hK hP hD [0, 5, 6, 7] (by decide) rfl rfl rfl) rfl hl.1 rfl (Nat.le_of_ble_eq_true rfl) dX7_whole_29 ⟨Nat.zero_le _, Nat.zero_le _⟩ ?_
      refine lv_istore (lv' := [(5, .int (rfQ nv ve false 0)), (0, .ref x), (1, .int ve), (2, .int way), (3, .int sta), (4, .int n)]) hx hb dX7_whole_32 hl (by decide) rfl (fun ls hl => ?_)
      refine lv_iload hx hb dX7_whole_34 (lv_at hl 0 rfl) ?_
      refine lv_if_eq (tgt := 42) hx hb dX7_whole_36 (by decide) (fun c_36 => ?_) (fun c_36 => ?_)
      · exact absurd (rfQ_0 c_36).2 (by decide)
      · refine lv_iload hx hb dX7_whole_39 (lv_at hl 0 rfl) ?_
        rw [hQ]
        exact m_iwr hx hb hr hlocks (n1, n2, pt, rc) (⟨rfQ_n c_36 (by first | (simp [c_6, c_13, c_21]; done) | (simp [c_6]; done) | (simp [c_13]; done) | (simp [c_21]; done)), hpt, hrc⟩) hP hS dX7_whole_41
    · refine lv_iload hx hb dX7_whole_16 (lv_at hl 4 rfl) ?_
      refine m_rdS (As := [.int n]) (rest := [.int ve, .ref x]) (wc := []) hcf (k_X7_isLength (l := l) (D := D) (cI := cI) (cZ := cZ) (a := n) ) (va_cwS 1 hts gX7_whole_X7_isLength rfl rfl rfl yd_X7_isLength.2 ⟨Nat.le_of_ble_eq_true rfl, Nat.le_of_ble_eq_true rfl⟩) (m_preS hK hP hD [] (by decide) rfl) rfl hl.1 rfl (Nat.le_of_ble_eq_true rfl) dX7_whole_18 ⟨Nat.zero_le _, Nat.zero_le _⟩ ?_
      refine m_ifB_eq (tgt := 28) hx hb dX7_whole_21 (by decide) (fun c_21 => ?_) (fun c_21 => ?_)
      · refine lv_iconst (v := nI 0) hx hb dX7_whole_28 (by decide) ?_
        refine m_rdV (As := [.int ve, .int (nI 0)]) (rest := []) (wc := [(x, .inr (7, [.ref oc, .ref oz, .ref oy, .int (nI k0), .int (nI k1), .ref pa, .int (nI ps), .ref o, .ref o5, .ref o4, .ref o6, .ref o1])), (oc, .inr (0, [.ref a1, .ref a2, .int (nI nl), .int (nI nv)])), (a1, aN cI 640 g), (a2, aN cI 80 z)]) hcf (k_X7_refusalIn (l := l) (D := D) (cI := cI) (cZ := cZ) (ve := ve) (b := false) (x := x) (oc := oc) (oz := oz) (oy := oy) (k0 := k0) (k1 := k1) (pa := pa) (ps := ps) (o := o) (o5 := o5) (o4 := o4) (o6 := o6) (o1 := o1) (a1 := a1) (a2 := a2) (nl := nl) (nv := nv) (g := g) (z := z) (hnl := hnl) (hnv := hnv)) (cwV 2 hts gX7_whole_X7_refusalIn rfl rfl rfl yd_X7_refusalIn ⟨Nat.le_of_ble_eq_true rfl, Nat.le_of_ble_eq_true rfl⟩) (m_preV hK hP hD [0, 5, 6, 7] (by decide) rfl rfl rfl) rfl hl.1 rfl (Nat.le_of_ble_eq_true rfl) dX7_whole_29 ⟨Nat.zero_le _, Nat.zero_le _⟩ ?_
        refine lv_istore (lv' := [(5, .int (rfQ nv ve false 0)), (0, .ref x), (1, .int ve), (2, .int way), (3, .int sta), (4, .int n)]) hx hb dX7_whole_32 hl (by decide) rfl (fun ls hl => ?_)
        refine lv_iload hx hb dX7_whole_34 (lv_at hl 0 rfl) ?_
        refine lv_if_eq (tgt := 42) hx hb dX7_whole_36 (by decide) (fun c_36 => ?_) (fun c_36 => ?_)
        · exact absurd (rfQ_0 c_36).2 (by decide)
        · refine lv_iload hx hb dX7_whole_39 (lv_at hl 0 rfl) ?_
          rw [hQ]
          exact m_iwr hx hb hr hlocks (n1, n2, pt, rc) (⟨rfQ_n c_36 (by first | (simp [c_6, c_13, c_21]; done) | (simp [c_6]; done) | (simp [c_13]; done) | (simp [c_21]; done)), hpt, hrc⟩) hP hS dX7_whole_41
      · refine lv_iconst (v := nI 1) hx hb dX7_whole_24 (by decide) ?_
        refine lv_goto (tgt := 29) hx hb dX7_whole_25 (by decide) ?_
        refine m_rdV (As := [.int ve, .int (nI 1)]) (rest := []) (wc := [(x, .inr (7, [.ref oc, .ref oz, .ref oy, .int (nI k0), .int (nI k1), .ref pa, .int (nI ps), .ref o, .ref o5, .ref o4, .ref o6, .ref o1])), (oc, .inr (0, [.ref a1, .ref a2, .int (nI nl), .int (nI nv)])), (a1, aN cI 640 g), (a2, aN cI 80 z)]) hcf (k_X7_refusalIn (l := l) (D := D) (cI := cI) (cZ := cZ) (ve := ve) (b := true) (x := x) (oc := oc) (oz := oz) (oy := oy) (k0 := k0) (k1 := k1) (pa := pa) (ps := ps) (o := o) (o5 := o5) (o4 := o4) (o6 := o6) (o1 := o1) (a1 := a1) (a2 := a2) (nl := nl) (nv := nv) (g := g) (z := z) (hnl := hnl) (hnv := hnv)) (cwV 2 hts gX7_whole_X7_refusalIn rfl rfl rfl yd_X7_refusalIn ⟨Nat.le_of_ble_eq_true rfl, Nat.le_of_ble_eq_true rfl⟩) (m_preV hK hP hD [0, 5, 6, 7] (by decide) rfl rfl rfl) rfl hl.1 rfl (Nat.le_of_ble_eq_true rfl) dX7_whole_29 ⟨Nat.zero_le _, Nat.zero_le _⟩ ?_
        refine lv_istore (lv' := [(5, .int (rfQ nv ve true 0)), (0, .ref x), (1, .int ve), (2, .int way), (3, .int sta), (4, .int n)]) hx hb dX7_whole_32 hl (by decide) rfl (fun ls hl => ?_)
        refine lv_iload hx hb dX7_whole_34 (lv_at hl 0 rfl) ?_
        refine lv_if_eq (tgt := 42) hx hb dX7_whole_36 (by decide) (fun c_36 => ?_) (fun c_36 => ?_)
        · have K_v := (rfQ_0 c_36).1
          have KI : (ixB way 3 && ixB sta 20 && lnB n) = true := by first | (simp [c_6, c_13, c_21]; done) | (simp [c_6]; done) | (simp [c_13]; done) | (simp [c_21]; done)
          obtain ⟨e_v, i_v⟩ := ixB_cN (by omega) K_v
          obtain ⟨e_w, i_w⟩ := ixB_cN (by decide) c_6
          obtain ⟨e_s, i_s⟩ := ixB_cN (by decide) c_13
          obtain ⟨e_n, i_n, j_n⟩ := lnB_cN c_21
          have hl : lv_has ls 7 [(5, .int (rfQ nv ve true 0)), (0, .ref x), (1, .int (nI (cN ve))), (2, .int (nI (cN way))), (3, .int (nI (cN sta))), (4, .int (nI (cN n)))] := by rw [← e_v, ← e_w, ← e_s, ← e_n]; exact hl
          refine lv_aload_n hx hb dX7_whole_42 rfl (lv_at hl 1 rfl) ?_
          refine va_get (D := D) (ci := 7) (v := .ref o) (C := RX7) (T := TX7) (N := 12) hx hb hts i_X7 hown hK.1 hP 0 rfl rfl 7 (by decide) f_31 (fun _ h9 => h9) rfl dX7_whole_43 ?_
          refine lv_iload_n hx hb dX7_whole_46 rfl (lv_at hl 2 rfl) ?_
          refine lv_iload_n hx hb dX7_whole_47 rfl (lv_at hl 3 rfl) ?_
          refine m_wvV (As := [.int (nI (cN ve)), .int (nI (cN way))]) (rest := []) (wc := [(o, .inr (2, [.ref oc, .ref q0, .ref ra, .int (nI ll), .int (nI lo), .int (nI lt)])), (q0, .inr (3, [.ref q1, .int (nI n1), .int (nI n2)])), (q1, aN cI 26 pt), (ra, aN cI 400 rc), (oc, .inr (0, [.ref a1, .ref a2, .int (nI nl), .int (nI nv)])), (a1, aN cI 640 g), (a2, aN cI 80 z)]) hcf (k_X2_compareAll (l := l) (D := D) (cI := cI) (cZ := cZ) (v := cN ve) (way := cN way) (o := o) (oc := oc) (q0 := q0) (ra := ra) (ll := ll) (lo := lo) (lt := lt) (q1 := q1) (n1 := n1) (n2 := n2) (pt := pt) (rc := rc) (a1 := a1) (a2 := a2) (nl := nl) (nv := nv) (g := g) (z := z) (hnl := hnl) (hnv := hnv) (hz := hz) (hg := hg) (hpt := hpt) (hrc := hrc) (hw := by omega) (hv := by omega)) (cwV 2 hts gX7_whole_X2_compareAll rfl rfl rfl yd_X2_compareAll ⟨Nat.le_of_ble_eq_true rfl, Nat.le_of_ble_eq_true rfl⟩) hK hP hD hS [1, 2, 3, 4, 5, 6, 7] (by decide) rfl rfl rfl rfl hl.1 rfl (Nat.le_of_ble_eq_true rfl) dX7_whole_48 ⟨Nat.zero_le _, Nat.zero_le _⟩ (fun _ => rfl) (fun (u : Nat × Nat × (Nat → Nat) × (Nat → Nat)) => [(x, .inr (7, [.ref oc, .ref oz, .ref oy, .int (nI k0), .int (nI k1), .ref pa, .int (nI ps), .ref o, .ref o5, .ref o4, .ref o6, .ref o1])), (o, .inr (2, [.ref oc, .ref q0, .ref ra, .int (nI ll), .int (nI lo), .int (nI lt)])), (q0, .inr (3, [.ref q1, .int (nI u.1), .int (nI u.2.1)])), (q1, aN cI 26 u.2.2.1), (ra, aN cI 400 u.2.2.2), (oc, .inr (0, [.ref a1, .ref a2, .int (nI nl), .int (nI nv)])), (a1, aN cI 640 g), (a2, aN cI 80 z)]) (fun _ => rfl) (fun u H locs hp_48 hP hD hS => ?_)
          obtain ⟨n1u_48, n2u_48, ptu_48, rcu_48⟩ := u
          have hP : va_P D vwCl [(x, .inr (7, [.ref oc, .ref oz, .ref oy, .int (nI k0), .int (nI k1), .ref pa, .int (nI ps), .ref o, .ref o5, .ref o4, .ref o6, .ref o1])), (o, .inr (2, [.ref oc, .ref q0, .ref ra, .int (nI ll), .int (nI lo), .int (nI lt)])), (q0, .inr (3, [.ref q1, .int (nI n1u_48), .int (nI n2u_48)])), (q1, aN cI 26 ptu_48), (ra, aN cI 400 rcu_48), (oc, .inr (0, [.ref a1, .ref a2, .int (nI nl), .int (nI nv)])), (a1, aN cI 640 g), (a2, aN cI 80 z)] H := hP
          have hD : va_D A [(x, .inr (7, [.ref oc, .ref oz, .ref oy, .int (nI k0), .int (nI k1), .ref pa, .int (nI ps), .ref o, .ref o5, .ref o4, .ref o6, .ref o1])), (o, .inr (2, [.ref oc, .ref q0, .ref ra, .int (nI ll), .int (nI lo), .int (nI lt)])), (q0, .inr (3, [.ref q1, .int (nI n1u_48), .int (nI n2u_48)])), (q1, aN cI 26 ptu_48), (ra, aN cI 400 rcu_48), (oc, .inr (0, [.ref a1, .ref a2, .int (nI nl), .int (nI nv)])), (a1, aN cI 640 g), (a2, aN cI 80 z)] := hD
          try dsimp only at hp_48
          refine lv_aload_n hx hb dX7_whole_51 rfl (lv_at hl 1 rfl) ?_
          refine va_get (D := D) (ci := 7) (v := .ref o) (C := RX7) (T := TX7) (N := 12) hx hb hts i_X7 hown hK.1 hP 0 rfl rfl 7 (by decide) f_31 (fun _ h9 => h9) rfl dX7_whole_52 ?_
          refine lv_iload_n hx hb dX7_whole_55 rfl (lv_at hl 4 rfl) ?_
          refine lv_iload hx hb dX7_whole_56 (lv_at hl 5 rfl) ?_
          refine m_rdV (As := [.int (nI (cN sta)), .int (nI (cN n))]) (rest := []) (wc := [(o, .inr (2, [.ref oc, .ref q0, .ref ra, .int (nI ll), .int (nI lo), .int (nI lt)])), (q0, .inr (3, [.ref q1, .int (nI n1u_48), .int (nI n2u_48)])), (q1, aN cI 26 ptu_48), (ra, aN cI 400 rcu_48), (oc, .inr (0, [.ref a1, .ref a2, .int (nI nl), .int (nI nv)])), (a1, aN cI 640 g), (a2, aN cI 80 z)]) hcf (k_X2_startsLike (l := l) (D := D) (cI := cI) (cZ := cZ) (start := cN sta) (n := cN n) (o := o) (oc := oc) (q0 := q0) (ra := ra) (ll := ll) (lo := lo) (lt := lt) (q1 := q1) (n1 := n1u_48) (n2 := n2u_48) (pt := ptu_48) (rc := rcu_48) (a1 := a1) (a2 := a2) (nl := nl) (nv := nv) (g := g) (z := z) (hnl := hnl) (hnv := hnv) (hrc := hp_48.2.1) (h1 := by omega) (hn := by omega)) (cwV 2 hts gX7_whole_X2_startsLike rfl rfl rfl yd_X2_startsLike ⟨Nat.le_of_ble_eq_true rfl, Nat.le_of_ble_eq_true rfl⟩) (m_preV hK hP hD [1, 2, 3, 4, 5, 6, 7] (by decide) rfl rfl rfl) rfl hl.1 rfl (Nat.le_of_ble_eq_true rfl) dX7_whole_58 ⟨Nat.zero_le _, Nat.zero_le _⟩ ?_
          refine m_top (y := nI (slN (rcC (cN way) z g (cN ve) nl) nl (cN sta) (cN n))) (by rw [slN_C hnl hp_48.1]) ?_
          refine lv_istore (lv' := [(6, .int (nI (slN (rcC (cN way) z g (cN ve) nl) nl (cN sta) (cN n)))), (5, .int (rfQ nv ve true 0)), (0, .ref x), (1, .int (nI (cN ve))), (2, .int (nI (cN way))), (3, .int (nI (cN sta))), (4, .int (nI (cN n)))]) hx hb dX7_whole_61 hl (by decide) rfl (fun ls hl => ?_)
          refine lv_iload hx hb dX7_whole_63 (lv_at hl 0 rfl) ?_
          refine m_rdS (As := [.int (nI (slN (rcC (cN way) z g (cN ve) nl) nl (cN sta) (cN n)))]) (rest := []) (wc := []) hcf (k_J6_bitCount_0f7a4 (l := l) (D := D) (cI := cI) (cZ := cZ) (x := slN (rcC (cN way) z g (cN ve) nl) nl (cN sta) (cN n)) (hx2 := slN_lt hnl)) (va_cwS 1 hts gX7_whole_J6_bitCount_0f7a4 rfl rfl rfl yd_J6_bitCount_0f7a4.2 ⟨Nat.le_of_ble_eq_true rfl, Nat.le_of_ble_eq_true rfl⟩) (m_preS hK hP hD [] (by decide) rfl) rfl hl.1 rfl (Nat.le_of_ble_eq_true rfl) dX7_whole_65 ⟨Nat.zero_le _, Nat.zero_le _⟩ ?_
          refine lv_iconst (v := nI 2) hx hb dX7_whole_68 (by decide) ?_
          refine m_cmp_ge (tgt := 75) hx hb dX7_whole_69 (by decide) (by have := bcN_le (slN (rcC (cN way) z g (cN ve) nl) nl (cN sta) (cN n)); omega) (by omega) (fun c_69 => ?_) (fun c_69 => ?_)
          · refine lv_aload_n hx hb dX7_whole_75 rfl (lv_at hl 2 rfl) ?_
            refine va_get (D := D) (ci := 7) (v := .ref o) (C := RX7) (T := TX7) (N := 12) hx hb hts i_X7 hown hK.1 hP 0 rfl rfl 7 (by decide) f_31 (fun _ h9 => h9) rfl dX7_whole_76 ?_
            refine lv_iload hx hb dX7_whole_79 (lv_at hl 0 rfl) ?_
            refine lv_iload hx hb dX7_whole_81 (lv_at hl 6 rfl) ?_
            refine m_rdV (As := [.int (nI (slN (rcC (cN way) z g (cN ve) nl) nl (cN sta) (cN n))), .int (nI (cN n))]) (rest := []) (wc := [(o, .inr (2, [.ref oc, .ref q0, .ref ra, .int (nI ll), .int (nI lo), .int (nI lt)])), (q0, .inr (3, [.ref q1, .int (nI n1u_48), .int (nI n2u_48)])), (q1, aN cI 26 ptu_48), (ra, aN cI 400 rcu_48), (oc, .inr (0, [.ref a1, .ref a2, .int (nI nl), .int (nI nv)])), (a1, aN cI 640 g), (a2, aN cI 80 z)]) hcf (k_X2_isWithinLonger (l := l) (D := D) (cI := cI) (cZ := cZ) (gr := slN (rcC (cN way) z g (cN ve) nl) nl (cN sta) (cN n)) (n := cN n) (o := o) (oc := oc) (q0 := q0) (ra := ra) (ll := ll) (lo := lo) (lt := lt) (q1 := q1) (n1 := n1u_48) (n2 := n2u_48) (pt := ptu_48) (rc := rcu_48) (a1 := a1) (a2 := a2) (nl := nl) (nv := nv) (g := g) (z := z) (hnl := hnl) (hnv := hnv) (hrc := hp_48.2.1) (hgr := slN_lt hnl) (hn := by omega)) (cwV 2 hts gX7_whole_X2_isWithinLonger rfl rfl rfl yd_X2_isWithinLonger ⟨Nat.le_of_ble_eq_true rfl, Nat.le_of_ble_eq_true rfl⟩) (m_preV hK hP hD [1, 2, 3, 4, 5, 6, 7] (by decide) rfl rfl rfl) rfl hl.1 rfl (Nat.le_of_ble_eq_true rfl) dX7_whole_83 ⟨Nat.zero_le _, Nat.zero_le _⟩ ?_
            refine m_top (y := bI (wlB (rcC (cN way) z g (cN ve) nl) nl (slN (rcC (cN way) z g (cN ve) nl) nl (cN sta) (cN n)) (cN n))) (congrArg bI (wlB_C hnl hp_48.1 _ _)) ?_
            refine m_ifB_eq (tgt := 93) hx hb dX7_whole_86 (by decide) (fun c_86 => ?_) (fun c_86 => ?_)
            · refine lv_iconst (v := nI 1) hx hb dX7_whole_93 (by decide) ?_
              rw [hQ]
              exact m_iwr hx hb hr hlocks (n1u_48, n2u_48, ptu_48, rcu_48) (⟨by rw [rfQ_v K_v KI]; unfold whR; rw [if_neg (by omega), if_neg (by rw [c_86]; decide)]; rfl, hp_48.2.2, hp_48.2.1⟩) hP hS dX7_whole_94
            · refine lv_iconst (v := nI 0) hx hb dX7_whole_89 (by decide) ?_
              refine lv_goto (tgt := 94) hx hb dX7_whole_90 (by decide) ?_
              rw [hQ]
              exact m_iwr hx hb hr hlocks (n1u_48, n2u_48, ptu_48, rcu_48) (⟨by rw [rfQ_v K_v KI]; unfold whR; rw [if_neg (by omega), if_pos c_86]; rfl, hp_48.2.2, hp_48.2.1⟩) hP hS dX7_whole_94
          · refine lv_bipush (v := (-5)) hx hb dX7_whole_72 (by decide) ?_
            rw [hQ]
            exact m_iwr hx hb hr hlocks (n1u_48, n2u_48, ptu_48, rcu_48) (⟨by rw [rfQ_v K_v KI]; unfold whR; rw [if_pos c_69], hp_48.2.2, hp_48.2.1⟩) hP hS dX7_whole_74
        · refine lv_iload hx hb dX7_whole_39 (lv_at hl 0 rfl) ?_
          rw [hQ]
          exact m_iwr hx hb hr hlocks (n1, n2, pt, rc) (⟨rfQ_n c_36 (by first | (simp [c_6, c_13, c_21]; done) | (simp [c_6]; done) | (simp [c_13]; done) | (simp [c_21]; done)), hpt, hrc⟩) hP hS dX7_whole_41
