theorem yd_X2_linesAlike : yX2_linesAlike.cls = RX2 ∧ yX2_linesAlike.cls ≠ "java/lang/invoke/MethodHandle" ∧ yX2_linesAlike.cls ≠ "java/lang/invoke/VarHandle" ∧ (parseMethodDescriptor yX2_linesAlike.desc).map (fun d => d.parameters.length) = some 5 := by decide +kernel
set_option maxHeartbeats 4000000 in
set_option maxRecDepth 100000 in
theorem k_X2_linesAlike (l : Launch) (D : va_G) (cI cZ : ClassId) (o q0 q1 ra oc a1 a2 ll lo lt n1 n2 nl nv : Nat) (pt rc z g : Nat → Nat) (v way one other most : Nat) (hnl : nl ≤ 20) (hnv : nv ≤ 4) (hz : ∀ j, z j ≤ 8) (hg : ∀ j, g j ≤ 126) (hpt : ∀ j, pt j ≤ 126) (hw : way ≤ 2) (hv : v < nv) (h1 : one + most ≤ nl) (h2 : other + most ≤ nl) : Met l yX2_linesAlike wsX2_linesAlike ({ frames := 4, cells := 0, slots := 0, locals := 96 }) (mPc [.ref o, .int (nI v), .int (nI way), .int (nI one), .int (nI other), .int (nI most)] D cI cZ [(o, .inr (2, [.ref oc, .ref q0, .ref ra, .int (nI ll), .int (nI lo), .int (nI lt)])), (q0, .inr (3, [.ref q1, .int (nI n1), .int (nI n2)])), (q1, aN cI 26 pt), (ra, aN cI 400 rc), (oc, .inr (0, [.ref a1, .ref a2, .int (nI nl), .int (nI nv)])), (a1, aN cI 640 g), (a2, aN cI 80 z)]) (mQi D (mA [(o, .inr (2, [.ref oc, .ref q0, .ref ra, .int (nI ll), .int (nI lo), .int (nI lt)])), (q0, .inr (3, [.ref q1, .int (nI n1), .int (nI n2)])), (q1, aN cI 26 pt), (ra, aN cI 400 rc), (oc, .inr (0, [.ref a1, .ref a2, .int (nI nl), .int (nI nv)])), (a1, aN cI 640 g), (a2, aN cI 80 z)]) (fun (r : Int32) (u : Nat × Nat × (Nat → Nat)) => r = nI (rlN way z g v one other most) ∧ pmC u.1 u.2.1 u.2.2 (rwX way z g v one other skn most).2) (fun (u : Nat × Nat × (Nat → Nat)) => [(o, .inr (2, [.ref oc, .ref q0, .ref ra, .int (nI ll), .int (nI lo), .int (nI lt)])), (q0, .inr (3, [.ref q1, .int (nI u.1), .int (nI u.2.1)])), (q1, aN cI 26 u.2.2), (ra, aN cI 400 rc), (oc, .inr (0, [.ref a1, .ref a2, .int (nI nl), .int (nI nv)])), (a1, aN cI 640 g), (a2, aN cI 80 z)])) 0 0 (mA [(o, .inr (2, [.ref oc, .ref q0, .ref ra, .int (nI ll), .int (nI lo), .int (nI lt)])), (q0, .inr (3, [.ref q1, .int (nI n1), .int (nI n2)])), (q1, aN cI 26 pt), (ra, aN cI 400 rc), (oc, .inr (0, [.ref a1, .ref a2, .int (nI nl), .int (nI nv)])), (a1, aN cI 640 g), (a2, aN cI 80 z)]) := by
  refine Met.ofW (cc := cX2_linesAlike) (maxL := 7) (ret := (some .int)) (by decide) rfl ?_
  intro p e s m args below meth c s₁ BB hml hv
  obtain ⟨hargs, hP, hD0, hK⟩ := hv
  have hx := BB.exec
  have hb := BB.bytes
  have hr := BB.returns
  have hts := atoms_spec (ws := wsX2_linesAlike) BB.pre
  have hown : s.vm.findClass RX2 = some m.cls := findClass_of_methodNamed BB.named
  have hlocks := BB.notSynchronized
  have hcf : CallFix p m c cX2_linesAlike 7 s args wsX2_linesAlike RX2 := ⟨hx, hb, hml, hown, hts⟩
  obtain ⟨A, hAe⟩ : ∃ A, A = mA [(o, .inr (2, [.ref oc, .ref q0, .ref ra, .int (nI ll), .int (nI lo), .int (nI lt)])), (q0, .inr (3, [.ref q1, .int (nI n1), .int (nI n2)])), (q1, aN cI 26 pt), (ra, aN cI 400 rc), (oc, .inr (0, [.ref a1, .ref a2, .int (nI nl), .int (nI nv)])), (a1, aN cI 640 g), (a2, aN cI 80 z)] := ⟨_, rfl⟩
  have hD : va_D A [(o, .inr (2, [.ref oc, .ref q0, .ref ra, .int (nI ll), .int (nI lo), .int (nI lt)])), (q0, .inr (3, [.ref q1, .int (nI n1), .int (nI n2)])), (q1, aN cI 26 pt), (ra, aN cI 400 rc), (oc, .inr (0, [.ref a1, .ref a2, .int (nI nl), .int (nI nv)])), (a1, aN cI 640 g), (a2, aN cI 80 z)] := ⟨hD0.1, fun k q h => by rw [hAe]; exact ⟨k, q.2, h⟩⟩
  have hS : va_S A s.heap s.heap [] := va_S.rf
  rw [← hAe]
  rw [hargs, lg_entry_eq, ← hargs]
  have hl := lv_entry ([.ref o, .int (nI v), .int (nI way), .int (nI one), .int (nI other), .int (nI most)]) (n := 7) (Nat.le_of_ble_eq_true rfl)
  generalize (lg_sl ([.ref o, .int (nI v), .int (nI way), .int (nI one), .int (nI other), .int (nI most)]) ++ List.replicate (7 - (lg_sl ([.ref o, .int (nI v), .int (nI way), .int (nI one), .int (nI other), .int (nI most)])).length) Slot.unset).toArray = ls at hl ⊢
  have hl : lv_has ls 7 [(0, .ref o), (1, .int (nI v)), (2, .int (nI way)), (3, .int (nI one)), (4, .int (nI other)), (5, .int (nI most))] := hl
  obtain ⟨Q, hQ⟩ : ∃ Q, Q = MQ below (mQi D A (fun (r : Int32) (u : Nat × Nat × (Nat → Nat)) => r = nI (rlN way z g v one other most) ∧ pmC u.1 u.2.1 u.2.2 (rwX way z g v one other skn most).2) (fun (u : Nat × Nat × (Nat → Nat)) => [(o, .inr (2, [.ref oc, .ref q0, .ref ra, .int (nI ll), .int (nI lo), .int (nI lt)])), (q0, .inr (3, [.ref q1, .int (nI u.1), .int (nI u.2.1)])), (q1, aN cI 26 u.2.2), (ra, aN cI 400 rc), (oc, .inr (0, [.ref a1, .ref a2, .int (nI nl), .int (nI nv)])), (a1, aN cI 640 g), (a2, aN cI 80 z)])) args s 0 0 A := ⟨_, rfl⟩
  rw [← hQ]
  have i_X2 : ∀ w ∈ u_ws RX2 TX2 6, w ∈ wsX2_linesAlike := by decide +kernel
  have f_12 := hts (.fieldLink RX2 12 "SameAgain$Likeness" "pairing" "LSameAgain$Pairing;") (by decide +kernel)
  refine lv_aload_n hx hb dX2_linesAlike_0 rfl (lv_at hl 0 rfl) ?_
  refine va_get (D := D) (ci := 2) (v := .ref q0) (C := RX2) (T := TX2) (N := 6) hx hb hts i_X2 hown hK.1 hP 0 rfl rfl 1 (by decide) f_12 (fun _ h9 => h9) rfl dX2_linesAlike_1 ?_
  refine m_wvV (As := []) (rest := []) (wc := [(q0, .inr (3, [.ref q1, .int (nI n1), .int (nI n2)])), (q1, aN cI 26 pt)]) hcf (k_X3_clear (l := l) (D := D) (cI := cI) (cZ := cZ) (o := q0) (q1 := q1) (n1 := n1) (n2 := n2) (pt := pt) ) (cwV 0 hts gX2_linesAlike_X3_clear rfl rfl rfl yd_X3_clear ⟨Nat.le_of_ble_eq_true rfl, Nat.le_of_ble_eq_true rfl⟩) hK hP hD hS [1, 2] (by decide) rfl rfl rfl rfl hl.1 rfl (Nat.le_of_ble_eq_true rfl) dX2_linesAlike_4 ⟨Nat.zero_le _, Nat.zero_le _⟩ (fun _ => rfl) (fun (u : Unit) => [(o, .inr (2, [.ref oc, .ref q0, .ref ra, .int (nI ll), .int (nI lo), .int (nI lt)])), (q0, .inr (3, [.ref q1, .int (nI 0), .int (nI 0)])), (q1, aN cI 26 pt), (ra, aN cI 400 rc), (oc, .inr (0, [.ref a1, .ref a2, .int (nI nl), .int (nI nv)])), (a1, aN cI 640 g), (a2, aN cI 80 z)]) (fun _ => rfl) (fun u H locs hp_4 hP hD hS => ?_)
  have hP : va_P D vwCl [(o, .inr (2, [.ref oc, .ref q0, .ref ra, .int (nI ll), .int (nI lo), .int (nI lt)])), (q0, .inr (3, [.ref q1, .int (nI 0), .int (nI 0)])), (q1, aN cI 26 pt), (ra, aN cI 400 rc), (oc, .inr (0, [.ref a1, .ref a2, .int (nI nl), .int (nI nv)])), (a1, aN cI 640 g), (a2, aN cI 80 z)] H := hP
  have hD : va_D A [(o, .inr (2, [.ref oc, .ref q0, .ref ra, .int (nI ll), .int (nI lo), .int (nI lt)])), (q0, .inr (3, [.ref q1, .int (nI 0), .int (nI 0)])), (q1, aN cI 26 pt), (ra, aN cI 400 rc), (oc, .inr (0, [.ref a1, .ref a2, .int (nI nl), .int (nI nv)])), (a1, aN cI 640 g), (a2, aN cI 80 z)] := hD
  refine lv_iconst (v := nI 0) hx hb dX2_linesAlike_7 (by decide) ?_
  refine lv_istore (lv' := [(6, .int (nI 0)), (0, .ref o), (1, .int (nI v)), (2, .int (nI way)), (3, .int (nI one)), (4, .int (nI other)), (5, .int (nI most))]) hx hb dX2_linesAlike_8 hl (by decide) rfl (fun ls hl => ?_)
  have loop_10 : ∀ (fu : Nat) (k m1 m2 : Nat) (mt : Nat → Nat) (hfu : most - k < fu)  (hk : k ≤ most) (hq : (rwX way z g v one other skn k).1 = true) (hpm2 : pmC m1 m2 mt (rwX way z g v one other skn k).2) (H : Heap) (locs : List Loc) (hP : va_P D vwCl [(o, .inr (2, [.ref oc, .ref q0, .ref ra, .int (nI ll), .int (nI lo), .int (nI lt)])), (q0, .inr (3, [.ref q1, .int (nI m1), .int (nI m2)])), (q1, aN cI 26 mt), (ra, aN cI 400 rc), (oc, .inr (0, [.ref a1, .ref a2, .int (nI nl), .int (nI nv)])), (a1, aN cI 640 g), (a2, aN cI 80 z)] H) (hD : va_D A [(o, .inr (2, [.ref oc, .ref q0, .ref ra, .int (nI ll), .int (nI lo), .int (nI lt)])), (q0, .inr (3, [.ref q1, .int (nI m1), .int (nI m2)])), (q1, aN cI 26 mt), (ra, aN cI 400 rc), (oc, .inr (0, [.ref a1, .ref a2, .int (nI nl), .int (nI nv)])), (a1, aN cI 640 g), (a2, aN cI 80 z)]) (hS : va_S A s.heap H locs) (ls : Array Slot) (hl : lv_has ls 7 [(0, .ref o), (1, .int (nI v)), (2, .int (nI way)), (3, .int (nI one)), (4, .int (nI other)), (5, .int (nI most)), (6, .int (nI k))]), W p l e (headSpec wsX2_linesAlike { frames := 4, cells := 0, slots := 0, locals := 96 }).room s m args below meth c H locs 0 0 Q (F0 m 10 ls []) := by
    intro fu
    induction fu with
    | zero => intro k m1 m2 mt hfu; exact absurd hfu (Nat.not_lt_zero _)
    | succ fu ih_10 =>
      intro k m1 m2 mt hfu hk hq hpm2 H locs hP hD hS ls hl
      refine lv_iload hx hb dX2_linesAlike_10 (lv_at hl 6 rfl) ?_
      refine lv_iload hx hb dX2_linesAlike_12 (lv_at hl 5 rfl) ?_
      refine m_cmp_ge (tgt := 45) hx hb dX2_linesAlike_14 (by decide) (by omega) (by omega) (fun c_14 => ?_) (fun c_14 => ?_)
      · refine lv_iload hx hb dX2_linesAlike_45 (lv_at hl 5 rfl) ?_
        rw [hQ]
        have e9 : k = most := by omega
        exact m_iwr hx hb hr hlocks (m1, m2, mt) (⟨by rw [show rlN way z g v one other most = most from raN_all (by rw [← e9]; exact hq)], by rw [← e9]; exact hpm2⟩) hP hS dX2_linesAlike_47
      · refine lv_aload_n hx hb dX2_linesAlike_17 rfl (lv_at hl 0 rfl) ?_
        refine lv_iload_n hx hb dX2_linesAlike_18 rfl (lv_at hl 1 rfl) ?_
        refine lv_iload_n hx hb dX2_linesAlike_19 rfl (lv_at hl 2 rfl) ?_
        refine lv_iload_n hx hb dX2_linesAlike_20 rfl (lv_at hl 3 rfl) ?_
        refine lv_iload hx hb dX2_linesAlike_21 (lv_at hl 6 rfl) ?_
        refine m_add hx hb dX2_linesAlike_23 ?_
        refine lv_iload hx hb dX2_linesAlike_24 (lv_at hl 4 rfl) ?_
        refine lv_iload hx hb dX2_linesAlike_26 (lv_at hl 6 rfl) ?_
        refine m_add hx hb dX2_linesAlike_28 ?_
        refine lv_iconst (v := (-1)) hx hb dX2_linesAlike_29 (by decide) ?_
        refine m_wrV (As := [.int (nI v), .int (nI way), .int (nI (one + k)), .int (nI (other + k)), .int (-1)]) (rest := []) (wc := [(o, .inr (2, [.ref oc, .ref q0, .ref ra, .int (nI ll), .int (nI lo), .int (nI lt)])), (q0, .inr (3, [.ref q1, .int (nI m1), .int (nI m2)])), (q1, aN cI 26 mt), (ra, aN cI 400 rc), (oc, .inr (0, [.ref a1, .ref a2, .int (nI nl), .int (nI nv)])), (a1, aN cI 640 g), (a2, aN cI 80 z)]) hcf (k_X2_lineFits (l := l) (D := D) (cI := cI) (cZ := cZ) (v := v) (way := way) (one := one + k) (other := other + k) (x := (-1)) (o := o) (oc := oc) (q0 := q0) (ra := ra) (ll := ll) (lo := lo) (lt := lt) (q1 := q1) (n1 := m1) (n2 := m2) (pt := mt) (rc := rc) (a1 := a1) (a2 := a2) (nl := nl) (nv := nv) (g := g) (z := z) (L := (rwX way z g v one other skn k).2) (hnl := hnl) (hnv := hnv) (hz := hz) (hg := hg) (hpm := hpm2) (hw := hw) (hv := hv) (h1 := by omega) (h2 := by omega)) (cwV 5 hts gX2_linesAlike_X2_lineFits rfl rfl rfl yd_X2_lineFits ⟨Nat.le_of_ble_eq_true rfl, Nat.le_of_ble_eq_true rfl⟩) hK hP hD hS [0, 1, 2, 3, 4, 5, 6] (by decide) rfl rfl rfl rfl hl.1 rfl (Nat.le_of_ble_eq_true rfl) dX2_linesAlike_30 ⟨Nat.zero_le _, Nat.zero_le _⟩ (fun _ => rfl) (fun (u : Nat × Nat × (Nat → Nat)) => [(o, .inr (2, [.ref oc, .ref q0, .ref ra, .int (nI ll), .int (nI lo), .int (nI lt)])), (q0, .inr (3, [.ref q1, .int (nI u.1), .int (nI u.2.1)])), (q1, aN cI 26 u.2.2), (ra, aN cI 400 rc), (oc, .inr (0, [.ref a1, .ref a2, .int (nI nl), .int (nI nv)])), (a1, aN cI 640 g), (a2, aN cI 80 z)]) (fun _ => rfl) (fun r u H locs hp_30 hP hD hS => ?_)
        obtain ⟨n1u_30, n2u_30, ptu_30⟩ := u
        have hP : va_P D vwCl [(o, .inr (2, [.ref oc, .ref q0, .ref ra, .int (nI ll), .int (nI lo), .int (nI lt)])), (q0, .inr (3, [.ref q1, .int (nI n1u_30), .int (nI n2u_30)])), (q1, aN cI 26 ptu_30), (ra, aN cI 400 rc), (oc, .inr (0, [.ref a1, .ref a2, .int (nI nl), .int (nI nv)])), (a1, aN cI 640 g), (a2, aN cI 80 z)] H := hP
        have hD : va_D A [(o, .inr (2, [.ref oc, .ref q0, .ref ra, .int (nI ll), .int (nI lo), .int (nI lt)])), (q0, .inr (3, [.ref q1, .int (nI n1u_30), .int (nI n2u_30)])), (q1, aN cI 26 ptu_30), (ra, aN cI 400 rc), (oc, .inr (0, [.ref a1, .ref a2, .int (nI nl), .int (nI nv)])), (a1, aN cI 640 g), (a2, aN cI 80 z)] := hD
        try dsimp only at hp_30
        obtain ⟨hr_hp_30, hp_30⟩ := hp_30
        rw [hr_hp_30]
        refine m_ifB_ne (tgt := 39) hx hb dX2_linesAlike_33 (by decide) (fun c_33 => ?_) (fun c_33 => ?_)
        · refine lv_iinc (v := nI (k + 1)) (lv' := [(6, .int (nI (k + 1))), (0, .ref o), (1, .int (nI v)), (2, .int (nI way)), (3, .int (nI one)), (4, .int (nI other)), (5, .int (nI most))]) hx hb dX2_linesAlike_39 hl (k := 6) rfl ((nI_succ _).symm) (by decide) rfl (fun ls hl => ?_)
          refine lv_goto (tgt := 10) hx hb dX2_linesAlike_42 (by decide) ?_
          exact ih_10 (k + 1) n1u_30 n2u_30 ptu_30 (by omega) (by omega) (by rw [rwX_s hq]; exact c_33) (by rw [rwX_s hq]; exact hp_30) _ _ hP hD hS ls (lv_sub hl [1, 2, 3, 4, 5, 6, 0] rfl)
        · refine lv_iload hx hb dX2_linesAlike_36 (lv_at hl 6 rfl) ?_
          rw [hQ]
          have E8 := rwX_s hq
          have E7 : (rwX way z g v one other skn (k + 1)).1 = false := by rw [E8]; exact c_33
          have E6 : rwX way z g v one other skn most = rwX way z g v one other skn (k + 1) := by
            have h9 := rwX_stop E7 (most - (k + 1))
            rwa [show k + 1 + (most - (k + 1)) = most by omega] at h9
          have E5 : rlN way z g v one other most = k := by
            refine raN_at hq (by omega) (fun j h1 h2 => ?_)
            have h9 := rwX_stop E7 (j - (k + 1))
            rw [show k + 1 + (j - (k + 1)) = j by omega] at h9
            show (rwX way z g v one other skn j).1 = false
            rw [h9]
            exact E7
          exact m_iwr hx hb hr hlocks (_, _, _) (⟨by rw [E5], by rw [E6, E8]; exact hp_30⟩) hP hS dX2_linesAlike_38
  exact loop_10 (most + 1) 0 0 0 pt (by omega) (by omega) rfl (pmC_nil hpt) _ _ hP hD hS ls (lv_sub hl [1, 2, 3, 4, 5, 6, 0] rfl)

theorem yd_X2_areThere : yX2_areThere.cls = RX2 ∧ yX2_areThere.cls ≠ "java/lang/invoke/MethodHandle" ∧ yX2_areThere.cls ≠ "java/lang/invoke/VarHandle" ∧ (parseMethodDescriptor yX2_areThere.desc).map (fun d => d.parameters.length) = some 3 := by decide +kernel
set_option maxHeartbeats 4000000 in
set_option maxRecDepth 100000 in
theorem k_X2_areThere (l : Launch) (D : va_G) (cI cZ : ClassId) (o q0 q1 ra oc a1 a2 ll lo lt n1 n2 nl nv : Nat) (pt rc z g : Nat → Nat) (one other n : Nat) (hnl : nl ≤ 20) (h1 : one ≤ 40) (h2 : other ≤ 40) (hn : n ≤ 40) : Met l yX2_areThere wsX2_areThere ({ frames := 1, cells := 0, slots := 0, locals := 21 }) (mPc [.ref o, .int (nI one), .int (nI other), .int (nI n)] D cI cZ [(o, .inr (2, [.ref oc, .ref q0, .ref ra, .int (nI ll), .int (nI lo), .int (nI lt)])), (q0, .inr (3, [.ref q1, .int (nI n1), .int (nI n2)])), (q1, aN cI 26 pt), (ra, aN cI 400 rc), (oc, .inr (0, [.ref a1, .ref a2, .int (nI nl), .int (nI nv)])), (a1, aN cI 640 g), (a2, aN cI 80 z)]) (QcRead (bI (decide (max one other + n ≤ nl)))) 0 0 (fun _ => False) := by
  refine Met.ofW (cc := cX2_areThere) (maxL := 4) (ret := (some .boolean)) (by decide) rfl ?_
  intro p e s m args below meth c s₁ BB hml hv
  obtain ⟨hargs, hP, hD0, hK⟩ := hv
  have hx := BB.exec
  have hb := BB.bytes
  have hr := BB.returns
  have hts := atoms_spec (ws := wsX2_areThere) BB.pre
  have hown : s.vm.findClass RX2 = some m.cls := findClass_of_methodNamed BB.named
  have hlocks := BB.notSynchronized
  have hcf : CallFix p m c cX2_areThere 4 s args wsX2_areThere RX2 := ⟨hx, hb, hml, hown, hts⟩
  have hD := hD0
  rw [hargs, lg_entry_eq, ← hargs]
  have hl := lv_entry ([.ref o, .int (nI one), .int (nI other), .int (nI n)]) (n := 4) (Nat.le_of_ble_eq_true rfl)
  generalize (lg_sl ([.ref o, .int (nI one), .int (nI other), .int (nI n)]) ++ List.replicate (4 - (lg_sl ([.ref o, .int (nI one), .int (nI other), .int (nI n)])).length) Slot.unset).toArray = ls at hl ⊢
  have hl : lv_has ls 4 [(0, .ref o), (1, .int (nI one)), (2, .int (nI other)), (3, .int (nI n))] := hl
  obtain ⟨Q, hQ⟩ : ∃ Q, Q = MQ below (QcRead (bI (decide (max one other + n ≤ nl)))) args s 0 0 (fun _ => False) := ⟨_, rfl⟩
  rw [← hQ]
  have l_44 := hts (.methodLink RX2 44 Lib.Math.max.name) (by decide +kernel)
  have ls_max := hts (.static Lib.Math.max.name) (by decide +kernel)
  have l_math := hts (.initialized "java/lang/Math") (by decide +kernel)
  have lc_max := hts (.code Lib.Math.max.name Lib.Math.max.code 2 (some .int)) (by decide +kernel)
  have i_X2 : ∀ w ∈ u_ws RX2 TX2 6, w ∈ wsX2_areThere := by decide +kernel
  have f_32 := hts (.fieldLink RX2 32 "SameAgain$Likeness" "code" "LSameAgain$Code;") (by decide +kernel)
  refine lv_iload_n hx hb dX2_areThere_0 rfl (lv_at hl 1 rfl) ?_
  refine m_if_lt (tgt := 29) hx hb dX2_areThere_1 (by decide) (by omega) ?_
  refine lv_iload_n hx hb dX2_areThere_4 rfl (lv_at hl 2 rfl) ?_
  refine m_if_lt (tgt := 29) hx hb dX2_areThere_5 (by decide) (by omega) ?_
  refine lv_iload_n hx hb dX2_areThere_8 rfl (lv_at hl 1 rfl) ?_
  refine lv_iload_n hx hb dX2_areThere_9 rfl (lv_at hl 2 rfl) ?_
  refine va_mmax hx hb (hml.trans hl.1.symm) hown l_44 ls_max l_math lc_max (Nat.le_of_ble_eq_true rfl) (Nat.le_of_ble_eq_true rfl) (Nat.zero_le _) (Nat.zero_le _) dX2_areThere_10 ?_
  refine m_top (y := nI (max one other)) (m_maxE (by omega) (by omega)) ?_
  refine lv_iload_n hx hb dX2_areThere_13 rfl (lv_at hl 3 rfl) ?_
  refine m_add hx hb dX2_areThere_14 ?_
  refine lv_aload_n hx hb dX2_areThere_15 rfl (lv_at hl 0 rfl) ?_
  refine va_get (D := D) (ci := 2) (v := .ref oc) (C := RX2) (T := TX2) (N := 6) hx hb hts i_X2 hown hK.1 hP 0 rfl rfl 0 (by decide) f_32 (fun _ h9 => h9) rfl dX2_areThere_16 ?_
  refine m_rdV (As := []) (rest := [.int (nI ((max one other) + n))]) (wc := [(oc, .inr (0, [.ref a1, .ref a2, .int (nI nl), .int (nI nv)])), (a1, aN cI 640 g), (a2, aN cI 80 z)]) hcf (k_X0_lines (l := l) (D := D) (cI := cI) (cZ := cZ) (o := oc) (a1 := a1) (a2 := a2) (nl := nl) (nv := nv) (g := g) (z := z) ) (cwV 0 hts gX2_areThere_X0_lines rfl rfl rfl yd_X0_lines ⟨Nat.le_of_ble_eq_true rfl, Nat.le_of_ble_eq_true rfl⟩) (m_preV hK hP hD [4, 5, 6] (by decide) rfl rfl rfl) rfl hl.1 rfl (Nat.le_of_ble_eq_true rfl) dX2_areThere_19 ⟨Nat.zero_le _, Nat.zero_le _⟩ ?_
  refine m_cmp_gt (tgt := 29) hx hb dX2_areThere_22 (by decide) (by omega) (by omega) (fun c_22 => ?_) (fun c_22 => ?_)
  · refine lv_iconst (v := nI 0) hx hb dX2_areThere_29 (by decide) ?_
    rw [hQ]
    exact m_zrd hx hb hr hlocks (b_zero (by omega)) dX2_areThere_30
  · refine lv_iconst (v := nI 1) hx hb dX2_areThere_25 (by decide) ?_
    refine lv_goto (tgt := 30) hx hb dX2_areThere_26 (by decide) ?_
    rw [hQ]
    exact m_zrd hx hb hr hlocks (b_one (by omega)) dX2_areThere_30

theorem rlN_ne {way : Nat} {z g : Nat → Nat} {v one other n : Nat} (h : (rwX way z g v one other skn n).1 = false) (e : rlN way z g v one other n = n) : False := by
  cases n with
  | zero => cases h
  | succ n =>
    unfold rlN raN at e
    rw [if_neg (by rw [h]; decide)] at e
    have := raN_le (fun k => (rwX way z g v one other skn k).1) n
    omega

theorem yd_X2_rowsAlike : yX2_rowsAlike.cls = RX2 ∧ yX2_rowsAlike.cls ≠ "java/lang/invoke/MethodHandle" ∧ yX2_rowsAlike.cls ≠ "java/lang/invoke/VarHandle" ∧ (parseMethodDescriptor yX2_rowsAlike.desc).map (fun d => d.parameters.length) = some 5 := by decide +kernel
set_option maxHeartbeats 4000000 in
set_option maxRecDepth 100000 in
theorem k_X2_rowsAlike (l : Launch) (D : va_G) (cI cZ : ClassId) (o q0 q1 ra oc a1 a2 ll lo lt n1 n2 nl nv : Nat) (pt rc z g : Nat → Nat) (v way one other n : Nat) (hnl : nl ≤ 20) (hnv : nv ≤ 4) (hz : ∀ j, z j ≤ 8) (hg : ∀ j, g j ≤ 126) (hpt : ∀ j, pt j ≤ 126) (hw : way ≤ 2) (hv : v < nv) (h1 : one ≤ 20) (h2 : other ≤ 20) (hn : n ≤ 20) : Met l yX2_rowsAlike wsX2_rowsAlike ({ frames := 5, cells := 0, slots := 0, locals := 122 }) (mPc [.ref o, .int (nI v), .int (nI way), .int (nI one), .int (nI other), .int (nI n)] D cI cZ [(o, .inr (2, [.ref oc, .ref q0, .ref ra, .int (nI ll), .int (nI lo), .int (nI lt)])), (q0, .inr (3, [.ref q1, .int (nI n1), .int (nI n2)])), (q1, aN cI 26 pt), (ra, aN cI 400 rc), (oc, .inr (0, [.ref a1, .ref a2, .int (nI nl), .int (nI nv)])), (a1, aN cI 640 g), (a2, aN cI 80 z)]) (mQi D (mA [(o, .inr (2, [.ref oc, .ref q0, .ref ra, .int (nI ll), .int (nI lo), .int (nI lt)])), (q0, .inr (3, [.ref q1, .int (nI n1), .int (nI n2)])), (q1, aN cI 26 pt), (ra, aN cI 400 rc), (oc, .inr (0, [.ref a1, .ref a2, .int (nI nl), .int (nI nv)])), (a1, aN cI 640 g), (a2, aN cI 80 z)]) (fun (r : Int32) (u : Nat × Nat × (Nat → Nat)) => r = bI (raB way z g v nl one other n) ∧ (∀ j, u.2.2 j ≤ 126) ∧ (raB way z g v nl one other n = true → pmC u.1 u.2.1 u.2.2 (rwX way z g v one other skn n).2)) (fun (u : Nat × Nat × (Nat → Nat)) => [(o, .inr (2, [.ref oc, .ref q0, .ref ra, .int (nI ll), .int (nI lo), .int (nI lt)])), (q0, .inr (3, [.ref q1, .int (nI u.1), .int (nI u.2.1)])), (q1, aN cI 26 u.2.2), (ra, aN cI 400 rc), (oc, .inr (0, [.ref a1, .ref a2, .int (nI nl), .int (nI nv)])), (a1, aN cI 640 g), (a2, aN cI 80 z)])) 0 0 (mA [(o, .inr (2, [.ref oc, .ref q0, .ref ra, .int (nI ll), .int (nI lo), .int (nI lt)])), (q0, .inr (3, [.ref q1, .int (nI n1), .int (nI n2)])), (q1, aN cI 26 pt), (ra, aN cI 400 rc), (oc, .inr (0, [.ref a1, .ref a2, .int (nI nl), .int (nI nv)])), (a1, aN cI 640 g), (a2, aN cI 80 z)]) := by
  refine Met.ofW (cc := cX2_rowsAlike) (maxL := 6) (ret := (some .boolean)) (by decide) rfl ?_
  intro p e s m args below meth c s₁ BB hml hv
  obtain ⟨hargs, hP, hD0, hK⟩ := hv
  have hx := BB.exec
  have hb := BB.bytes
  have hr := BB.returns
  have hts := atoms_spec (ws := wsX2_rowsAlike) BB.pre
  have hown : s.vm.findClass RX2 = some m.cls := findClass_of_methodNamed BB.named
  have hlocks := BB.notSynchronized
  have hcf : CallFix p m c cX2_rowsAlike 6 s args wsX2_rowsAlike RX2 := ⟨hx, hb, hml, hown, hts⟩
  obtain ⟨A, hAe⟩ : ∃ A, A = mA [(o, .inr (2, [.ref oc, .ref q0, .ref ra, .int (nI ll), .int (nI lo), .int (nI lt)])), (q0, .inr (3, [.ref q1, .int (nI n1), .int (nI n2)])), (q1, aN cI 26 pt), (ra, aN cI 400 rc), (oc, .inr (0, [.ref a1, .ref a2, .int (nI nl), .int (nI nv)])), (a1, aN cI 640 g), (a2, aN cI 80 z)] := ⟨_, rfl⟩
  have hD : va_D A [(o, .inr (2, [.ref oc, .ref q0, .ref ra, .int (nI ll), .int (nI lo), .int (nI lt)])), (q0, .inr (3, [.ref q1, .int (nI n1), .int (nI n2)])), (q1, aN cI 26 pt), (ra, aN cI 400 rc), (oc, .inr (0, [.ref a1, .ref a2, .int (nI nl), .int (nI nv)])), (a1, aN cI 640 g), (a2, aN cI 80 z)] := ⟨hD0.1, fun k q h => by rw [hAe]; exact ⟨k, q.2, h⟩⟩
  have hS : va_S A s.heap s.heap [] := va_S.rf
  rw [← hAe]
  rw [hargs, lg_entry_eq, ← hargs]
  have hl := lv_entry ([.ref o, .int (nI v), .int (nI way), .int (nI one), .int (nI other), .int (nI n)]) (n := 6) (Nat.le_of_ble_eq_true rfl)
  generalize (lg_sl ([.ref o, .int (nI v), .int (nI way), .int (nI one), .int (nI other), .int (nI n)]) ++ List.replicate (6 - (lg_sl ([.ref o, .int (nI v), .int (nI way), .int (nI one), .int (nI other), .int (nI n)])).length) Slot.unset).toArray = ls at hl ⊢
  have hl : lv_has ls 6 [(0, .ref o), (1, .int (nI v)), (2, .int (nI way)), (3, .int (nI one)), (4, .int (nI other)), (5, .int (nI n))] := hl
  obtain ⟨Q, hQ⟩ : ∃ Q, Q = MQ below (mQi D A (fun (r : Int32) (u : Nat × Nat × (Nat → Nat)) => r = bI (raB way z g v nl one other n) ∧ (∀ j, u.2.2 j ≤ 126) ∧ (raB way z g v nl one other n = true → pmC u.1 u.2.1 u.2.2 (rwX way z g v one other skn n).2)) (fun (u : Nat × Nat × (Nat → Nat)) => [(o, .inr (2, [.ref oc, .ref q0, .ref ra, .int (nI ll), .int (nI lo), .int (nI lt)])), (q0, .inr (3, [.ref q1, .int (nI u.1), .int (nI u.2.1)])), (q1, aN cI 26 u.2.2), (ra, aN cI 400 rc), (oc, .inr (0, [.ref a1, .ref a2, .int (nI nl), .int (nI nv)])), (a1, aN cI 640 g), (a2, aN cI 80 z)])) args s 0 0 A := ⟨_, rfl⟩
  rw [← hQ]
  refine lv_aload_n hx hb dX2_rowsAlike_0 rfl (lv_at hl 0 rfl) ?_
  refine lv_iload_n hx hb dX2_rowsAlike_1 rfl (lv_at hl 3 rfl) ?_
  refine lv_iload hx hb dX2_rowsAlike_2 (lv_at hl 4 rfl) ?_
  refine lv_iload hx hb dX2_rowsAlike_4 (lv_at hl 5 rfl) ?_
  refine m_rdV (As := [.int (nI one), .int (nI other), .int (nI n)]) (rest := []) (wc := [(o, .inr (2, [.ref oc, .ref q0, .ref ra, .int (nI ll), .int (nI lo), .int (nI lt)])), (q0, .inr (3, [.ref q1, .int (nI n1), .int (nI n2)])), (q1, aN cI 26 pt), (ra, aN cI 400 rc), (oc, .inr (0, [.ref a1, .ref a2, .int (nI nl), .int (nI nv)])), (a1, aN cI 640 g), (a2, aN cI 80 z)]) hcf (k_X2_areThere (l := l) (D := D) (cI := cI) (cZ := cZ) (one := one) (other := other) (n := n) (o := o) (oc := oc) (q0 := q0) (ra := ra) (ll := ll) (lo := lo) (lt := lt) (q1 := q1) (n1 := n1) (n2 := n2) (pt := pt) (rc := rc) (a1 := a1) (a2 := a2) (nl := nl) (nv := nv) (g := g) (z := z) (hnl := hnl) (h1 := by omega) (h2 := by omega) (hn := by omega)) (cwV 3 hts gX2_rowsAlike_X2_areThere rfl rfl rfl yd_X2_areThere ⟨Nat.le_of_ble_eq_true rfl, Nat.le_of_ble_eq_true rfl⟩) (m_preV hK hP hD [0, 1, 2, 3, 4, 5, 6] (by decide) rfl rfl rfl) rfl hl.1 rfl (Nat.le_of_ble_eq_true rfl) dX2_rowsAlike_6 ⟨Nat.zero_le _, Nat.zero_le _⟩ ?_
  refine m_ifB_eq (tgt := 32) hx hb dX2_rowsAlike_9 (by decide) (fun c_9 => ?_) (fun c_9 => ?_)
  · refine lv_iconst (v := nI 0) hx hb dX2_rowsAlike_32 (by decide) ?_
    rw [hQ]
    have E9 : raB way z g v nl one other n = false := by unfold raB; rw [c_9]; rfl
    exact m_zwr hx hb hr hlocks (n1, n2, pt) (nI_01 (by omega)) (⟨bb_zero E9, hpt, fun h => by rw [E9] at h; cases h⟩) hP hS dX2_rowsAlike_33
  · have i9 := of_decide_eq_true c_9
    refine lv_aload_n hx hb dX2_rowsAlike_12 rfl (lv_at hl 0 rfl) ?_
    refine lv_iload_n hx hb dX2_rowsAlike_13 rfl (lv_at hl 1 rfl) ?_
    refine lv_iload_n hx hb dX2_rowsAlike_14 rfl (lv_at hl 2 rfl) ?_
    refine lv_iload_n hx hb dX2_rowsAlike_15 rfl (lv_at hl 3 rfl) ?_
    refine lv_iload hx hb dX2_rowsAlike_16 (lv_at hl 4 rfl) ?_
    refine lv_iload hx hb dX2_rowsAlike_18 (lv_at hl 5 rfl) ?_
    refine m_wrV (As := [.int (nI v), .int (nI way), .int (nI one), .int (nI other), .int (nI n)]) (rest := []) (wc := [(o, .inr (2, [.ref oc, .ref q0, .ref ra, .int (nI ll), .int (nI lo), .int (nI lt)])), (q0, .inr (3, [.ref q1, .int (nI n1), .int (nI n2)])), (q1, aN cI 26 pt), (ra, aN cI 400 rc), (oc, .inr (0, [.ref a1, .ref a2, .int (nI nl), .int (nI nv)])), (a1, aN cI 640 g), (a2, aN cI 80 z)]) hcf (k_X2_linesAlike (l := l) (D := D) (cI := cI) (cZ := cZ) (v := v) (way := way) (one := one) (other := other) (most := n) (o := o) (oc := oc) (q0 := q0) (ra := ra) (ll := ll) (lo := lo) (lt := lt) (q1 := q1) (n1 := n1) (n2 := n2) (pt := pt) (rc := rc) (a1 := a1) (a2 := a2) (nl := nl) (nv := nv) (g := g) (z := z) (hnl := hnl) (hnv := hnv) (hz := hz) (hg := hg) (hpt := hpt) (hw := hw) (hv := hv) (h1 := by omega) (h2 := by omega)) (cwV 5 hts gX2_rowsAlike_X2_linesAlike rfl rfl rfl yd_X2_linesAlike ⟨Nat.le_of_ble_eq_true rfl, Nat.le_of_ble_eq_true rfl⟩) hK hP hD hS [0, 1, 2, 3, 4, 5, 6] (by decide) rfl rfl rfl rfl hl.1 rfl (Nat.le_of_ble_eq_true rfl) dX2_rowsAlike_20 ⟨Nat.zero_le _, Nat.zero_le _⟩ (fun _ => rfl) (fun (u : Nat × Nat × (Nat → Nat)) => [(o, .inr (2, [.ref oc, .ref q0, .ref ra, .int (nI ll), .int (nI lo), .int (nI lt)])), (q0, .inr (3, [.ref q1, .int (nI u.1), .int (nI u.2.1)])), (q1, aN cI 26 u.2.2), (ra, aN cI 400 rc), (oc, .inr (0, [.ref a1, .ref a2, .int (nI nl), .int (nI nv)])), (a1, aN cI 640 g), (a2, aN cI 80 z)]) (fun _ => rfl) (fun r u H locs hp_20 hP hD hS => ?_)
    obtain ⟨n1u_20, n2u_20, ptu_20⟩ := u
    have hP : va_P D vwCl [(o, .inr (2, [.ref oc, .ref q0, .ref ra, .int (nI ll), .int (nI lo), .int (nI lt)])), (q0, .inr (3, [.ref q1, .int (nI n1u_20), .int (nI n2u_20)])), (q1, aN cI 26 ptu_20), (ra, aN cI 400 rc), (oc, .inr (0, [.ref a1, .ref a2, .int (nI nl), .int (nI nv)])), (a1, aN cI 640 g), (a2, aN cI 80 z)] H := hP
    have hD : va_D A [(o, .inr (2, [.ref oc, .ref q0, .ref ra, .int (nI ll), .int (nI lo), .int (nI lt)])), (q0, .inr (3, [.ref q1, .int (nI n1u_20), .int (nI n2u_20)])), (q1, aN cI 26 ptu_20), (ra, aN cI 400 rc), (oc, .inr (0, [.ref a1, .ref a2, .int (nI nl), .int (nI nv)])), (a1, aN cI 640 g), (a2, aN cI 80 z)] := hD
    try dsimp only at hp_20
    obtain ⟨hr_hp_20, hp_20⟩ := hp_20
    rw [hr_hp_20]
    refine lv_iload hx hb dX2_rowsAlike_23 (lv_at hl 5 rfl) ?_
    refine m_cmp_ne (tgt := 32) hx hb dX2_rowsAlike_25 (by decide) (Nat.lt_of_le_of_lt (rlN_le _ _ _ _ _ _ _) (by omega)) (by omega) (fun c_25 => ?_) (fun c_25 => ?_)
    · refine lv_iconst (v := nI 0) hx hb dX2_rowsAlike_32 (by decide) ?_
      rw [hQ]
      have E8 : (rwX way z g v one other skn n).1 = false := by
        cases hb9 : (rwX way z g v one other skn n).1 with
        | false => rfl
        | true => exact absurd (raN_all hb9) c_25
      have E9 : raB way z g v nl one other n = false := by unfold raB; rw [E8, Bool.and_false]
      exact m_zwr hx hb hr hlocks (_, _, _) (nI_01 (by omega)) (⟨bb_zero E9, hp_20.2.2.2.2.2.2, fun h => by rw [E9] at h; cases h⟩) hP hS dX2_rowsAlike_33
    · refine lv_iconst (v := nI 1) hx hb dX2_rowsAlike_28 (by decide) ?_
      refine lv_goto (tgt := 33) hx hb dX2_rowsAlike_29 (by decide) ?_
      rw [hQ]
      have E8 : (rwX way z g v one other skn n).1 = true := by
        cases hb9 : (rwX way z g v one other skn n).1 with
        | true => rfl
        | false => exact absurd (rlN_ne hb9 c_25) id
      have E9 : raB way z g v nl one other n = true := by unfold raB; rw [c_9, E8]; rfl
      exact m_zwr hx hb hr hlocks (_, _, _) (nI_01 (by omega)) (⟨bb_one E9, hp_20.2.2.2.2.2.2, fun _ => hp_20⟩) hP hS dX2_rowsAlike_33

theorem yd_X2_rowsAlikeBut : yX2_rowsAlikeBut.cls = RX2 ∧ yX2_rowsAlikeBut.cls ≠ "java/lang/invoke/MethodHandle" ∧ yX2_rowsAlikeBut.cls ≠ "java/lang/invoke/VarHandle" ∧ (parseMethodDescriptor yX2_rowsAlikeBut.desc).map (fun d => d.parameters.length) = some 5 := by decide +kernel
set_option maxHeartbeats 4000000 in
set_option maxRecDepth 100000 in
theorem k_X2_rowsAlikeBut (l : Launch) (D : va_G) (cI cZ : ClassId) (o q0 q1 ra oc a1 a2 ll lo lt n1 n2 nl nv : Nat) (pt rc z g : Nat → Nat) (v one other n lf : Nat) (hnl : nl ≤ 20) (hnv : nv ≤ 4) (hz : ∀ j, z j ≤ 8) (hg : ∀ j, g j ≤ 126) (hpt : ∀ j, pt j ≤ 126) (hv : v < nv) (h1 : one + n ≤ nl) (h2 : other + n ≤ nl) : Met l yX2_rowsAlikeBut wsX2_rowsAlikeBut ({ frames := 4, cells := 0, slots := 0, locals := 96 }) (mPc [.ref o, .int (nI v), .int (nI one), .int (nI other), .int (nI n), .int (nI lf)] D cI cZ [(o, .inr (2, [.ref oc, .ref q0, .ref ra, .int (nI ll), .int (nI lo), .int (nI lt)])), (q0, .inr (3, [.ref q1, .int (nI n1), .int (nI n2)])), (q1, aN cI 26 pt), (ra, aN cI 400 rc), (oc, .inr (0, [.ref a1, .ref a2, .int (nI nl), .int (nI nv)])), (a1, aN cI 640 g), (a2, aN cI 80 z)]) (mQi D (mA [(o, .inr (2, [.ref oc, .ref q0, .ref ra, .int (nI ll), .int (nI lo), .int (nI lt)])), (q0, .inr (3, [.ref q1, .int (nI n1), .int (nI n2)])), (q1, aN cI 26 pt), (ra, aN cI 400 rc), (oc, .inr (0, [.ref a1, .ref a2, .int (nI nl), .int (nI nv)])), (a1, aN cI 640 g), (a2, aN cI 80 z)]) (fun (r : Int32) (u : Nat × Nat × (Nat → Nat)) => r = bI ((rwX 1 z g v one other (fun (kk pq : Nat) => decide (nI pq = nI lf - nI (kk * 10))) n).1) ∧ pmC u.1 u.2.1 u.2.2 (rwX 1 z g v one other (fun (kk pq : Nat) => decide (nI pq = nI lf - nI (kk * 10))) n).2) (fun (u : Nat × Nat × (Nat → Nat)) => [(o, .inr (2, [.ref oc, .ref q0, .ref ra, .int (nI ll), .int (nI lo), .int (nI lt)])), (q0, .inr (3, [.ref q1, .int (nI u.1), .int (nI u.2.1)])), (q1, aN cI 26 u.2.2), (ra, aN cI 400 rc), (oc, .inr (0, [.ref a1, .ref a2, .int (nI nl), .int (nI nv)])), (a1, aN cI 640 g), (a2, aN cI 80 z)])) 0 0 (mA [(o, .inr (2, [.ref oc, .ref q0, .ref ra, .int (nI ll), .int (nI lo), .int (nI lt)])), (q0, .inr (3, [.ref q1, .int (nI n1), .int (nI n2)])), (q1, aN cI 26 pt), (ra, aN cI 400 rc), (oc, .inr (0, [.ref a1, .ref a2, .int (nI nl), .int (nI nv)])), (a1, aN cI 640 g), (a2, aN cI 80 z)]) := by
  refine Met.ofW (cc := cX2_rowsAlikeBut) (maxL := 8) (ret := (some .boolean)) (by decide) rfl ?_
  intro p e s m args below meth c s₁ BB hml hv
  obtain ⟨hargs, hP, hD0, hK⟩ := hv
  have hx := BB.exec
  have hb := BB.bytes
  have hr := BB.returns
  have hts := atoms_spec (ws := wsX2_rowsAlikeBut) BB.pre
  have hown : s.vm.findClass RX2 = some m.cls := findClass_of_methodNamed BB.named
  have hlocks := BB.notSynchronized
  have hcf : CallFix p m c cX2_rowsAlikeBut 8 s args wsX2_rowsAlikeBut RX2 := ⟨hx, hb, hml, hown, hts⟩
  obtain ⟨A, hAe⟩ : ∃ A, A = mA [(o, .inr (2, [.ref oc, .ref q0, .ref ra, .int (nI ll), .int (nI lo), .int (nI lt)])), (q0, .inr (3, [.ref q1, .int (nI n1), .int (nI n2)])), (q1, aN cI 26 pt), (ra, aN cI 400 rc), (oc, .inr (0, [.ref a1, .ref a2, .int (nI nl), .int (nI nv)])), (a1, aN cI 640 g), (a2, aN cI 80 z)] := ⟨_, rfl⟩
  have hD : va_D A [(o, .inr (2, [.ref oc, .ref q0, .ref ra, .int (nI ll), .int (nI lo), .int (nI lt)])), (q0, .inr (3, [.ref q1, .int (nI n1), .int (nI n2)])), (q1, aN cI 26 pt), (ra, aN cI 400 rc), (oc, .inr (0, [.ref a1, .ref a2, .int (nI nl), .int (nI nv)])), (a1, aN cI 640 g), (a2, aN cI 80 z)] := ⟨hD0.1, fun k q h => by rw [hAe]; exact ⟨k, q.2, h⟩⟩
  have hS : va_S A s.heap s.heap [] := va_S.rf
  rw [← hAe]
  rw [hargs, lg_entry_eq, ← hargs]
  have hl := lv_entry ([.ref o, .int (nI v), .int (nI one), .int (nI other), .int (nI n), .int (nI lf)]) (n := 8) (Nat.le_of_ble_eq_true rfl)
  generalize (lg_sl ([.ref o, .int (nI v), .int (nI one), .int (nI other), .int (nI n), .int (nI lf)]) ++ List.replicate (8 - (lg_sl ([.ref o, .int (nI v), .int (nI one), .int (nI other), .int (nI n), .int (nI lf)])).length) Slot.unset).toArray = ls at hl ⊢
  have hl : lv_has ls 8 [(0, .ref o), (1, .int (nI v)), (2, .int (nI one)), (3, .int (nI other)), (4, .int (nI n)), (5, .int (nI lf))] := hl
  obtain ⟨Q, hQ⟩ : ∃ Q, Q = MQ below (mQi D A (fun (r : Int32) (u : Nat × Nat × (Nat → Nat)) => r = bI ((rwX 1 z g v one other (fun (kk pq : Nat) => decide (nI pq = nI lf - nI (kk * 10))) n).1) ∧ pmC u.1 u.2.1 u.2.2 (rwX 1 z g v one other (fun (kk pq : Nat) => decide (nI pq = nI lf - nI (kk * 10))) n).2) (fun (u : Nat × Nat × (Nat → Nat)) => [(o, .inr (2, [.ref oc, .ref q0, .ref ra, .int (nI ll), .int (nI lo), .int (nI lt)])), (q0, .inr (3, [.ref q1, .int (nI u.1), .int (nI u.2.1)])), (q1, aN cI 26 u.2.2), (ra, aN cI 400 rc), (oc, .inr (0, [.ref a1, .ref a2, .int (nI nl), .int (nI nv)])), (a1, aN cI 640 g), (a2, aN cI 80 z)])) args s 0 0 A := ⟨_, rfl⟩
  rw [← hQ]
  have i_X2 : ∀ w ∈ u_ws RX2 TX2 6, w ∈ wsX2_rowsAlikeBut := by decide +kernel
  have f_12 := hts (.fieldLink RX2 12 "SameAgain$Likeness" "pairing" "LSameAgain$Pairing;") (by decide +kernel)
  refine lv_aload_n hx hb dX2_rowsAlikeBut_0 rfl (lv_at hl 0 rfl) ?_
  refine va_get (D := D) (ci := 2) (v := .ref q0) (C := RX2) (T := TX2) (N := 6) hx hb hts i_X2 hown hK.1 hP 0 rfl rfl 1 (by decide) f_12 (fun _ h9 => h9) rfl dX2_rowsAlikeBut_1 ?_
  refine m_wvV (As := []) (rest := []) (wc := [(q0, .inr (3, [.ref q1, .int (nI n1), .int (nI n2)])), (q1, aN cI 26 pt)]) hcf (k_X3_clear (l := l) (D := D) (cI := cI) (cZ := cZ) (o := q0) (q1 := q1) (n1 := n1) (n2 := n2) (pt := pt) ) (cwV 0 hts gX2_rowsAlikeBut_X3_clear rfl rfl rfl yd_X3_clear ⟨Nat.le_of_ble_eq_true rfl, Nat.le_of_ble_eq_true rfl⟩) hK hP hD hS [1, 2] (by decide) rfl rfl rfl rfl hl.1 rfl (Nat.le_of_ble_eq_true rfl) dX2_rowsAlikeBut_4 ⟨Nat.zero_le _, Nat.zero_le _⟩ (fun _ => rfl) (fun (u : Unit) => [(o, .inr (2, [.ref oc, .ref q0, .ref ra, .int (nI ll), .int (nI lo), .int (nI lt)])), (q0, .inr (3, [.ref q1, .int (nI 0), .int (nI 0)])), (q1, aN cI 26 pt), (ra, aN cI 400 rc), (oc, .inr (0, [.ref a1, .ref a2, .int (nI nl), .int (nI nv)])), (a1, aN cI 640 g), (a2, aN cI 80 z)]) (fun _ => rfl) (fun u H locs hp_4 hP hD hS => ?_)
  have hP : va_P D vwCl [(o, .inr (2, [.ref oc, .ref q0, .ref ra, .int (nI ll), .int (nI lo), .int (nI lt)])), (q0, .inr (3, [.ref q1, .int (nI 0), .int (nI 0)])), (q1, aN cI 26 pt), (ra, aN cI 400 rc), (oc, .inr (0, [.ref a1, .ref a2, .int (nI nl), .int (nI nv)])), (a1, aN cI 640 g), (a2, aN cI 80 z)] H := hP
  have hD : va_D A [(o, .inr (2, [.ref oc, .ref q0, .ref ra, .int (nI ll), .int (nI lo), .int (nI lt)])), (q0, .inr (3, [.ref q1, .int (nI 0), .int (nI 0)])), (q1, aN cI 26 pt), (ra, aN cI 400 rc), (oc, .inr (0, [.ref a1, .ref a2, .int (nI nl), .int (nI nv)])), (a1, aN cI 640 g), (a2, aN cI 80 z)] := hD
  refine lv_iconst (v := nI 0) hx hb dX2_rowsAlikeBut_7 (by decide) ?_
  refine lv_istore (lv' := [(6, .int (nI 0)), (0, .ref o), (1, .int (nI v)), (2, .int (nI one)), (3, .int (nI other)), (4, .int (nI n)), (5, .int (nI lf))]) hx hb dX2_rowsAlikeBut_8 hl (by decide) rfl (fun ls hl => ?_)
  have loop_10 : ∀ (fu : Nat) (k m1 m2 : Nat) (mt : Nat → Nat) (hfu : n - k < fu)  (hk : k ≤ n) (hq : (rwX 1 z g v one other (fun (kk pq : Nat) => decide (nI pq = nI lf - nI (kk * 10))) k).1 = true) (hpm2 : pmC m1 m2 mt (rwX 1 z g v one other (fun (kk pq : Nat) => decide (nI pq = nI lf - nI (kk * 10))) k).2) (H : Heap) (locs : List Loc) (hP : va_P D vwCl [(o, .inr (2, [.ref oc, .ref q0, .ref ra, .int (nI ll), .int (nI lo), .int (nI lt)])), (q0, .inr (3, [.ref q1, .int (nI m1), .int (nI m2)])), (q1, aN cI 26 mt), (ra, aN cI 400 rc), (oc, .inr (0, [.ref a1, .ref a2, .int (nI nl), .int (nI nv)])), (a1, aN cI 640 g), (a2, aN cI 80 z)] H) (hD : va_D A [(o, .inr (2, [.ref oc, .ref q0, .ref ra, .int (nI ll), .int (nI lo), .int (nI lt)])), (q0, .inr (3, [.ref q1, .int (nI m1), .int (nI m2)])), (q1, aN cI 26 mt), (ra, aN cI 400 rc), (oc, .inr (0, [.ref a1, .ref a2, .int (nI nl), .int (nI nv)])), (a1, aN cI 640 g), (a2, aN cI 80 z)]) (hS : va_S A s.heap H locs) (ls : Array Slot) (hl : lv_has ls 8 [(0, .ref o), (1, .int (nI v)), (2, .int (nI one)), (3, .int (nI other)), (4, .int (nI n)), (5, .int (nI lf)), (6, .int (nI k))]), W p l e (headSpec wsX2_rowsAlikeBut { frames := 4, cells := 0, slots := 0, locals := 96 }).room s m args below meth c H locs 0 0 Q (F0 m 10 ls []) := by
    intro fu
    induction fu with
    | zero => intro k m1 m2 mt hfu; exact absurd hfu (Nat.not_lt_zero _)
    | succ fu ih_10 =>
      intro k m1 m2 mt hfu hk hq hpm2 H locs hP hD hS ls hl
      refine lv_iload hx hb dX2_rowsAlikeBut_10 (lv_at hl 6 rfl) ?_
      refine lv_iload hx hb dX2_rowsAlikeBut_12 (lv_at hl 4 rfl) ?_
      refine m_cmp_ge (tgt := 54) hx hb dX2_rowsAlikeBut_14 (by decide) (by omega) (by omega) (fun c_14 => ?_) (fun c_14 => ?_)
      · refine lv_iconst (v := nI 1) hx hb dX2_rowsAlikeBut_54 (by decide) ?_
        rw [hQ]
        have e9 : k = n := by omega
        exact m_zwr hx hb hr hlocks (m1, m2, mt) (nI_01 (by omega)) (⟨by rw [← e9, hq]; rfl, by rw [← e9]; exact hpm2⟩) hP hS dX2_rowsAlikeBut_55
      · refine lv_iload hx hb dX2_rowsAlikeBut_17 (lv_at hl 5 rfl) ?_
        refine lv_iload hx hb dX2_rowsAlikeBut_19 (lv_at hl 6 rfl) ?_
        refine lv_bipush (v := nI 10) hx hb dX2_rowsAlikeBut_21 (by decide) ?_
        refine m_mul hx hb dX2_rowsAlikeBut_23 ?_
        refine lv_isub hx hb dX2_rowsAlikeBut_24 ?_
        refine lv_istore (lv' := [(7, .int ((nI lf) - (nI (k * 10)))), (0, .ref o), (1, .int (nI v)), (2, .int (nI one)), (3, .int (nI other)), (4, .int (nI n)), (5, .int (nI lf)), (6, .int (nI k))]) hx hb dX2_rowsAlikeBut_25 hl (by decide) rfl (fun ls hl => ?_)
        refine lv_aload_n hx hb dX2_rowsAlikeBut_27 rfl (lv_at hl 1 rfl) ?_
        refine lv_iload_n hx hb dX2_rowsAlikeBut_28 rfl (lv_at hl 2 rfl) ?_
        refine lv_iconst (v := nI 1) hx hb dX2_rowsAlikeBut_29 (by decide) ?_
        refine lv_iload_n hx hb dX2_rowsAlikeBut_30 rfl (lv_at hl 3 rfl) ?_
        refine lv_iload hx hb dX2_rowsAlikeBut_31 (lv_at hl 7 rfl) ?_
        refine m_add hx hb dX2_rowsAlikeBut_33 ?_
        refine lv_iload_n hx hb dX2_rowsAlikeBut_34 rfl (lv_at hl 4 rfl) ?_
        refine lv_iload hx hb dX2_rowsAlikeBut_35 (lv_at hl 7 rfl) ?_
        refine m_add hx hb dX2_rowsAlikeBut_37 ?_
        refine lv_iload hx hb dX2_rowsAlikeBut_38 (lv_at hl 0 rfl) ?_
        refine m_wrV (As := [.int (nI v), .int (nI 1), .int (nI (one + k)), .int (nI (other + k)), .int ((nI lf) - (nI (k * 10)))]) (rest := []) (wc := [(o, .inr (2, [.ref oc, .ref q0, .ref ra, .int (nI ll), .int (nI lo), .int (nI lt)])), (q0, .inr (3, [.ref q1, .int (nI m1), .int (nI m2)])), (q1, aN cI 26 mt), (ra, aN cI 400 rc), (oc, .inr (0, [.ref a1, .ref a2, .int (nI nl), .int (nI nv)])), (a1, aN cI 640 g), (a2, aN cI 80 z)]) hcf (k_X2_lineFits (l := l) (D := D) (cI := cI) (cZ := cZ) (v := v) (way := 1) (one := one + k) (other := other + k) (x := (nI lf) - (nI (k * 10))) (o := o) (oc := oc) (q0 := q0) (ra := ra) (ll := ll) (lo := lo) (lt := lt) (q1 := q1) (n1 := m1) (n2 := m2) (pt := mt) (rc := rc) (a1 := a1) (a2 := a2) (nl := nl) (nv := nv) (g := g) (z := z) (L := (rwX 1 z g v one other (fun (kk pq : Nat) => decide (nI pq = nI lf - nI (kk * 10))) k).2) (hnl := hnl) (hnv := hnv) (hz := hz) (hg := hg) (hpm := hpm2) (hw := by omega) (hv := hv) (h1 := by omega) (h2 := by omega)) (cwV 5 hts gX2_rowsAlikeBut_X2_lineFits rfl rfl rfl yd_X2_lineFits ⟨Nat.le_of_ble_eq_true rfl, Nat.le_of_ble_eq_true rfl⟩) hK hP hD hS [0, 1, 2, 3, 4, 5, 6] (by decide) rfl rfl rfl rfl hl.1 rfl (Nat.le_of_ble_eq_true rfl) dX2_rowsAlikeBut_40 ⟨Nat.zero_le _, Nat.zero_le _⟩ (fun _ => rfl) (fun (u : Nat × Nat × (Nat → Nat)) => [(o, .inr (2, [.ref oc, .ref q0, .ref ra, .int (nI ll), .int (nI lo), .int (nI lt)])), (q0, .inr (3, [.ref q1, .int (nI u.1), .int (nI u.2.1)])), (q1, aN cI 26 u.2.2), (ra, aN cI 400 rc), (oc, .inr (0, [.ref a1, .ref a2, .int (nI nl), .int (nI nv)])), (a1, aN cI 640 g), (a2, aN cI 80 z)]) (fun _ => rfl) (fun r u H locs hp_40 hP hD hS => ?_)
        obtain ⟨n1u_40, n2u_40, ptu_40⟩ := u
        have hP : va_P D vwCl [(o, .inr (2, [.ref oc, .ref q0, .ref ra, .int (nI ll), .int (nI lo), .int (nI lt)])), (q0, .inr (3, [.ref q1, .int (nI n1u_40), .int (nI n2u_40)])), (q1, aN cI 26 ptu_40), (ra, aN cI 400 rc), (oc, .inr (0, [.ref a1, .ref a2, .int (nI nl), .int (nI nv)])), (a1, aN cI 640 g), (a2, aN cI 80 z)] H := hP
        have hD : va_D A [(o, .inr (2, [.ref oc, .ref q0, .ref ra, .int (nI ll), .int (nI lo), .int (nI lt)])), (q0, .inr (3, [.ref q1, .int (nI n1u_40), .int (nI n2u_40)])), (q1, aN cI 26 ptu_40), (ra, aN cI 400 rc), (oc, .inr (0, [.ref a1, .ref a2, .int (nI nl), .int (nI nv)])), (a1, aN cI 640 g), (a2, aN cI 80 z)] := hD
        try dsimp only at hp_40
        obtain ⟨hr_hp_40, hp_40⟩ := hp_40
        rw [hr_hp_40]
        refine m_ifB_ne (tgt := 48) hx hb dX2_rowsAlikeBut_43 (by decide) (fun c_43 => ?_) (fun c_43 => ?_)
        · refine lv_iinc (v := nI (k + 1)) (lv' := [(6, .int (nI (k + 1))), (7, .int ((nI lf) - (nI (k * 10)))), (0, .ref o), (1, .int (nI v)), (2, .int (nI one)), (3, .int (nI other)), (4, .int (nI n)), (5, .int (nI lf))]) hx hb dX2_rowsAlikeBut_48 hl (k := 7) rfl ((nI_succ _).symm) (by decide) rfl (fun ls hl => ?_)
          refine lv_goto (tgt := 10) hx hb dX2_rowsAlikeBut_51 (by decide) ?_
          exact ih_10 (k + 1) n1u_40 n2u_40 ptu_40 (by omega) (by omega) (by rw [rwX_s hq]; exact c_43) (by rw [rwX_s hq]; exact hp_40) _ _ hP hD hS ls (lv_sub hl [2, 3, 4, 5, 6, 7, 0] rfl)
        · refine lv_iconst (v := nI 0) hx hb dX2_rowsAlikeBut_46 (by decide) ?_
          rw [hQ]
          have E8 := rwX_s hq
          have E7 : (rwX 1 z g v one other (fun (kk pq : Nat) => decide (nI pq = nI lf - nI (kk * 10))) (k + 1)).1 = false := by rw [E8]; exact c_43
          have E6 : rwX 1 z g v one other (fun (kk pq : Nat) => decide (nI pq = nI lf - nI (kk * 10))) n = rwX 1 z g v one other (fun (kk pq : Nat) => decide (nI pq = nI lf - nI (kk * 10))) (k + 1) := by
            have h9 := rwX_stop E7 (n - (k + 1))
            rwa [show k + 1 + (n - (k + 1)) = n by omega] at h9
          exact m_zwr hx hb hr hlocks (_, _, _) (nI_01 (by omega)) (⟨by rw [E6, E7]; rfl, by rw [E6, E8]; exact hp_40⟩) hP hS dX2_rowsAlikeBut_47
  exact loop_10 (n + 1) 0 0 0 pt (by omega) (by omega) rfl (pmC_nil hpt) _ _ hP hD hS ls (lv_sub hl [1, 2, 3, 4, 5, 6, 0] rfl)

theorem yd_X2_setReach : yX2_setReach.cls = RX2 ∧ yX2_setReach.cls ≠ "java/lang/invoke/MethodHandle" ∧ yX2_setReach.cls ≠ "java/lang/invoke/VarHandle" ∧ (parseMethodDescriptor yX2_setReach.desc).map (fun d => d.parameters.length) = some 3 := by decide +kernel
set_option maxHeartbeats 4000000 in
set_option maxRecDepth 100000 in
theorem k_X2_setReach (l : Launch) (D : va_G) (cI cZ : ClassId) (o q0 q1 ra oc a1 a2 ll lo lt n1 n2 nl nv : Nat) (pt rc z g : Nat → Nat) (one other n : Nat) (hnl : nl ≤ 20) (hnv : nv ≤ 4) (h1 : one < nl) (h2 : other < nl) : Met l yX2_setReach wsX2_setReach ({ frames := 1, cells := 0, slots := 0, locals := 21 }) (mPc [.ref o, .int (nI one), .int (nI other), .int (nI n)] D cI cZ [(o, .inr (2, [.ref oc, .ref q0, .ref ra, .int (nI ll), .int (nI lo), .int (nI lt)])), (q0, .inr (3, [.ref q1, .int (nI n1), .int (nI n2)])), (q1, aN cI 26 pt), (ra, aN cI 400 rc), (oc, .inr (0, [.ref a1, .ref a2, .int (nI nl), .int (nI nv)])), (a1, aN cI 640 g), (a2, aN cI 80 z)]) (mQv D (mA [(o, .inr (2, [.ref oc, .ref q0, .ref ra, .int (nI ll), .int (nI lo), .int (nI lt)])), (q0, .inr (3, [.ref q1, .int (nI n1), .int (nI n2)])), (q1, aN cI 26 pt), (ra, aN cI 400 rc), (oc, .inr (0, [.ref a1, .ref a2, .int (nI nl), .int (nI nv)])), (a1, aN cI 640 g), (a2, aN cI 80 z)]) (fun (u : Unit) => True) (fun (u : Unit) => [(o, .inr (2, [.ref oc, .ref q0, .ref ra, .int (nI ll), .int (nI lo), .int (nI lt)])), (q0, .inr (3, [.ref q1, .int (nI n1), .int (nI n2)])), (q1, aN cI 26 pt), (ra, aN cI 400 (upN rc (one * 20 + other) n)), (oc, .inr (0, [.ref a1, .ref a2, .int (nI nl), .int (nI nv)])), (a1, aN cI 640 g), (a2, aN cI 80 z)])) 0 0 (mA [(o, .inr (2, [.ref oc, .ref q0, .ref ra, .int (nI ll), .int (nI lo), .int (nI lt)])), (q0, .inr (3, [.ref q1, .int (nI n1), .int (nI n2)])), (q1, aN cI 26 pt), (ra, aN cI 400 rc), (oc, .inr (0, [.ref a1, .ref a2, .int (nI nl), .int (nI nv)])), (a1, aN cI 640 g), (a2, aN cI 80 z)]) := by
  refine Met.ofW (cc := cX2_setReach) (maxL := 4) (ret := none) (by decide) rfl ?_
  intro p e s m args below meth c s₁ BB hml hv
  obtain ⟨hargs, hP, hD0, hK⟩ := hv
  have hx := BB.exec
  have hb := BB.bytes
  have hr := BB.returns
  have hts := atoms_spec (ws := wsX2_setReach) BB.pre
  have hown : s.vm.findClass RX2 = some m.cls := findClass_of_methodNamed BB.named
  have hlocks := BB.notSynchronized
  have hcf : CallFix p m c cX2_setReach 4 s args wsX2_setReach RX2 := ⟨hx, hb, hml, hown, hts⟩
  obtain ⟨A, hAe⟩ : ∃ A, A = mA [(o, .inr (2, [.ref oc, .ref q0, .ref ra, .int (nI ll), .int (nI lo), .int (nI lt)])), (q0, .inr (3, [.ref q1, .int (nI n1), .int (nI n2)])), (q1, aN cI 26 pt), (ra, aN cI 400 rc), (oc, .inr (0, [.ref a1, .ref a2, .int (nI nl), .int (nI nv)])), (a1, aN cI 640 g), (a2, aN cI 80 z)] := ⟨_, rfl⟩
  have hD : va_D A [(o, .inr (2, [.ref oc, .ref q0, .ref ra, .int (nI ll), .int (nI lo), .int (nI lt)])), (q0, .inr (3, [.ref q1, .int (nI n1), .int (nI n2)])), (q1, aN cI 26 pt), (ra, aN cI 400 rc), (oc, .inr (0, [.ref a1, .ref a2, .int (nI nl), .int (nI nv)])), (a1, aN cI 640 g), (a2, aN cI 80 z)] := ⟨hD0.1, fun k q h => by rw [hAe]; exact ⟨k, q.2, h⟩⟩
  have hS : va_S A s.heap s.heap [] := va_S.rf
  rw [← hAe]
  rw [hargs, lg_entry_eq, ← hargs]
  have hl := lv_entry ([.ref o, .int (nI one), .int (nI other), .int (nI n)]) (n := 4) (Nat.le_of_ble_eq_true rfl)
  generalize (lg_sl ([.ref o, .int (nI one), .int (nI other), .int (nI n)]) ++ List.replicate (4 - (lg_sl ([.ref o, .int (nI one), .int (nI other), .int (nI n)])).length) Slot.unset).toArray = ls at hl ⊢
  have hl : lv_has ls 4 [(0, .ref o), (1, .int (nI one)), (2, .int (nI other)), (3, .int (nI n))] := hl
  obtain ⟨Q, hQ⟩ : ∃ Q, Q = MQ below (mQv D A (fun (u : Unit) => True) (fun (u : Unit) => [(o, .inr (2, [.ref oc, .ref q0, .ref ra, .int (nI ll), .int (nI lo), .int (nI lt)])), (q0, .inr (3, [.ref q1, .int (nI n1), .int (nI n2)])), (q1, aN cI 26 pt), (ra, aN cI 400 (upN rc (one * 20 + other) n)), (oc, .inr (0, [.ref a1, .ref a2, .int (nI nl), .int (nI nv)])), (a1, aN cI 640 g), (a2, aN cI 80 z)])) args s 0 0 A := ⟨_, rfl⟩
  rw [← hQ]
  have i_X2 : ∀ w ∈ u_ws RX2 TX2 6, w ∈ wsX2_setReach := by decide +kernel
  have f_32 := hts (.fieldLink RX2 32 "SameAgain$Likeness" "code" "LSameAgain$Code;") (by decide +kernel)
  have f_18 := hts (.fieldLink RX2 18 "SameAgain$Likeness" "reach" "[I") (by decide +kernel)
  refine lv_aload_n hx hb dX2_setReach_0 rfl (lv_at hl 0 rfl) ?_
  refine va_get (D := D) (ci := 2) (v := .ref oc) (C := RX2) (T := TX2) (N := 6) hx hb hts i_X2 hown hK.1 hP 0 rfl rfl 0 (by decide) f_32 (fun _ h9 => h9) rfl dX2_setReach_1 ?_
  refine lv_iload_n hx hb dX2_setReach_4 rfl (lv_at hl 1 rfl) ?_
  refine m_rdV (As := [.int (nI one)]) (rest := []) (wc := [(oc, .inr (0, [.ref a1, .ref a2, .int (nI nl), .int (nI nv)])), (a1, aN cI 640 g), (a2, aN cI 80 z)]) hcf (k_X0_hasLine (l := l) (D := D) (cI := cI) (cZ := cZ) (x := nI one) (o := oc) (a1 := a1) (a2 := a2) (nl := nl) (nv := nv) (g := g) (z := z) (hnl := hnl) (hnv := hnv)) (cwV 1 hts gX2_setReach_X0_hasLine rfl rfl rfl yd_X0_hasLine ⟨Nat.le_of_ble_eq_true rfl, Nat.le_of_ble_eq_true rfl⟩) (m_preV hK hP hD [4, 5, 6] (by decide) rfl rfl rfl) rfl hl.1 rfl (Nat.le_of_ble_eq_true rfl) dX2_setReach_5 ⟨Nat.zero_le _, Nat.zero_le _⟩ ?_
  refine m_ifB_eq (tgt := 34) hx hb dX2_setReach_8 (by decide) (fun c_8 => absurd c_8 (fun q => by rw [ixB_nI h1 (by omega)] at q; cases q)) (fun c_8 => ?_)
  refine lv_aload_n hx hb dX2_setReach_11 rfl (lv_at hl 0 rfl) ?_
  refine va_get (D := D) (ci := 2) (v := .ref oc) (C := RX2) (T := TX2) (N := 6) hx hb hts i_X2 hown hK.1 hP 0 rfl rfl 0 (by decide) f_32 (fun _ h9 => h9) rfl dX2_setReach_12 ?_
  refine lv_iload_n hx hb dX2_setReach_15 rfl (lv_at hl 2 rfl) ?_
  refine m_rdV (As := [.int (nI other)]) (rest := []) (wc := [(oc, .inr (0, [.ref a1, .ref a2, .int (nI nl), .int (nI nv)])), (a1, aN cI 640 g), (a2, aN cI 80 z)]) hcf (k_X0_hasLine (l := l) (D := D) (cI := cI) (cZ := cZ) (x := nI other) (o := oc) (a1 := a1) (a2 := a2) (nl := nl) (nv := nv) (g := g) (z := z) (hnl := hnl) (hnv := hnv)) (cwV 1 hts gX2_setReach_X0_hasLine rfl rfl rfl yd_X0_hasLine ⟨Nat.le_of_ble_eq_true rfl, Nat.le_of_ble_eq_true rfl⟩) (m_preV hK hP hD [4, 5, 6] (by decide) rfl rfl rfl) rfl hl.1 rfl (Nat.le_of_ble_eq_true rfl) dX2_setReach_16 ⟨Nat.zero_le _, Nat.zero_le _⟩ ?_
  refine m_ifB_eq (tgt := 34) hx hb dX2_setReach_19 (by decide) (fun c_19 => absurd c_19 (fun q => by rw [ixB_nI h2 (by omega)] at q; cases q)) (fun c_19 => ?_)
  refine lv_aload_n hx hb dX2_setReach_22 rfl (lv_at hl 0 rfl) ?_
  refine va_get (D := D) (ci := 2) (v := .ref ra) (C := RX2) (T := TX2) (N := 6) hx hb hts i_X2 hown hK.1 hP 0 rfl rfl 2 (by decide) f_18 (fun _ h9 => h9) rfl dX2_setReach_23 ?_
  refine lv_iload_n hx hb dX2_setReach_26 rfl (lv_at hl 1 rfl) ?_
  refine lv_bipush (v := nI 20) hx hb dX2_setReach_27 (by decide) ?_
  refine m_mul hx hb dX2_setReach_29 ?_
  refine lv_iload_n hx hb dX2_setReach_30 rfl (lv_at hl 2 rfl) ?_
  refine m_add hx hb dX2_setReach_31 ?_
  refine lv_iload_n hx hb dX2_setReach_32 rfl (lv_at hl 3 rfl) ?_
  refine m_ast hx hb hK hP hD hS 3 rfl (by decide) (by omega) dX2_setReach_33 (ws' := [(o, .inr (2, [.ref oc, .ref q0, .ref ra, .int (nI ll), .int (nI lo), .int (nI lt)])), (q0, .inr (3, [.ref q1, .int (nI n1), .int (nI n2)])), (q1, aN cI 26 pt), (ra, aN cI 400 (upN rc ((one * 20) + other) n)), (oc, .inr (0, [.ref a1, .ref a2, .int (nI nl), .int (nI nv)])), (a1, aN cI 640 g), (a2, aN cI 80 z)]) rfl (fun H locs hP hD hS => ?_)
  rw [hQ]
  exact m_vwr hx hb hr hlocks () (trivial) hP hS dX2_setReach_34

theorem yd_X2_reachOf : yX2_reachOf.cls = RX2 ∧ yX2_reachOf.cls ≠ "java/lang/invoke/MethodHandle" ∧ yX2_reachOf.cls ≠ "java/lang/invoke/VarHandle" ∧ (parseMethodDescriptor yX2_reachOf.desc).map (fun d => d.parameters.length) = some 2 := by decide +kernel
set_option maxHeartbeats 4000000 in
set_option maxRecDepth 100000 in
theorem k_X2_reachOf (l : Launch) (D : va_G) (cI cZ : ClassId) (o q0 q1 ra oc a1 a2 ll lo lt n1 n2 nl nv : Nat) (pt rc z g : Nat → Nat) (one other : Nat) (hnl : nl ≤ 20) (hnv : nv ≤ 4) (h1 : one ≤ 40) (h2 : other ≤ 40) (hrc : ∀ j, rc j ≤ 20) : Met l yX2_reachOf wsX2_reachOf ({ frames := 1, cells := 0, slots := 0, locals := 21 }) (mPc [.ref o, .int (nI one), .int (nI other)] D cI cZ [(o, .inr (2, [.ref oc, .ref q0, .ref ra, .int (nI ll), .int (nI lo), .int (nI lt)])), (q0, .inr (3, [.ref q1, .int (nI n1), .int (nI n2)])), (q1, aN cI 26 pt), (ra, aN cI 400 rc), (oc, .inr (0, [.ref a1, .ref a2, .int (nI nl), .int (nI nv)])), (a1, aN cI 640 g), (a2, aN cI 80 z)]) (QcRead (nI (rcN rc nl one other))) 0 0 (fun _ => False) := by
  refine Met.ofW (cc := cX2_reachOf) (maxL := 3) (ret := (some .int)) (by decide) rfl ?_
  intro p e s m args below meth c s₁ BB hml hv
  obtain ⟨hargs, hP, hD0, hK⟩ := hv
  have hx := BB.exec
  have hb := BB.bytes
  have hr := BB.returns
  have hts := atoms_spec (ws := wsX2_reachOf) BB.pre
  have hown : s.vm.findClass RX2 = some m.cls := findClass_of_methodNamed BB.named
  have hlocks := BB.notSynchronized
  have hcf : CallFix p m c cX2_reachOf 3 s args wsX2_reachOf RX2 := ⟨hx, hb, hml, hown, hts⟩
  have hD := hD0
  rw [hargs, lg_entry_eq, ← hargs]
  have hl := lv_entry ([.ref o, .int (nI one), .int (nI other)]) (n := 3) (Nat.le_of_ble_eq_true rfl)
  generalize (lg_sl ([.ref o, .int (nI one), .int (nI other)]) ++ List.replicate (3 - (lg_sl ([.ref o, .int (nI one), .int (nI other)])).length) Slot.unset).toArray = ls at hl ⊢
  have hl : lv_has ls 3 [(0, .ref o), (1, .int (nI one)), (2, .int (nI other))] := hl
  obtain ⟨Q, hQ⟩ : ∃ Q, Q = MQ below (QcRead (nI (rcN rc nl one other))) args s 0 0 (fun _ => False) := ⟨_, rfl⟩
  rw [← hQ]
  have i_X2 : ∀ w ∈ u_ws RX2 TX2 6, w ∈ wsX2_reachOf := by decide +kernel
  have f_32 := hts (.fieldLink RX2 32 "SameAgain$Likeness" "code" "LSameAgain$Code;") (by decide +kernel)
  have f_18 := hts (.fieldLink RX2 18 "SameAgain$Likeness" "reach" "[I") (by decide +kernel)
  refine lv_aload_n hx hb dX2_reachOf_0 rfl (lv_at hl 0 rfl) ?_
  refine va_get (D := D) (ci := 2) (v := .ref oc) (C := RX2) (T := TX2) (N := 6) hx hb hts i_X2 hown hK.1 hP 0 rfl rfl 0 (by decide) f_32 (fun _ h9 => h9) rfl dX2_reachOf_1 ?_
  refine lv_iload_n hx hb dX2_reachOf_4 rfl (lv_at hl 1 rfl) ?_
  refine m_rdV (As := [.int (nI one)]) (rest := []) (wc := [(oc, .inr (0, [.ref a1, .ref a2, .int (nI nl), .int (nI nv)])), (a1, aN cI 640 g), (a2, aN cI 80 z)]) hcf (k_X0_hasLine (l := l) (D := D) (cI := cI) (cZ := cZ) (x := nI one) (o := oc) (a1 := a1) (a2 := a2) (nl := nl) (nv := nv) (g := g) (z := z) (hnl := hnl) (hnv := hnv)) (cwV 1 hts gX2_reachOf_X0_hasLine rfl rfl rfl yd_X0_hasLine ⟨Nat.le_of_ble_eq_true rfl, Nat.le_of_ble_eq_true rfl⟩) (m_preV hK hP hD [4, 5, 6] (by decide) rfl rfl rfl) rfl hl.1 rfl (Nat.le_of_ble_eq_true rfl) dX2_reachOf_5 ⟨Nat.zero_le _, Nat.zero_le _⟩ ?_
  refine m_top (y := bI (decide (one < nl))) (congrArg bI (ixB_d (by omega))) ?_
  refine m_ifB_eq (tgt := 36) hx hb dX2_reachOf_8 (by decide) (fun c_8 => ?_) (fun c_8 => ?_)
  · have i1 := of_decide_eq_false c_8
    have X9 : ¬ (one < nl ∧ other < nl) := fun q => i1 q.1
    refine lv_iconst (v := nI 0) hx hb dX2_reachOf_36 (by decide) ?_
    rw [hQ]
    exact m_ird hx hb hr hlocks (by unfold rcN; rw [if_neg X9]) dX2_reachOf_37
  · have i1 := of_decide_eq_true c_8
    refine lv_aload_n hx hb dX2_reachOf_11 rfl (lv_at hl 0 rfl) ?_
    refine va_get (D := D) (ci := 2) (v := .ref oc) (C := RX2) (T := TX2) (N := 6) hx hb hts i_X2 hown hK.1 hP 0 rfl rfl 0 (by decide) f_32 (fun _ h9 => h9) rfl dX2_reachOf_12 ?_
    refine lv_iload_n hx hb dX2_reachOf_15 rfl (lv_at hl 2 rfl) ?_
    refine m_rdV (As := [.int (nI other)]) (rest := []) (wc := [(oc, .inr (0, [.ref a1, .ref a2, .int (nI nl), .int (nI nv)])), (a1, aN cI 640 g), (a2, aN cI 80 z)]) hcf (k_X0_hasLine (l := l) (D := D) (cI := cI) (cZ := cZ) (x := nI other) (o := oc) (a1 := a1) (a2 := a2) (nl := nl) (nv := nv) (g := g) (z := z) (hnl := hnl) (hnv := hnv)) (cwV 1 hts gX2_reachOf_X0_hasLine rfl rfl rfl yd_X0_hasLine ⟨Nat.le_of_ble_eq_true rfl, Nat.le_of_ble_eq_true rfl⟩) (m_preV hK hP hD [4, 5, 6] (by decide) rfl rfl rfl) rfl hl.1 rfl (Nat.le_of_ble_eq_true rfl) dX2_reachOf_16 ⟨Nat.zero_le _, Nat.zero_le _⟩ ?_
    refine m_top (y := bI (decide (other < nl))) (congrArg bI (ixB_d (by omega))) ?_
    refine m_ifB_eq (tgt := 36) hx hb dX2_reachOf_19 (by decide) (fun c_19 => ?_) (fun c_19 => ?_)
    · have i2 := of_decide_eq_false c_19
      have X9 : ¬ (one < nl ∧ other < nl) := fun q => i2 q.2
      refine lv_iconst (v := nI 0) hx hb dX2_reachOf_36 (by decide) ?_
      rw [hQ]
      exact m_ird hx hb hr hlocks (by unfold rcN; rw [if_neg X9]) dX2_reachOf_37
    · have i2 := of_decide_eq_true c_19
      refine lv_aload_n hx hb dX2_reachOf_22 rfl (lv_at hl 0 rfl) ?_
      refine va_get (D := D) (ci := 2) (v := .ref ra) (C := RX2) (T := TX2) (N := 6) hx hb hts i_X2 hown hK.1 hP 0 rfl rfl 2 (by decide) f_18 (fun _ h9 => h9) rfl dX2_reachOf_23 ?_
      refine lv_iload_n hx hb dX2_reachOf_26 rfl (lv_at hl 1 rfl) ?_
      refine lv_bipush (v := nI 20) hx hb dX2_reachOf_27 (by decide) ?_
      refine m_mul hx hb dX2_reachOf_29 ?_
      refine lv_iload_n hx hb dX2_reachOf_30 rfl (lv_at hl 2 rfl) ?_
      refine m_add hx hb dX2_reachOf_31 ?_
      refine m_ald hx hb hK hP 3 rfl (by decide) (by omega) dX2_reachOf_32 ?_
      have hv_32 := hrc ((one * 20) + other)
      refine lv_goto (tgt := 37) hx hb dX2_reachOf_33 (by decide) ?_
      rw [hQ]
      exact m_ird hx hb hr hlocks (by unfold rcN; rw [if_pos ⟨i1, i2⟩]) dX2_reachOf_37
