theorem yd_X6_seek : yX6_seek.cls = RX6 ∧ yX6_seek.cls ≠ "java/lang/invoke/MethodHandle" ∧ yX6_seek.cls ≠ "java/lang/invoke/VarHandle" ∧ (parseMethodDescriptor yX6_seek.desc).map (fun d => d.parameters.length) = some 4 := by decide +kernel
set_option maxHeartbeats 4000000 in
set_option maxRecDepth 100000 in
theorem k_X6_seek (l : Launch) (D : va_G) (cI cZ : ClassId) (o6 sp sn : Nat) (o q0 q1 ra oc a1 a2 ll lo lt n1 n2 nl nv : Nat) (pt rc z g : Nat → Nat) (v one other n : Nat) (hnl : nl ≤ 20) (hnv : nv ≤ 4) (hz : ∀ j, z j ≤ 8) (hg : ∀ j, g j ≤ 126) (hpt : ∀ j, pt j ≤ 126) (hv : v < nv) (h1 : one ≤ 20) (h2 : other ≤ 20) (hn : n ≤ 20) : Met l yX6_seek wsX6_seek ({ frames := 6, cells := 0, slots := 0, locals := 147 }) (mPc [.ref o6, .int (nI v), .int (nI one), .int (nI other), .int (nI n)] D cI cZ [(o6, .inr (6, [.ref oc, .ref o, .int (nI sp), .int (nI sn)])), (o, .inr (2, [.ref oc, .ref q0, .ref ra, .int (nI ll), .int (nI lo), .int (nI lt)])), (q0, .inr (3, [.ref q1, .int (nI n1), .int (nI n2)])), (q1, aN cI 26 pt), (ra, aN cI 400 rc), (oc, .inr (0, [.ref a1, .ref a2, .int (nI nl), .int (nI nv)])), (a1, aN cI 640 g), (a2, aN cI 80 z)]) (mQv D (mA [(o6, .inr (6, [.ref oc, .ref o, .int (nI sp), .int (nI sn)])), (o, .inr (2, [.ref oc, .ref q0, .ref ra, .int (nI ll), .int (nI lo), .int (nI lt)])), (q0, .inr (3, [.ref q1, .int (nI n1), .int (nI n2)])), (q1, aN cI 26 pt), (ra, aN cI 400 rc), (oc, .inr (0, [.ref a1, .ref a2, .int (nI nl), .int (nI nv)])), (a1, aN cI 640 g), (a2, aN cI 80 z)]) (fun (u : Nat × Nat × Nat × Nat × (Nat → Nat)) => (∀ j, u.2.2.2.2 j ≤ 126) ∧ u.2.1 ≤ 126 ∧ (¬ (n ≤ adN one other ∧ max one other + n ≤ nl ∧ raB 1 z g v nl one other n = false) → u.2.1 = 0) ∧ ((n ≤ adN one other ∧ max one other + n ≤ nl ∧ raB 1 z g v nl one other n = false) → fgI (fgF z g v one other n) (fun a => z (v * 20 + (other + a))) n 0 u.1 u.2.1)) (fun (u : Nat × Nat × Nat × Nat × (Nat → Nat)) => [(o6, .inr (6, [.ref oc, .ref o, .int (nI u.1), .int (nI u.2.1)])), (o, .inr (2, [.ref oc, .ref q0, .ref ra, .int (nI ll), .int (nI lo), .int (nI lt)])), (q0, .inr (3, [.ref q1, .int (nI u.2.2.1), .int (nI u.2.2.2.1)])), (q1, aN cI 26 u.2.2.2.2), (ra, aN cI 400 rc), (oc, .inr (0, [.ref a1, .ref a2, .int (nI nl), .int (nI nv)])), (a1, aN cI 640 g), (a2, aN cI 80 z)])) 0 0 (mA [(o6, .inr (6, [.ref oc, .ref o, .int (nI sp), .int (nI sn)])), (o, .inr (2, [.ref oc, .ref q0, .ref ra, .int (nI ll), .int (nI lo), .int (nI lt)])), (q0, .inr (3, [.ref q1, .int (nI n1), .int (nI n2)])), (q1, aN cI 26 pt), (ra, aN cI 400 rc), (oc, .inr (0, [.ref a1, .ref a2, .int (nI nl), .int (nI nv)])), (a1, aN cI 640 g), (a2, aN cI 80 z)]) := by
  refine Met.ofW (cc := cX6_seek) (maxL := 10) (ret := none) (by decide) rfl ?_
  intro p e s m args below meth c s₁ BB hml hv
  obtain ⟨hargs, hP, hD0, hK⟩ := hv
  have hx := BB.exec
  have hb := BB.bytes
  have hr := BB.returns
  have hts := atoms_spec (ws := wsX6_seek) BB.pre
  have hown : s.vm.findClass RX6 = some m.cls := findClass_of_methodNamed BB.named
  have hlocks := BB.notSynchronized
  have hcf : CallFix p m c cX6_seek 10 s args wsX6_seek RX6 := ⟨hx, hb, hml, hown, hts⟩
  obtain ⟨A, hAe⟩ : ∃ A, A = mA [(o6, .inr (6, [.ref oc, .ref o, .int (nI sp), .int (nI sn)])), (o, .inr (2, [.ref oc, .ref q0, .ref ra, .int (nI ll), .int (nI lo), .int (nI lt)])), (q0, .inr (3, [.ref q1, .int (nI n1), .int (nI n2)])), (q1, aN cI 26 pt), (ra, aN cI 400 rc), (oc, .inr (0, [.ref a1, .ref a2, .int (nI nl), .int (nI nv)])), (a1, aN cI 640 g), (a2, aN cI 80 z)] := ⟨_, rfl⟩
  have hD : va_D A [(o6, .inr (6, [.ref oc, .ref o, .int (nI sp), .int (nI sn)])), (o, .inr (2, [.ref oc, .ref q0, .ref ra, .int (nI ll), .int (nI lo), .int (nI lt)])), (q0, .inr (3, [.ref q1, .int (nI n1), .int (nI n2)])), (q1, aN cI 26 pt), (ra, aN cI 400 rc), (oc, .inr (0, [.ref a1, .ref a2, .int (nI nl), .int (nI nv)])), (a1, aN cI 640 g), (a2, aN cI 80 z)] := ⟨hD0.1, fun k q h => by rw [hAe]; exact ⟨k, q.2, h⟩⟩
  have hS : va_S A s.heap s.heap [] := va_S.rf
  rw [← hAe]
  rw [hargs, lg_entry_eq, ← hargs]
  have hl := lv_entry ([.ref o6, .int (nI v), .int (nI one), .int (nI other), .int (nI n)]) (n := 10) (Nat.le_of_ble_eq_true rfl)
  generalize (lg_sl ([.ref o6, .int (nI v), .int (nI one), .int (nI other), .int (nI n)]) ++ List.replicate (10 - (lg_sl ([.ref o6, .int (nI v), .int (nI one), .int (nI other), .int (nI n)])).length) Slot.unset).toArray = ls at hl ⊢
  have hl : lv_has ls 10 [(0, .ref o6), (1, .int (nI v)), (2, .int (nI one)), (3, .int (nI other)), (4, .int (nI n))] := hl
  obtain ⟨Q, hQ⟩ : ∃ Q, Q = MQ below (mQv D A (fun (u : Nat × Nat × Nat × Nat × (Nat → Nat)) => (∀ j, u.2.2.2.2 j ≤ 126) ∧ u.2.1 ≤ 126 ∧ (¬ (n ≤ adN one other ∧ max one other + n ≤ nl ∧ raB 1 z g v nl one other n = false) → u.2.1 = 0) ∧ ((n ≤ adN one other ∧ max one other + n ≤ nl ∧ raB 1 z g v nl one other n = false) → fgI (fgF z g v one other n) (fun a => z (v * 20 + (other + a))) n 0 u.1 u.2.1)) (fun (u : Nat × Nat × Nat × Nat × (Nat → Nat)) => [(o6, .inr (6, [.ref oc, .ref o, .int (nI u.1), .int (nI u.2.1)])), (o, .inr (2, [.ref oc, .ref q0, .ref ra, .int (nI ll), .int (nI lo), .int (nI lt)])), (q0, .inr (3, [.ref q1, .int (nI u.2.2.1), .int (nI u.2.2.2.1)])), (q1, aN cI 26 u.2.2.2.2), (ra, aN cI 400 rc), (oc, .inr (0, [.ref a1, .ref a2, .int (nI nl), .int (nI nv)])), (a1, aN cI 640 g), (a2, aN cI 80 z)])) args s 0 0 A := ⟨_, rfl⟩
  rw [← hQ]
  have i_X6 : ∀ w ∈ u_ws RX6 TX6 4, w ∈ wsX6_seek := by decide +kernel
  have f_15 := hts (.fieldLink RX6 15 "SameAgain$Slip" "name" "I") (by decide +kernel)
  have l_26 := hts (.methodLink RX6 26 Lib.Math.abs.name) (by decide +kernel)
  have ls_abs := hts (.static Lib.Math.abs.name) (by decide +kernel)
  have l_math := hts (.initialized "java/lang/Math") (by decide +kernel)
  have lc_abs := hts (.code Lib.Math.abs.name Lib.Math.abs.code 1 (some .int)) (by decide +kernel)
  have f_22 := hts (.fieldLink RX6 22 "SameAgain$Slip" "likeness" "LSameAgain$Likeness;") (by decide +kernel)
  have f_18 := hts (.fieldLink RX6 18 "SameAgain$Slip" "code" "LSameAgain$Code;") (by decide +kernel)
  have f_9 := hts (.fieldLink RX6 9 "SameAgain$Slip" "place" "I") (by decide +kernel)
  have mn_52 := hK.2.2 ("SameAgain$Slip", 52, ⟨"SameAgain", "isName", "(I)Z"⟩, "SameAgain") (by decide +kernel)
  have in_X7 := hts (.initialized RX7) (by decide +kernel)
  have st_X7_isName := hts (.static yX7_isName) (by decide +kernel)
  have fn_59 := va_Nw.use (A := args) rfl (hK.2.1 ("SameAgain$Slip", 59, "SameAgain$Likeness", "pairing", "LSameAgain$Pairing;", "SameAgain") (by decide +kernel))
  have i_X2 : ∀ w ∈ u_ws RX2 TX2 6, w ∈ wsX6_seek := by decide +kernel
  have had : adN one other ≤ 40 := by unfold adN; split <;> omega
  refine lv_aload_n hx hb dX6_seek_0 rfl (lv_at hl 0 rfl) ?_
  refine lv_iconst (v := nI 0) hx hb dX6_seek_1 (by decide) ?_
  refine va_put (D := D) (ci := 6) (v := .int (nI 0)) (ty := .int) (C := RX6) (T := TX6) (N := 4) hx hb hts i_X6 tyX6 tyX6_ok nmX6 hown hK.1 hP hD hS 0 rfl rfl 3 (by decide) f_15 (fun _ h9 => h9) rfl (by decide +kernel) rfl rfl (Nat.le_of_ble_eq_true rfl) dX6_seek_2 (fun H locs hP hD hS => ?_)
  have hP : va_P D vwCl [(o6, .inr (6, [.ref oc, .ref o, .int (nI sp), .int (nI 0)])), (o, .inr (2, [.ref oc, .ref q0, .ref ra, .int (nI ll), .int (nI lo), .int (nI lt)])), (q0, .inr (3, [.ref q1, .int (nI n1), .int (nI n2)])), (q1, aN cI 26 pt), (ra, aN cI 400 rc), (oc, .inr (0, [.ref a1, .ref a2, .int (nI nl), .int (nI nv)])), (a1, aN cI 640 g), (a2, aN cI 80 z)] H := hP
  have hD : va_D A [(o6, .inr (6, [.ref oc, .ref o, .int (nI sp), .int (nI 0)])), (o, .inr (2, [.ref oc, .ref q0, .ref ra, .int (nI ll), .int (nI lo), .int (nI lt)])), (q0, .inr (3, [.ref q1, .int (nI n1), .int (nI n2)])), (q1, aN cI 26 pt), (ra, aN cI 400 rc), (oc, .inr (0, [.ref a1, .ref a2, .int (nI nl), .int (nI nv)])), (a1, aN cI 640 g), (a2, aN cI 80 z)] := hD
  refine lv_iload_n hx hb dX6_seek_5 rfl (lv_at hl 2 rfl) ?_
  refine lv_iload_n hx hb dX6_seek_6 rfl (lv_at hl 3 rfl) ?_
  refine lv_isub hx hb dX6_seek_7 ?_
  refine va_mabs hx hb (hml.trans hl.1.symm) hown l_26 ls_abs l_math lc_abs (Nat.le_of_ble_eq_true rfl) (Nat.le_of_ble_eq_true rfl) (Nat.zero_le _) (Nat.zero_le _) dX6_seek_8 ?_
  refine m_top (y := nI (adN one other)) (abs_nI (by omega) (by omega)) ?_
  refine lv_iload hx hb dX6_seek_11 (lv_at hl 4 rfl) ?_
  refine m_cmp_lt (tgt := 30) hx hb dX6_seek_13 (by decide) (by omega) (by omega) (fun c_13 => ?_) (fun c_13 => ?_)
  · rw [hQ]
    exact m_vwr hx hb hr hlocks (sp, 0, n1, n2, pt) (⟨hpt, Nat.zero_le _, fun _ => rfl, fun h => absurd h (by omega)⟩) hP hS dX6_seek_30
  · refine lv_aload_n hx hb dX6_seek_16 rfl (lv_at hl 0 rfl) ?_
    refine va_get (D := D) (ci := 6) (v := .ref o) (C := RX6) (T := TX6) (N := 4) hx hb hts i_X6 hown hK.1 hP 0 rfl rfl 1 (by decide) f_22 (fun _ h9 => h9) rfl dX6_seek_17 ?_
    refine lv_iload_n hx hb dX6_seek_20 rfl (lv_at hl 2 rfl) ?_
    refine lv_iload_n hx hb dX6_seek_21 rfl (lv_at hl 3 rfl) ?_
    refine lv_iload hx hb dX6_seek_22 (lv_at hl 4 rfl) ?_
    refine m_rdV (As := [.int (nI one), .int (nI other), .int (nI n)]) (rest := []) (wc := [(o, .inr (2, [.ref oc, .ref q0, .ref ra, .int (nI ll), .int (nI lo), .int (nI lt)])), (q0, .inr (3, [.ref q1, .int (nI n1), .int (nI n2)])), (q1, aN cI 26 pt), (ra, aN cI 400 rc), (oc, .inr (0, [.ref a1, .ref a2, .int (nI nl), .int (nI nv)])), (a1, aN cI 640 g), (a2, aN cI 80 z)]) hcf (k_X2_areThere (l := l) (D := D) (cI := cI) (cZ := cZ) (one := one) (other := other) (n := n) (o := o) (oc := oc) (q0 := q0) (ra := ra) (ll := ll) (lo := lo) (lt := lt) (q1 := q1) (n1 := n1) (n2 := n2) (pt := pt) (rc := rc) (a1 := a1) (a2 := a2) (nl := nl) (nv := nv) (g := g) (z := z) (hnl := hnl) (h1 := by omega) (h2 := by omega) (hn := by omega)) (cwV 3 hts gX6_seek_X2_areThere rfl rfl rfl yd_X2_areThere ⟨Nat.le_of_ble_eq_true rfl, Nat.le_of_ble_eq_true rfl⟩) (m_preV hK hP hD [1, 2, 3, 4, 5, 6, 7] (by decide) rfl rfl rfl) rfl hl.1 rfl (Nat.le_of_ble_eq_true rfl) dX6_seek_24 ⟨Nat.zero_le _, Nat.zero_le _⟩ ?_
    refine m_ifB_ne (tgt := 31) hx hb dX6_seek_27 (by decide) (fun c_27 => ?_) (fun c_27 => ?_)
    · have i27 := of_decide_eq_true c_27
      refine lv_aload_n hx hb dX6_seek_31 rfl (lv_at hl 0 rfl) ?_
      refine va_get (D := D) (ci := 6) (v := .ref o) (C := RX6) (T := TX6) (N := 4) hx hb hts i_X6 hown hK.1 hP 0 rfl rfl 1 (by decide) f_22 (fun _ h9 => h9) rfl dX6_seek_32 ?_
      refine lv_iload_n hx hb dX6_seek_35 rfl (lv_at hl 1 rfl) ?_
      refine lv_iconst (v := nI 1) hx hb dX6_seek_36 (by decide) ?_
      refine lv_iload_n hx hb dX6_seek_37 rfl (lv_at hl 2 rfl) ?_
      refine lv_iload_n hx hb dX6_seek_38 rfl (lv_at hl 3 rfl) ?_
      refine lv_iload hx hb dX6_seek_39 (lv_at hl 4 rfl) ?_
      refine m_wrV (As := [.int (nI v), .int (nI 1), .int (nI one), .int (nI other), .int (nI n)]) (rest := []) (wc := [(o, .inr (2, [.ref oc, .ref q0, .ref ra, .int (nI ll), .int (nI lo), .int (nI lt)])), (q0, .inr (3, [.ref q1, .int (nI n1), .int (nI n2)])), (q1, aN cI 26 pt), (ra, aN cI 400 rc), (oc, .inr (0, [.ref a1, .ref a2, .int (nI nl), .int (nI nv)])), (a1, aN cI 640 g), (a2, aN cI 80 z)]) hcf (k_X2_rowsAlike (l := l) (D := D) (cI := cI) (cZ := cZ) (v := v) (way := 1) (one := one) (other := other) (n := n) (o := o) (oc := oc) (q0 := q0) (ra := ra) (ll := ll) (lo := lo) (lt := lt) (q1 := q1) (n1 := n1) (n2 := n2) (pt := pt) (rc := rc) (a1 := a1) (a2 := a2) (nl := nl) (nv := nv) (g := g) (z := z) (hnl := hnl) (hnv := hnv) (hz := hz) (hg := hg) (hpt := hpt) (hw := by omega) (hv := hv) (h1 := h1) (h2 := h2) (hn := hn)) (cwV 5 hts gX6_seek_X2_rowsAlike rfl rfl rfl yd_X2_rowsAlike ⟨Nat.le_of_ble_eq_true rfl, Nat.le_of_ble_eq_true rfl⟩) hK hP hD hS [1, 2, 3, 4, 5, 6, 7] (by decide) rfl rfl rfl rfl hl.1 rfl (Nat.le_of_ble_eq_true rfl) dX6_seek_41 ⟨Nat.zero_le _, Nat.zero_le _⟩ (fun _ => rfl) (fun (u : Nat × Nat × (Nat → Nat)) => [(o6, .inr (6, [.ref oc, .ref o, .int (nI sp), .int (nI 0)])), (o, .inr (2, [.ref oc, .ref q0, .ref ra, .int (nI ll), .int (nI lo), .int (nI lt)])), (q0, .inr (3, [.ref q1, .int (nI u.1), .int (nI u.2.1)])), (q1, aN cI 26 u.2.2), (ra, aN cI 400 rc), (oc, .inr (0, [.ref a1, .ref a2, .int (nI nl), .int (nI nv)])), (a1, aN cI 640 g), (a2, aN cI 80 z)]) (fun _ => rfl) (fun r u H locs hp_41 hP hD hS => ?_)
      obtain ⟨n1u_41, n2u_41, ptu_41⟩ := u
      have hP : va_P D vwCl [(o6, .inr (6, [.ref oc, .ref o, .int (nI sp), .int (nI 0)])), (o, .inr (2, [.ref oc, .ref q0, .ref ra, .int (nI ll), .int (nI lo), .int (nI lt)])), (q0, .inr (3, [.ref q1, .int (nI n1u_41), .int (nI n2u_41)])), (q1, aN cI 26 ptu_41), (ra, aN cI 400 rc), (oc, .inr (0, [.ref a1, .ref a2, .int (nI nl), .int (nI nv)])), (a1, aN cI 640 g), (a2, aN cI 80 z)] H := hP
      have hD : va_D A [(o6, .inr (6, [.ref oc, .ref o, .int (nI sp), .int (nI 0)])), (o, .inr (2, [.ref oc, .ref q0, .ref ra, .int (nI ll), .int (nI lo), .int (nI lt)])), (q0, .inr (3, [.ref q1, .int (nI n1u_41), .int (nI n2u_41)])), (q1, aN cI 26 ptu_41), (ra, aN cI 400 rc), (oc, .inr (0, [.ref a1, .ref a2, .int (nI nl), .int (nI nv)])), (a1, aN cI 640 g), (a2, aN cI 80 z)] := hD
      try dsimp only at hp_41
      obtain ⟨hr_hp_41, hp_41⟩ := hp_41
      rw [hr_hp_41]
      refine m_ifB_eq (tgt := 48) hx hb dX6_seek_44 (by decide) (fun c_44 => ?_) (fun c_44 => ?_)
      · refine lv_iconst (v := nI 0) hx hb dX6_seek_48 (by decide) ?_
        refine lv_istore (lv' := [(5, .int (nI 0)), (0, .ref o6), (1, .int (nI v)), (2, .int (nI one)), (3, .int (nI other)), (4, .int (nI n))]) hx hb dX6_seek_49 hl (by decide) rfl (fun ls hl => ?_)
        have loop_51 : ∀ (fu : Nat) (k pl nm m1 m2 : Nat) (mt : Nat → Nat) (hfu : n - k < fu)  (hk : k ≤ n) (hmt : ∀ j, mt j ≤ 126) (hnm : nm ≤ 126) (hI : fgI (fgF z g v one other n) (fun a => z (v * 20 + (other + a))) k 0 pl nm) (H : Heap) (locs : List Loc) (hP : va_P D vwCl [(o6, .inr (6, [.ref oc, .ref o, .int (nI pl), .int (nI nm)])), (o, .inr (2, [.ref oc, .ref q0, .ref ra, .int (nI ll), .int (nI lo), .int (nI lt)])), (q0, .inr (3, [.ref q1, .int (nI m1), .int (nI m2)])), (q1, aN cI 26 mt), (ra, aN cI 400 rc), (oc, .inr (0, [.ref a1, .ref a2, .int (nI nl), .int (nI nv)])), (a1, aN cI 640 g), (a2, aN cI 80 z)] H) (hD : va_D A [(o6, .inr (6, [.ref oc, .ref o, .int (nI pl), .int (nI nm)])), (o, .inr (2, [.ref oc, .ref q0, .ref ra, .int (nI ll), .int (nI lo), .int (nI lt)])), (q0, .inr (3, [.ref q1, .int (nI m1), .int (nI m2)])), (q1, aN cI 26 mt), (ra, aN cI 400 rc), (oc, .inr (0, [.ref a1, .ref a2, .int (nI nl), .int (nI nv)])), (a1, aN cI 640 g), (a2, aN cI 80 z)]) (hS : va_S A s.heap H locs) (ls : Array Slot) (hl : lv_has ls 10 [(0, .ref o6), (1, .int (nI v)), (2, .int (nI one)), (3, .int (nI other)), (4, .int (nI n)), (5, .int (nI k))]), W p l e (headSpec wsX6_seek { frames := 6, cells := 0, slots := 0, locals := 147 }).room s m args below meth c H locs 0 0 Q (F0 m 51 ls []) := by
          intro fu
          induction fu with
          | zero => intro k pl nm m1 m2 mt hfu; exact absurd hfu (Nat.not_lt_zero _)
          | succ fu ih_51 =>
            intro k pl nm m1 m2 mt hfu hk hmt hnm hI H locs hP hD hS ls hl
            refine lv_iload hx hb dX6_seek_51 (lv_at hl 5 rfl) ?_
            refine lv_iload hx hb dX6_seek_53 (lv_at hl 4 rfl) ?_
            refine m_cmp_ge (tgt := 203) hx hb dX6_seek_55 (by decide) (by omega) (by omega) (fun c_55 => ?_) (fun c_55 => ?_)
            · rw [hQ]
              exact m_vwr hx hb hr hlocks (pl, nm, m1, m2, mt) (⟨hmt, hnm, fun h => absurd ⟨c_13, i27, c_44⟩ h, fun _ => fgI_end hI hk (by first | exact Or.inl c_55 | exact Or.inr c_62)⟩) hP hS dX6_seek_203
            · refine lv_aload_n hx hb dX6_seek_58 rfl (lv_at hl 0 rfl) ?_
              refine va_get (D := D) (ci := 6) (v := .int (nI nm)) (C := RX6) (T := TX6) (N := 4) hx hb hts i_X6 hown hK.1 hP 0 rfl rfl 3 (by decide) f_15 (fun _ h9 => h9) rfl dX6_seek_59 ?_
              refine m_if_ne (tgt := 203) hx hb dX6_seek_62 (by decide) (by omega) (fun c_62 => ?_) (fun c_62 => ?_)
              · rw [hQ]
                exact m_vwr hx hb hr hlocks (pl, nm, m1, m2, mt) (⟨hmt, hnm, fun h => absurd ⟨c_13, i27, c_44⟩ h, fun _ => fgI_end hI hk (by first | exact Or.inl c_55 | exact Or.inr c_62)⟩) hP hS dX6_seek_203
              · refine lv_aload_n hx hb dX6_seek_65 rfl (lv_at hl 0 rfl) ?_
                refine va_get (D := D) (ci := 6) (v := .ref oc) (C := RX6) (T := TX6) (N := 4) hx hb hts i_X6 hown hK.1 hP 0 rfl rfl 0 (by decide) f_18 (fun _ h9 => h9) rfl dX6_seek_66 ?_
                refine lv_iload_n hx hb dX6_seek_69 rfl (lv_at hl 1 rfl) ?_
                refine lv_iload_n hx hb dX6_seek_70 rfl (lv_at hl 3 rfl) ?_
                refine lv_iload hx hb dX6_seek_71 (lv_at hl 5 rfl) ?_
                refine m_add hx hb dX6_seek_73 ?_
                refine m_rdV (As := [.int (nI v), .int (nI (other + k))]) (rest := []) (wc := [(oc, .inr (0, [.ref a1, .ref a2, .int (nI nl), .int (nI nv)])), (a1, aN cI 640 g), (a2, aN cI 80 z)]) hcf (k_X0_sizeOf (l := l) (D := D) (cI := cI) (cZ := cZ) (v := v) (ln := other + k) (o := oc) (a1 := a1) (a2 := a2) (nl := nl) (nv := nv) (g := g) (z := z) (hnl := hnl) (hnv := hnv) (hv := hv) (hln := by omega)) (cwV 2 hts gX6_seek_X0_sizeOf rfl rfl rfl yd_X0_sizeOf ⟨Nat.le_of_ble_eq_true rfl, Nat.le_of_ble_eq_true rfl⟩) (m_preV hK hP hD [5, 6, 7] (by decide) rfl rfl rfl) rfl hl.1 rfl (Nat.le_of_ble_eq_true rfl) dX6_seek_74 ⟨Nat.zero_le _, Nat.zero_le _⟩ ?_
                refine lv_istore (lv' := [(6, .int (nI (z (v * 20 + (other + k))))), (0, .ref o6), (1, .int (nI v)), (2, .int (nI one)), (3, .int (nI other)), (4, .int (nI n)), (5, .int (nI k))]) hx hb dX6_seek_77 hl (by decide) rfl (fun ls hl => ?_)
                refine lv_iconst (v := nI 0) hx hb dX6_seek_79 (by decide) ?_
                refine lv_istore (lv' := [(7, .int (nI 0)), (6, .int (nI (z (v * 20 + (other + k))))), (0, .ref o6), (1, .int (nI v)), (2, .int (nI one)), (3, .int (nI other)), (4, .int (nI n)), (5, .int (nI k))]) hx hb dX6_seek_80 hl (by decide) rfl (fun ls hl => ?_)
                have loop_82 : ∀ (fu : Nat) (i pl2 nm2 k1 k2 : Nat) (kt : Nat → Nat) (hfu : z (v * 20 + (other + k)) - i < fu)  (hi : i ≤ z (v * 20 + (other + k))) (hkt : ∀ j, kt j ≤ 126) (hnm2 : nm2 ≤ 126) (hJ : fgI (fgF z g v one other n) (fun a => z (v * 20 + (other + a))) k i pl2 nm2) (H : Heap) (locs : List Loc) (hP : va_P D vwCl [(o6, .inr (6, [.ref oc, .ref o, .int (nI pl2), .int (nI nm2)])), (o, .inr (2, [.ref oc, .ref q0, .ref ra, .int (nI ll), .int (nI lo), .int (nI lt)])), (q0, .inr (3, [.ref q1, .int (nI k1), .int (nI k2)])), (q1, aN cI 26 kt), (ra, aN cI 400 rc), (oc, .inr (0, [.ref a1, .ref a2, .int (nI nl), .int (nI nv)])), (a1, aN cI 640 g), (a2, aN cI 80 z)] H) (hD : va_D A [(o6, .inr (6, [.ref oc, .ref o, .int (nI pl2), .int (nI nm2)])), (o, .inr (2, [.ref oc, .ref q0, .ref ra, .int (nI ll), .int (nI lo), .int (nI lt)])), (q0, .inr (3, [.ref q1, .int (nI k1), .int (nI k2)])), (q1, aN cI 26 kt), (ra, aN cI 400 rc), (oc, .inr (0, [.ref a1, .ref a2, .int (nI nl), .int (nI nv)])), (a1, aN cI 640 g), (a2, aN cI 80 z)]) (hS : va_S A s.heap H locs) (ls : Array Slot) (hl : lv_has ls 10 [(0, .ref o6), (1, .int (nI v)), (2, .int (nI one)), (3, .int (nI other)), (4, .int (nI n)), (5, .int (nI k)), (6, .int (nI (z (v * 20 + (other + k))))), (7, .int (nI i))]), W p l e (headSpec wsX6_seek { frames := 6, cells := 0, slots := 0, locals := 147 }).room s m args below meth c H locs 0 0 Q (F0 m 82 ls []) := by
                  intro fu
                  induction fu with
                  | zero => intro i pl2 nm2 k1 k2 kt hfu; exact absurd hfu (Nat.not_lt_zero _)
                  | succ fu ih_82 =>
                    intro i pl2 nm2 k1 k2 kt hfu hi hkt hnm2 hJ H locs hP hD hS ls hl
                    have hz9 := hz (v * 20 + (other + k))
                    refine lv_iload hx hb dX6_seek_82 (lv_at hl 7 rfl) ?_
                    refine lv_iload hx hb dX6_seek_84 (lv_at hl 6 rfl) ?_
                    refine m_cmp_ge (tgt := 197) hx hb dX6_seek_86 (by decide) (by omega) (by omega) (fun c_86 => ?_) (fun c_86 => ?_)
                    · refine lv_iinc (v := nI (k + 1)) (lv' := [(5, .int (nI (k + 1))), (0, .ref o6), (1, .int (nI v)), (2, .int (nI one)), (3, .int (nI other)), (4, .int (nI n)), (6, .int (nI (z (v * 20 + (other + k))))), (7, .int (nI i))]) hx hb dX6_seek_197 hl (k := 5) rfl ((nI_succ _).symm) (by decide) rfl (fun ls hl => ?_)
                      refine lv_goto (tgt := 51) hx hb dX6_seek_200 (by decide) ?_
                      exact ih_51 (k + 1) _ _ _ _ _ (by omega) (by omega) hkt hnm2 (fgI_row hJ (by first | exact Or.inl c_86 | exact Or.inr c_93)) _ _ hP hD hS ls (lv_sub hl [1, 2, 3, 4, 5, 0] rfl)
                    · refine lv_aload_n hx hb dX6_seek_89 rfl (lv_at hl 0 rfl) ?_
                      refine va_get (D := D) (ci := 6) (v := .int (nI nm2)) (C := RX6) (T := TX6) (N := 4) hx hb hts i_X6 hown hK.1 hP 0 rfl rfl 3 (by decide) f_15 (fun _ h9 => h9) rfl dX6_seek_90 ?_
                      refine m_if_ne (tgt := 197) hx hb dX6_seek_93 (by decide) (by omega) (fun c_93 => ?_) (fun c_93 => ?_)
                      · refine lv_iinc (v := nI (k + 1)) (lv' := [(5, .int (nI (k + 1))), (0, .ref o6), (1, .int (nI v)), (2, .int (nI one)), (3, .int (nI other)), (4, .int (nI n)), (6, .int (nI (z (v * 20 + (other + k))))), (7, .int (nI i))]) hx hb dX6_seek_197 hl (k := 5) rfl ((nI_succ _).symm) (by decide) rfl (fun ls hl => ?_)
                        refine lv_goto (tgt := 51) hx hb dX6_seek_200 (by decide) ?_
                        exact ih_51 (k + 1) _ _ _ _ _ (by omega) (by omega) hkt hnm2 (fgI_row hJ (by first | exact Or.inl c_86 | exact Or.inr c_93)) _ _ hP hD hS ls (lv_sub hl [1, 2, 3, 4, 5, 0] rfl)
                      · have hJ2 := hJ
                        rw [c_93] at hJ2
                        refine lv_aload_n hx hb dX6_seek_96 rfl (lv_at hl 0 rfl) ?_
                        refine va_get (D := D) (ci := 6) (v := .ref oc) (C := RX6) (T := TX6) (N := 4) hx hb hts i_X6 hown hK.1 hP 0 rfl rfl 0 (by decide) f_18 (fun _ h9 => h9) rfl dX6_seek_97 ?_
                        refine lv_iload_n hx hb dX6_seek_100 rfl (lv_at hl 1 rfl) ?_
                        refine lv_iload_n hx hb dX6_seek_101 rfl (lv_at hl 2 rfl) ?_
                        refine lv_iload hx hb dX6_seek_102 (lv_at hl 5 rfl) ?_
                        refine m_add hx hb dX6_seek_104 ?_
                        refine lv_iload hx hb dX6_seek_105 (lv_at hl 7 rfl) ?_
                        refine m_rdV (As := [.int (nI v), .int (nI (one + k)), .int (nI i)]) (rest := []) (wc := [(oc, .inr (0, [.ref a1, .ref a2, .int (nI nl), .int (nI nv)])), (a1, aN cI 640 g), (a2, aN cI 80 z)]) hcf (k_X0_signAt (l := l) (D := D) (cI := cI) (cZ := cZ) (v := v) (ln := one + k) (k := i) (o := oc) (a1 := a1) (a2 := a2) (nl := nl) (nv := nv) (g := g) (z := z) (hnl := hnl) (hnv := hnv) (hz := hz) (hg := hg) (hv := hv) (hln := by omega) (hk := by omega)) (cwV 3 hts gX6_seek_X0_signAt rfl rfl rfl yd_X0_signAt ⟨Nat.le_of_ble_eq_true rfl, Nat.le_of_ble_eq_true rfl⟩) (m_preV hK hP hD [5, 6, 7] (by decide) rfl rfl rfl) rfl hl.1 rfl (Nat.le_of_ble_eq_true rfl) dX6_seek_107 ⟨Nat.zero_le _, Nat.zero_le _⟩ ?_
                        refine lv_istore (lv' := [(8, .int (nI (sgN z g (v * 20 + (one + k)) i))), (0, .ref o6), (1, .int (nI v)), (2, .int (nI one)), (3, .int (nI other)), (4, .int (nI n)), (5, .int (nI k)), (6, .int (nI (z (v * 20 + (other + k))))), (7, .int (nI i))]) hx hb dX6_seek_110 hl (by decide) rfl (fun ls hl => ?_)
                        refine lv_aload_n hx hb dX6_seek_112 rfl (lv_at hl 1 rfl) ?_
                        refine va_get (D := D) (ci := 6) (v := .ref oc) (C := RX6) (T := TX6) (N := 4) hx hb hts i_X6 hown hK.1 hP 0 rfl rfl 0 (by decide) f_18 (fun _ h9 => h9) rfl dX6_seek_113 ?_
                        refine lv_iload_n hx hb dX6_seek_116 rfl (lv_at hl 2 rfl) ?_
                        refine lv_iload_n hx hb dX6_seek_117 rfl (lv_at hl 4 rfl) ?_
                        refine lv_iload hx hb dX6_seek_118 (lv_at hl 6 rfl) ?_
                        refine m_add hx hb dX6_seek_120 ?_
                        refine lv_iload hx hb dX6_seek_121 (lv_at hl 8 rfl) ?_
                        refine m_rdV (As := [.int (nI v), .int (nI (other + k)), .int (nI i)]) (rest := []) (wc := [(oc, .inr (0, [.ref a1, .ref a2, .int (nI nl), .int (nI nv)])), (a1, aN cI 640 g), (a2, aN cI 80 z)]) hcf (k_X0_signAt (l := l) (D := D) (cI := cI) (cZ := cZ) (v := v) (ln := other + k) (k := i) (o := oc) (a1 := a1) (a2 := a2) (nl := nl) (nv := nv) (g := g) (z := z) (hnl := hnl) (hnv := hnv) (hz := hz) (hg := hg) (hv := hv) (hln := by omega) (hk := by omega)) (cwV 3 hts gX6_seek_X0_signAt rfl rfl rfl yd_X0_signAt ⟨Nat.le_of_ble_eq_true rfl, Nat.le_of_ble_eq_true rfl⟩) (m_preV hK hP hD [5, 6, 7] (by decide) rfl rfl rfl) rfl hl.1 rfl (Nat.le_of_ble_eq_true rfl) dX6_seek_123 ⟨Nat.zero_le _, Nat.zero_le _⟩ ?_
                        refine lv_istore (lv' := [(9, .int (nI (sgN z g (v * 20 + (other + k)) i))), (8, .int (nI (sgN z g (v * 20 + (one + k)) i))), (0, .ref o6), (1, .int (nI v)), (2, .int (nI one)), (3, .int (nI other)), (4, .int (nI n)), (5, .int (nI k)), (6, .int (nI (z (v * 20 + (other + k))))), (7, .int (nI i))]) hx hb dX6_seek_126 hl (by decide) rfl (fun ls hl => ?_)
                        refine lv_aload_n hx hb dX6_seek_128 rfl (lv_at hl 2 rfl) ?_
                        refine lv_iload hx hb dX6_seek_129 (lv_at hl 7 rfl) ?_
                        refine lv_bipush (v := nI 10) hx hb dX6_seek_131 (by decide) ?_
                        refine m_mul hx hb dX6_seek_133 ?_
                        refine lv_iload hx hb dX6_seek_134 (lv_at hl 9 rfl) ?_
                        refine m_add hx hb dX6_seek_136 ?_
                        refine va_put (D := D) (ci := 6) (v := .int (nI ((k * 10) + i))) (ty := .int) (C := RX6) (T := TX6) (N := 4) hx hb hts i_X6 tyX6 tyX6_ok nmX6 hown hK.1 hP hD hS 0 rfl rfl 2 (by decide) f_9 (fun _ h9 => h9) rfl (by decide +kernel) rfl rfl (Nat.le_of_ble_eq_true rfl) dX6_seek_137 (fun H locs hP hD hS => ?_)
                        have hP : va_P D vwCl [(o6, .inr (6, [.ref oc, .ref o, .int (nI ((k * 10) + i)), .int (nI nm2)])), (o, .inr (2, [.ref oc, .ref q0, .ref ra, .int (nI ll), .int (nI lo), .int (nI lt)])), (q0, .inr (3, [.ref q1, .int (nI k1), .int (nI k2)])), (q1, aN cI 26 kt), (ra, aN cI 400 rc), (oc, .inr (0, [.ref a1, .ref a2, .int (nI nl), .int (nI nv)])), (a1, aN cI 640 g), (a2, aN cI 80 z)] H := hP
                        have hD : va_D A [(o6, .inr (6, [.ref oc, .ref o, .int (nI ((k * 10) + i)), .int (nI nm2)])), (o, .inr (2, [.ref oc, .ref q0, .ref ra, .int (nI ll), .int (nI lo), .int (nI lt)])), (q0, .inr (3, [.ref q1, .int (nI k1), .int (nI k2)])), (q1, aN cI 26 kt), (ra, aN cI 400 rc), (oc, .inr (0, [.ref a1, .ref a2, .int (nI nl), .int (nI nv)])), (a1, aN cI 640 g), (a2, aN cI 80 z)] := hD
                        refine lv_iload hx hb dX6_seek_140 (lv_at hl 1 rfl) ?_
                        refine m_rdSN (As := [.int (nI (sgN z g (v * 20 + (one + k)) i))]) (rest := []) (wc := []) hcf (k_X7_isName (l := l) (D := D) (cI := cI) (cZ := cZ) (a := sgN z g (v * 20 + (one + k)) i) (ha := Nat.lt_of_le_of_lt (sgN_le hg _ _) (by decide))) ⟨va_cnB 1 hts gX6_seek_X7_isName_n52 rfl rfl rfl mn_52 in_X7 yd_X7_isName.2 ⟨Nat.le_of_ble_eq_true rfl, Nat.le_of_ble_eq_true rfl⟩, st_X7_isName, trivial⟩ (m_preS hK hP hD [] (by decide) rfl) rfl hl.1 rfl (Nat.le_of_ble_eq_true rfl) dX6_seek_142 ⟨Nat.zero_le _, Nat.zero_le _⟩ ?_
                        refine m_ifB_eq (tgt := 191) hx hb dX6_seek_145 (by decide) (fun c_145 => ?_) (fun c_145 => ?_)
                        · refine lv_iinc (v := nI (i + 1)) (lv' := [(7, .int (nI (i + 1))), (9, .int (nI (sgN z g (v * 20 + (other + k)) i))), (8, .int (nI (sgN z g (v * 20 + (one + k)) i))), (0, .ref o6), (1, .int (nI v)), (2, .int (nI one)), (3, .int (nI other)), (4, .int (nI n)), (5, .int (nI k)), (6, .int (nI (z (v * 20 + (other + k)))))]) hx hb dX6_seek_191 hl (k := 9) rfl ((nI_succ _).symm) (by decide) rfl (fun ls hl => ?_)
                          refine lv_goto (tgt := 82) hx hb dX6_seek_194 (by decide) ?_
                          have E9 := fgI_s hJ2 c_86
                          rw [fgF_f (by first | exact Or.inl c_145 | exact Or.inr (Or.inl c_153))] at E9
                          exact ih_82 (i + 1) _ _ _ _ _ (by omega) (by omega) hkt hnm2 (by rw [c_93]; exact E9) _ _ hP hD hS ls (lv_sub hl [3, 4, 5, 6, 7, 8, 9, 0] rfl)
                        · refine lv_iload hx hb dX6_seek_148 (lv_at hl 0 rfl) ?_
                          refine m_rdSN (As := [.int (nI (sgN z g (v * 20 + (other + k)) i))]) (rest := []) (wc := []) hcf (k_X7_isName (l := l) (D := D) (cI := cI) (cZ := cZ) (a := sgN z g (v * 20 + (other + k)) i) (ha := Nat.lt_of_le_of_lt (sgN_le hg _ _) (by decide))) ⟨va_cnB 1 hts gX6_seek_X7_isName_n52 rfl rfl rfl mn_52 in_X7 yd_X7_isName.2 ⟨Nat.le_of_ble_eq_true rfl, Nat.le_of_ble_eq_true rfl⟩, st_X7_isName, trivial⟩ (m_preS hK hP hD [] (by decide) rfl) rfl hl.1 rfl (Nat.le_of_ble_eq_true rfl) dX6_seek_150 ⟨Nat.zero_le _, Nat.zero_le _⟩ ?_
                          refine m_ifB_eq (tgt := 191) hx hb dX6_seek_153 (by decide) (fun c_153 => ?_) (fun c_153 => ?_)
                          · refine lv_iinc (v := nI (i + 1)) (lv' := [(7, .int (nI (i + 1))), (9, .int (nI (sgN z g (v * 20 + (other + k)) i))), (8, .int (nI (sgN z g (v * 20 + (one + k)) i))), (0, .ref o6), (1, .int (nI v)), (2, .int (nI one)), (3, .int (nI other)), (4, .int (nI n)), (5, .int (nI k)), (6, .int (nI (z (v * 20 + (other + k)))))]) hx hb dX6_seek_191 hl (k := 9) rfl ((nI_succ _).symm) (by decide) rfl (fun ls hl => ?_)
                            refine lv_goto (tgt := 82) hx hb dX6_seek_194 (by decide) ?_
                            have E9 := fgI_s hJ2 c_86
                            rw [fgF_f (by first | exact Or.inl c_145 | exact Or.inr (Or.inl c_153))] at E9
                            exact ih_82 (i + 1) _ _ _ _ _ (by omega) (by omega) hkt hnm2 (by rw [c_93]; exact E9) _ _ hP hD hS ls (lv_sub hl [3, 4, 5, 6, 7, 8, 9, 0] rfl)
                          · refine lv_aload_n hx hb dX6_seek_156 rfl (lv_at hl 2 rfl) ?_
                            refine va_get (D := D) (ci := 6) (v := .ref o) (C := RX6) (T := TX6) (N := 4) hx hb hts i_X6 hown hK.1 hP 0 rfl rfl 1 (by decide) f_22 (fun _ h9 => h9) rfl dX6_seek_157 ?_
                            refine lv_iload_n hx hb dX6_seek_160 rfl (lv_at hl 3 rfl) ?_
                            refine lv_iload_n hx hb dX6_seek_161 rfl (lv_at hl 4 rfl) ?_
                            refine lv_iload_n hx hb dX6_seek_162 rfl (lv_at hl 5 rfl) ?_
                            refine lv_iload hx hb dX6_seek_163 (lv_at hl 6 rfl) ?_
                            refine lv_aload_n hx hb dX6_seek_165 rfl (lv_at hl 2 rfl) ?_
                            refine va_get (D := D) (ci := 6) (v := .int (nI ((k * 10) + i))) (C := RX6) (T := TX6) (N := 4) hx hb hts i_X6 hown hK.1 hP 0 rfl rfl 2 (by decide) f_9 (fun _ h9 => h9) rfl dX6_seek_166 ?_
                            refine m_wrV (As := [.int (nI v), .int (nI one), .int (nI other), .int (nI n), .int (nI ((k * 10) + i))]) (rest := []) (wc := [(o, .inr (2, [.ref oc, .ref q0, .ref ra, .int (nI ll), .int (nI lo), .int (nI lt)])), (q0, .inr (3, [.ref q1, .int (nI k1), .int (nI k2)])), (q1, aN cI 26 kt), (ra, aN cI 400 rc), (oc, .inr (0, [.ref a1, .ref a2, .int (nI nl), .int (nI nv)])), (a1, aN cI 640 g), (a2, aN cI 80 z)]) hcf (k_X2_rowsAlikeBut (l := l) (D := D) (cI := cI) (cZ := cZ) (v := v) (one := one) (other := other) (n := n) (lf := (k * 10) + i) (o := o) (oc := oc) (q0 := q0) (ra := ra) (ll := ll) (lo := lo) (lt := lt) (q1 := q1) (n1 := k1) (n2 := k2) (pt := kt) (rc := rc) (a1 := a1) (a2 := a2) (nl := nl) (nv := nv) (g := g) (z := z) (hnl := hnl) (hnv := hnv) (hz := hz) (hg := hg) (hpt := hkt) (hv := hv) (h1 := by omega) (h2 := by omega)) (cwV 5 hts gX6_seek_X2_rowsAlikeBut rfl rfl rfl yd_X2_rowsAlikeBut ⟨Nat.le_of_ble_eq_true rfl, Nat.le_of_ble_eq_true rfl⟩) hK hP hD hS [1, 2, 3, 4, 5, 6, 7] (by decide) rfl rfl rfl rfl hl.1 rfl (Nat.le_of_ble_eq_true rfl) dX6_seek_169 ⟨Nat.zero_le _, Nat.zero_le _⟩ (fun _ => rfl) (fun (u : Nat × Nat × (Nat → Nat)) => [(o6, .inr (6, [.ref oc, .ref o, .int (nI ((k * 10) + i)), .int (nI nm2)])), (o, .inr (2, [.ref oc, .ref q0, .ref ra, .int (nI ll), .int (nI lo), .int (nI lt)])), (q0, .inr (3, [.ref q1, .int (nI u.1), .int (nI u.2.1)])), (q1, aN cI 26 u.2.2), (ra, aN cI 400 rc), (oc, .inr (0, [.ref a1, .ref a2, .int (nI nl), .int (nI nv)])), (a1, aN cI 640 g), (a2, aN cI 80 z)]) (fun _ => rfl) (fun r u H locs hp_169 hP hD hS => ?_)
                            obtain ⟨n1u_169, n2u_169, ptu_169⟩ := u
                            have hP : va_P D vwCl [(o6, .inr (6, [.ref oc, .ref o, .int (nI ((k * 10) + i)), .int (nI nm2)])), (o, .inr (2, [.ref oc, .ref q0, .ref ra, .int (nI ll), .int (nI lo), .int (nI lt)])), (q0, .inr (3, [.ref q1, .int (nI n1u_169), .int (nI n2u_169)])), (q1, aN cI 26 ptu_169), (ra, aN cI 400 rc), (oc, .inr (0, [.ref a1, .ref a2, .int (nI nl), .int (nI nv)])), (a1, aN cI 640 g), (a2, aN cI 80 z)] H := hP
                            have hD : va_D A [(o6, .inr (6, [.ref oc, .ref o, .int (nI ((k * 10) + i)), .int (nI nm2)])), (o, .inr (2, [.ref oc, .ref q0, .ref ra, .int (nI ll), .int (nI lo), .int (nI lt)])), (q0, .inr (3, [.ref q1, .int (nI n1u_169), .int (nI n2u_169)])), (q1, aN cI 26 ptu_169), (ra, aN cI 400 rc), (oc, .inr (0, [.ref a1, .ref a2, .int (nI nl), .int (nI nv)])), (a1, aN cI 640 g), (a2, aN cI 80 z)] := hD
                            try dsimp only at hp_169
                            obtain ⟨hr_hp_169, hp_169⟩ := hp_169
                            rw [hr_hp_169]
                            refine m_ifB_eq (tgt := 191) hx hb dX6_seek_172 (by decide) (fun c_172 => ?_) (fun c_172 => ?_)
                            · refine lv_iinc (v := nI (i + 1)) (lv' := [(7, .int (nI (i + 1))), (9, .int (nI (sgN z g (v * 20 + (other + k)) i))), (8, .int (nI (sgN z g (v * 20 + (one + k)) i))), (0, .ref o6), (1, .int (nI v)), (2, .int (nI one)), (3, .int (nI other)), (4, .int (nI n)), (5, .int (nI k)), (6, .int (nI (z (v * 20 + (other + k)))))]) hx hb dX6_seek_191 hl (k := 9) rfl ((nI_succ _).symm) (by decide) rfl (fun ls hl => ?_)
                              refine lv_goto (tgt := 82) hx hb dX6_seek_194 (by decide) ?_
                              have E9 := fgI_s hJ2 c_86
                              rw [fgF_f (Or.inr (Or.inr c_172))] at E9
                              exact ih_82 (i + 1) _ _ _ _ _ (by omega) (by omega) hp_169.2.2.2.2.2.2 hnm2 (by rw [c_93]; exact E9) _ _ hP hD hS ls (lv_sub hl [3, 4, 5, 6, 7, 8, 9, 0] rfl)
                            · refine lv_aload_n hx hb dX6_seek_175 rfl (lv_at hl 2 rfl) ?_
                              refine lv_aload_n hx hb dX6_seek_176 rfl (lv_at hl 2 rfl) ?_
                              refine va_get (D := D) (ci := 6) (v := .ref o) (C := RX6) (T := TX6) (N := 4) hx hb hts i_X6 hown hK.1 hP 0 rfl rfl 1 (by decide) f_22 (fun _ h9 => h9) rfl dX6_seek_177 ?_
                              refine va_getN (D := D) (ci := 2) (v := .ref q0) (C := RX2) (T := TX2) (N := 6) hx hb hts i_X2 hown hK.1 hP 1 rfl rfl 1 (by decide) fn_59 (fun _ h9 => h9) rfl dX6_seek_180 ?_
                              refine lv_iload hx hb dX6_seek_183 (lv_at hl 1 rfl) ?_
                              refine m_rdV (As := [.int (nI (sgN z g (v * 20 + (one + k)) i))]) (rest := [.ref o6]) (wc := [(q0, .inr (3, [.ref q1, .int (nI n1u_169), .int (nI n2u_169)])), (q1, aN cI 26 ptu_169)]) hcf (k_X3_firstNameThatFits (l := l) (D := D) (cI := cI) (cZ := cZ) (a := sgN z g (v * 20 + (one + k)) i) (o := q0) (q1 := q1) (n1 := n1u_169) (n2 := n2u_169) (pt := ptu_169) (L := (rwX 1 z g v one other (fun (kk pq : Nat) => decide (nI pq = nI (k * 10 + i) - nI (kk * 10))) n).2) (hpm := hp_169) (ha := sgN_le hg _ _) (hna := c_145)) (cwV 1 hts gX6_seek_X3_firstNameThatFits rfl rfl rfl yd_X3_firstNameThatFits ⟨Nat.le_of_ble_eq_true rfl, Nat.le_of_ble_eq_true rfl⟩) (m_preV hK hP hD [2, 3] (by decide) rfl rfl rfl) rfl hl.1 rfl (Nat.le_of_ble_eq_true rfl) dX6_seek_185 ⟨Nat.zero_le _, Nat.zero_le _⟩ ?_
                              refine va_put (D := D) (ci := 6) (v := .int (nI (ffN ((rwX 1 z g v one other (fun (kk pq : Nat) => decide (nI pq = nI (k * 10 + i) - nI (kk * 10))) n).2) (sgN z g (v * 20 + (one + k)) i)))) (ty := .int) (C := RX6) (T := TX6) (N := 4) hx hb hts i_X6 tyX6 tyX6_ok nmX6 hown hK.1 hP hD hS 0 rfl rfl 3 (by decide) f_15 (fun _ h9 => h9) rfl (by decide +kernel) rfl rfl (Nat.le_of_ble_eq_true rfl) dX6_seek_188 (fun H locs hP hD hS => ?_)
                              have hP : va_P D vwCl [(o6, .inr (6, [.ref oc, .ref o, .int (nI ((k * 10) + i)), .int (nI (ffN ((rwX 1 z g v one other (fun (kk pq : Nat) => decide (nI pq = nI (k * 10 + i) - nI (kk * 10))) n).2) (sgN z g (v * 20 + (one + k)) i)))])), (o, .inr (2, [.ref oc, .ref q0, .ref ra, .int (nI ll), .int (nI lo), .int (nI lt)])), (q0, .inr (3, [.ref q1, .int (nI n1u_169), .int (nI n2u_169)])), (q1, aN cI 26 ptu_169), (ra, aN cI 400 rc), (oc, .inr (0, [.ref a1, .ref a2, .int (nI nl), .int (nI nv)])), (a1, aN cI 640 g), (a2, aN cI 80 z)] H := hP
                              have hD : va_D A [(o6, .inr (6, [.ref oc, .ref o, .int (nI ((k * 10) + i)), .int (nI (ffN ((rwX 1 z g v one other (fun (kk pq : Nat) => decide (nI pq = nI (k * 10 + i) - nI (kk * 10))) n).2) (sgN z g (v * 20 + (one + k)) i)))])), (o, .inr (2, [.ref oc, .ref q0, .ref ra, .int (nI ll), .int (nI lo), .int (nI lt)])), (q0, .inr (3, [.ref q1, .int (nI n1u_169), .int (nI n2u_169)])), (q1, aN cI 26 ptu_169), (ra, aN cI 400 rc), (oc, .inr (0, [.ref a1, .ref a2, .int (nI nl), .int (nI nv)])), (a1, aN cI 640 g), (a2, aN cI 80 z)] := hD
                              refine lv_iinc (v := nI (i + 1)) (lv' := [(7, .int (nI (i + 1))), (9, .int (nI (sgN z g (v * 20 + (other + k)) i))), (8, .int (nI (sgN z g (v * 20 + (one + k)) i))), (0, .ref o6), (1, .int (nI v)), (2, .int (nI one)), (3, .int (nI other)), (4, .int (nI n)), (5, .int (nI k)), (6, .int (nI (z (v * 20 + (other + k)))))]) hx hb dX6_seek_191 hl (k := 9) rfl ((nI_succ _).symm) (by decide) rfl (fun ls hl => ?_)
                              refine lv_goto (tgt := 82) hx hb dX6_seek_194 (by decide) ?_
                              have E9 := fgI_s hJ2 c_86
                              rw [fgF_t c_145 c_153 c_172] at E9
                              exact ih_82 (i + 1) _ _ _ _ _ (by omega) (by omega) hp_169.2.2.2.2.2.2 (ffN_le hp_169 _) E9 _ _ hP hD hS ls (lv_sub hl [3, 4, 5, 6, 7, 8, 9, 0] rfl)
                have hz9 := hz (v * 20 + (other + k))
                exact loop_82 (z (v * 20 + (other + k)) + 1) 0 pl nm m1 m2 mt (by omega) (by omega) hmt hnm hI _ _ hP hD hS ls (lv_sub hl [2, 3, 4, 5, 6, 7, 1, 0] rfl)
        exact loop_51 (n + 1) 0 sp 0 _ _ _ (by omega) (by omega) hp_41.1 (by omega) (fgI_0 _ _ _) _ _ hP hD hS ls (lv_sub hl [1, 2, 3, 4, 5, 0] rfl)
      · rw [hQ]
        exact m_vwr hx hb hr hlocks (sp, 0, n1u_41, n2u_41, ptu_41) (⟨hp_41.1, Nat.zero_le _, fun _ => rfl, fun h => absurd h.2.2 (by rw [c_44]; decide)⟩) hP hS dX6_seek_47
    · have i27 := of_decide_eq_false c_27
      rw [hQ]
      exact m_vwr hx hb hr hlocks (sp, 0, n1, n2, pt) (⟨hpt, Nat.zero_le _, fun _ => rfl, fun h => absurd h (by omega)⟩) hP hS dX6_seek_30

theorem yd_X1_swapCost : yX1_swapCost.cls = RX1 ∧ yX1_swapCost.cls ≠ "java/lang/invoke/MethodHandle" ∧ yX1_swapCost.cls ≠ "java/lang/invoke/VarHandle" ∧ (parseMethodDescriptor yX1_swapCost.desc).map (fun d => d.parameters.length) = some 2 := by decide +kernel
set_option maxHeartbeats 4000000 in
set_option maxRecDepth 100000 in
theorem k_X1_swapCost (l : Launch) (D : va_G) (cI cZ : ClassId) (a b : Nat) (ha : a ≤ 126) (hb2 : b ≤ 126) : Met l yX1_swapCost wsX1_swapCost ({ frames := 1, cells := 0, slots := 0, locals := 20 }) (mPc [.int (nI a), .int (nI b)] D cI cZ []) (QcRead (nI (scN a b))) 0 0 (fun _ => False) := by
  refine Met.ofW (cc := cX1_swapCost) (maxL := 3) (ret := (some .int)) (by decide) rfl ?_
  intro p e s m args below meth c s₁ BB hml hv
  obtain ⟨hargs, hP, hD0, hK⟩ := hv
  have hx := BB.exec
  have hb := BB.bytes
  have hr := BB.returns
  have hts := atoms_spec (ws := wsX1_swapCost) BB.pre
  have hown : s.vm.findClass RX1 = some m.cls := findClass_of_methodNamed BB.named
  have hlocks := BB.notSynchronized
  have hcf : CallFix p m c cX1_swapCost 3 s args wsX1_swapCost RX1 := ⟨hx, hb, hml, hown, hts⟩
  have hD := hD0
  rw [hargs, lg_entry_eq, ← hargs]
  have hl := lv_entry ([.int (nI a), .int (nI b)]) (n := 3) (Nat.le_of_ble_eq_true rfl)
  generalize (lg_sl ([.int (nI a), .int (nI b)]) ++ List.replicate (3 - (lg_sl ([.int (nI a), .int (nI b)])).length) Slot.unset).toArray = ls at hl ⊢
  have hl : lv_has ls 3 [(0, .int (nI a)), (1, .int (nI b))] := hl
  obtain ⟨Q, hQ⟩ : ∃ Q, Q = MQ below (QcRead (nI (scN a b))) args s 0 0 (fun _ => False) := ⟨_, rfl⟩
  rw [← hQ]
  have mn_37 := hK.2.2 ("SameAgain$Distance", 37, ⟨"SameAgain", "isName", "(I)Z"⟩, "SameAgain") (by decide +kernel)
  have in_X7 := hts (.initialized RX7) (by decide +kernel)
  have st_X7_isName := hts (.static yX7_isName) (by decide +kernel)
  have mn_41 := hK.2.2 ("SameAgain$Distance", 41, ⟨"SameAgain", "isNumber", "(I)Z"⟩, "SameAgain") (by decide +kernel)
  have st_X7_isNumber := hts (.static yX7_isNumber) (by decide +kernel)
  refine lv_iload_n hx hb dX1_swapCost_0 rfl (lv_at hl 0 rfl) ?_
  refine lv_iload_n hx hb dX1_swapCost_1 rfl (lv_at hl 1 rfl) ?_
  refine m_cmp_ne (tgt := 7) hx hb dX1_swapCost_2 (by decide) (by omega) (by omega) (fun c_2 => ?_) (fun c_2 => ?_)
  · refine lv_iload_n hx hb dX1_swapCost_7 rfl (lv_at hl 0 rfl) ?_
    refine m_rdSN (As := [.int (nI a)]) (rest := []) (wc := []) hcf (k_X7_isName (l := l) (D := D) (cI := cI) (cZ := cZ) (a := a) (ha := by omega)) ⟨va_cnB 1 hts gX1_swapCost_X7_isName_n37 rfl rfl rfl mn_37 in_X7 yd_X7_isName.2 ⟨Nat.le_of_ble_eq_true rfl, Nat.le_of_ble_eq_true rfl⟩, st_X7_isName, trivial⟩ (m_preS hK hP hD [] (by decide) rfl) rfl hl.1 rfl (Nat.le_of_ble_eq_true rfl) dX1_swapCost_8 ⟨Nat.zero_le _, Nat.zero_le _⟩ ?_
    refine m_ifB_eq (tgt := 21) hx hb dX1_swapCost_11 (by decide) (fun c_11 => ?_) (fun c_11 => ?_)
    · refine lv_iload_n hx hb dX1_swapCost_21 rfl (lv_at hl 0 rfl) ?_
      refine m_rdSN (As := [.int (nI a)]) (rest := []) (wc := []) hcf (k_X7_isNumber (l := l) (D := D) (cI := cI) (cZ := cZ) (a := a) (ha := by omega)) ⟨va_cnB 1 hts gX1_swapCost_X7_isNumber_n41 rfl rfl rfl mn_41 in_X7 yd_X7_isNumber.2 ⟨Nat.le_of_ble_eq_true rfl, Nat.le_of_ble_eq_true rfl⟩, st_X7_isNumber, trivial⟩ (m_preS hK hP hD [] (by decide) rfl) rfl hl.1 rfl (Nat.le_of_ble_eq_true rfl) dX1_swapCost_22 ⟨Nat.zero_le _, Nat.zero_le _⟩ ?_
      refine m_ifB_eq (tgt := 39) hx hb dX1_swapCost_25 (by decide) (fun c_25 => ?_) (fun c_25 => ?_)
      · have K9 : ¬ (nmB a && nmB b || nuB a && nuB b) = true := by first | (simp [c_11, c_25]; done) | (simp [c_18, c_25]; done)
        refine lv_iconst (v := nI 0) hx hb dX1_swapCost_39 (by decide) ?_
        refine lv_istore_n (lv' := [(2, .int (nI 0)), (0, .int (nI a)), (1, .int (nI b))]) hx hb dX1_swapCost_40 rfl hl (by decide) rfl (fun ls hl => ?_)
        refine lv_iload_n hx hb dX1_swapCost_41 rfl (lv_at hl 0 rfl) ?_
        refine m_if_eq (tgt := 49) hx hb dX1_swapCost_42 (by decide) (by omega) (fun c_42 => ?_) (fun c_42 => ?_)
        · refine lv_iconst (v := nI 3) hx hb dX1_swapCost_49 (by decide) ?_
          rw [hQ]
          exact m_ird hx hb hr hlocks (by unfold scN; rw [if_neg c_2, if_neg K9]) dX1_swapCost_50
        · exact absurd c_42 (by decide)
      · refine lv_iload_n hx hb dX1_swapCost_28 rfl (lv_at hl 1 rfl) ?_
        refine m_rdSN (As := [.int (nI b)]) (rest := []) (wc := []) hcf (k_X7_isNumber (l := l) (D := D) (cI := cI) (cZ := cZ) (a := b) (ha := by omega)) ⟨va_cnB 1 hts gX1_swapCost_X7_isNumber_n41 rfl rfl rfl mn_41 in_X7 yd_X7_isNumber.2 ⟨Nat.le_of_ble_eq_true rfl, Nat.le_of_ble_eq_true rfl⟩, st_X7_isNumber, trivial⟩ (m_preS hK hP hD [] (by decide) rfl) rfl hl.1 rfl (Nat.le_of_ble_eq_true rfl) dX1_swapCost_29 ⟨Nat.zero_le _, Nat.zero_le _⟩ ?_
        refine m_ifB_eq (tgt := 39) hx hb dX1_swapCost_32 (by decide) (fun c_32 => ?_) (fun c_32 => ?_)
        · have K9 : ¬ (nmB a && nmB b || nuB a && nuB b) = true := by first | (simp [c_11, c_32]; done) | (simp [c_18, c_32]; done)
          refine lv_iconst (v := nI 0) hx hb dX1_swapCost_39 (by decide) ?_
          refine lv_istore_n (lv' := [(2, .int (nI 0)), (0, .int (nI a)), (1, .int (nI b))]) hx hb dX1_swapCost_40 rfl hl (by decide) rfl (fun ls hl => ?_)
          refine lv_iload_n hx hb dX1_swapCost_41 rfl (lv_at hl 0 rfl) ?_
          refine m_if_eq (tgt := 49) hx hb dX1_swapCost_42 (by decide) (by omega) (fun c_42 => ?_) (fun c_42 => ?_)
          · refine lv_iconst (v := nI 3) hx hb dX1_swapCost_49 (by decide) ?_
            rw [hQ]
            exact m_ird hx hb hr hlocks (by unfold scN; rw [if_neg c_2, if_neg K9]) dX1_swapCost_50
          · exact absurd c_42 (by decide)
        · have K9 : (nmB a && nmB b || nuB a && nuB b) = true := by rw [c_25, c_32]; simp
          refine lv_iconst (v := nI 1) hx hb dX1_swapCost_35 (by decide) ?_
          refine lv_goto (tgt := 40) hx hb dX1_swapCost_36 (by decide) ?_
          refine lv_istore_n (lv' := [(2, .int (nI 1)), (0, .int (nI a)), (1, .int (nI b))]) hx hb dX1_swapCost_40 rfl hl (by decide) rfl (fun ls hl => ?_)
          refine lv_iload_n hx hb dX1_swapCost_41 rfl (lv_at hl 0 rfl) ?_
          refine m_if_eq (tgt := 49) hx hb dX1_swapCost_42 (by decide) (by omega) (fun c_42 => ?_) (fun c_42 => ?_)
          · exact absurd c_42 (by decide)
          · refine lv_iconst (v := nI 1) hx hb dX1_swapCost_45 (by decide) ?_
            refine lv_goto (tgt := 50) hx hb dX1_swapCost_46 (by decide) ?_
            rw [hQ]
            exact m_ird hx hb hr hlocks (by unfold scN; rw [if_neg c_2, if_pos K9]) dX1_swapCost_50
    · refine lv_iload_n hx hb dX1_swapCost_14 rfl (lv_at hl 1 rfl) ?_
      refine m_rdSN (As := [.int (nI b)]) (rest := []) (wc := []) hcf (k_X7_isName (l := l) (D := D) (cI := cI) (cZ := cZ) (a := b) (ha := by omega)) ⟨va_cnB 1 hts gX1_swapCost_X7_isName_n37 rfl rfl rfl mn_37 in_X7 yd_X7_isName.2 ⟨Nat.le_of_ble_eq_true rfl, Nat.le_of_ble_eq_true rfl⟩, st_X7_isName, trivial⟩ (m_preS hK hP hD [] (by decide) rfl) rfl hl.1 rfl (Nat.le_of_ble_eq_true rfl) dX1_swapCost_15 ⟨Nat.zero_le _, Nat.zero_le _⟩ ?_
      refine m_ifB_ne (tgt := 35) hx hb dX1_swapCost_18 (by decide) (fun c_18 => ?_) (fun c_18 => ?_)
      · have K9 : (nmB a && nmB b || nuB a && nuB b) = true := by rw [c_11, c_18]; rfl
        refine lv_iconst (v := nI 1) hx hb dX1_swapCost_35 (by decide) ?_
        refine lv_goto (tgt := 40) hx hb dX1_swapCost_36 (by decide) ?_
        refine lv_istore_n (lv' := [(2, .int (nI 1)), (0, .int (nI a)), (1, .int (nI b))]) hx hb dX1_swapCost_40 rfl hl (by decide) rfl (fun ls hl => ?_)
        refine lv_iload_n hx hb dX1_swapCost_41 rfl (lv_at hl 0 rfl) ?_
        refine m_if_eq (tgt := 49) hx hb dX1_swapCost_42 (by decide) (by omega) (fun c_42 => ?_) (fun c_42 => ?_)
        · exact absurd c_42 (by decide)
        · refine lv_iconst (v := nI 1) hx hb dX1_swapCost_45 (by decide) ?_
          refine lv_goto (tgt := 50) hx hb dX1_swapCost_46 (by decide) ?_
          rw [hQ]
          exact m_ird hx hb hr hlocks (by unfold scN; rw [if_neg c_2, if_pos K9]) dX1_swapCost_50
      · refine lv_iload_n hx hb dX1_swapCost_21 rfl (lv_at hl 0 rfl) ?_
        refine m_rdSN (As := [.int (nI a)]) (rest := []) (wc := []) hcf (k_X7_isNumber (l := l) (D := D) (cI := cI) (cZ := cZ) (a := a) (ha := by omega)) ⟨va_cnB 1 hts gX1_swapCost_X7_isNumber_n41 rfl rfl rfl mn_41 in_X7 yd_X7_isNumber.2 ⟨Nat.le_of_ble_eq_true rfl, Nat.le_of_ble_eq_true rfl⟩, st_X7_isNumber, trivial⟩ (m_preS hK hP hD [] (by decide) rfl) rfl hl.1 rfl (Nat.le_of_ble_eq_true rfl) dX1_swapCost_22 ⟨Nat.zero_le _, Nat.zero_le _⟩ ?_
        refine m_ifB_eq (tgt := 39) hx hb dX1_swapCost_25 (by decide) (fun c_25 => ?_) (fun c_25 => ?_)
        · have K9 : ¬ (nmB a && nmB b || nuB a && nuB b) = true := by first | (simp [c_11, c_25]; done) | (simp [c_18, c_25]; done)
          refine lv_iconst (v := nI 0) hx hb dX1_swapCost_39 (by decide) ?_
          refine lv_istore_n (lv' := [(2, .int (nI 0)), (0, .int (nI a)), (1, .int (nI b))]) hx hb dX1_swapCost_40 rfl hl (by decide) rfl (fun ls hl => ?_)
          refine lv_iload_n hx hb dX1_swapCost_41 rfl (lv_at hl 0 rfl) ?_
          refine m_if_eq (tgt := 49) hx hb dX1_swapCost_42 (by decide) (by omega) (fun c_42 => ?_) (fun c_42 => ?_)
          · refine lv_iconst (v := nI 3) hx hb dX1_swapCost_49 (by decide) ?_
            rw [hQ]
            exact m_ird hx hb hr hlocks (by unfold scN; rw [if_neg c_2, if_neg K9]) dX1_swapCost_50
          · exact absurd c_42 (by decide)
        · refine lv_iload_n hx hb dX1_swapCost_28 rfl (lv_at hl 1 rfl) ?_
          refine m_rdSN (As := [.int (nI b)]) (rest := []) (wc := []) hcf (k_X7_isNumber (l := l) (D := D) (cI := cI) (cZ := cZ) (a := b) (ha := by omega)) ⟨va_cnB 1 hts gX1_swapCost_X7_isNumber_n41 rfl rfl rfl mn_41 in_X7 yd_X7_isNumber.2 ⟨Nat.le_of_ble_eq_true rfl, Nat.le_of_ble_eq_true rfl⟩, st_X7_isNumber, trivial⟩ (m_preS hK hP hD [] (by decide) rfl) rfl hl.1 rfl (Nat.le_of_ble_eq_true rfl) dX1_swapCost_29 ⟨Nat.zero_le _, Nat.zero_le _⟩ ?_
          refine m_ifB_eq (tgt := 39) hx hb dX1_swapCost_32 (by decide) (fun c_32 => ?_) (fun c_32 => ?_)
          · have K9 : ¬ (nmB a && nmB b || nuB a && nuB b) = true := by first | (simp [c_11, c_32]; done) | (simp [c_18, c_32]; done)
            refine lv_iconst (v := nI 0) hx hb dX1_swapCost_39 (by decide) ?_
            refine lv_istore_n (lv' := [(2, .int (nI 0)), (0, .int (nI a)), (1, .int (nI b))]) hx hb dX1_swapCost_40 rfl hl (by decide) rfl (fun ls hl => ?_)
            refine lv_iload_n hx hb dX1_swapCost_41 rfl (lv_at hl 0 rfl) ?_
            refine m_if_eq (tgt := 49) hx hb dX1_swapCost_42 (by decide) (by omega) (fun c_42 => ?_) (fun c_42 => ?_)
            · refine lv_iconst (v := nI 3) hx hb dX1_swapCost_49 (by decide) ?_
              rw [hQ]
              exact m_ird hx hb hr hlocks (by unfold scN; rw [if_neg c_2, if_neg K9]) dX1_swapCost_50
            · exact absurd c_42 (by decide)
          · have K9 : (nmB a && nmB b || nuB a && nuB b) = true := by rw [c_25, c_32]; simp
            refine lv_iconst (v := nI 1) hx hb dX1_swapCost_35 (by decide) ?_
            refine lv_goto (tgt := 40) hx hb dX1_swapCost_36 (by decide) ?_
            refine lv_istore_n (lv' := [(2, .int (nI 1)), (0, .int (nI a)), (1, .int (nI b))]) hx hb dX1_swapCost_40 rfl hl (by decide) rfl (fun ls hl => ?_)
            refine lv_iload_n hx hb dX1_swapCost_41 rfl (lv_at hl 0 rfl) ?_
            refine m_if_eq (tgt := 49) hx hb dX1_swapCost_42 (by decide) (by omega) (fun c_42 => ?_) (fun c_42 => ?_)
            · exact absurd c_42 (by decide)
            · refine lv_iconst (v := nI 1) hx hb dX1_swapCost_45 (by decide) ?_
              refine lv_goto (tgt := 50) hx hb dX1_swapCost_46 (by decide) ?_
              rw [hQ]
              exact m_ird hx hb hr hlocks (by unfold scN; rw [if_neg c_2, if_pos K9]) dX1_swapCost_50
  · refine lv_iconst (v := nI 0) hx hb dX1_swapCost_5 (by decide) ?_
    rw [hQ]
    exact m_ird hx hb hr hlocks (by unfold scN; rw [if_pos c_2]) dX1_swapCost_6

theorem yd_X1_between : yX1_between.cls = RX1 ∧ yX1_between.cls ≠ "java/lang/invoke/MethodHandle" ∧ yX1_between.cls ≠ "java/lang/invoke/VarHandle" ∧ (parseMethodDescriptor yX1_between.desc).map (fun d => d.parameters.length) = some 3 := by decide +kernel
set_option maxHeartbeats 4000000 in
set_option maxRecDepth 100000 in
theorem k_X1_between (l : Launch) (D : va_G) (cI cZ : ClassId) (o1 oc d1 a1 a2 nl nv : Nat) (cs z g : Nat → Nat) (v ln ot : Nat) (hnl : nl ≤ 20) (hnv : nv ≤ 4) (hz : ∀ j, z j ≤ 8) (hg : ∀ j, g j ≤ 126) (hcs : ∀ j, cs j ≤ 1000) (hv : v < nv) (h1 : ln < nl) (h2 : ot < nl) : Met l yX1_between wsX1_between ({ frames := 2, cells := 0, slots := 0, locals := 42 }) (mPc [.ref o1, .int (nI v), .int (nI ln), .int (nI ot)] D cI cZ [(o1, .inr (1, [.ref oc, .ref d1])), (d1, aN cI 81 cs), (oc, .inr (0, [.ref a1, .ref a2, .int (nI nl), .int (nI nv)])), (a1, aN cI 640 g), (a2, aN cI 80 z)]) (mQi D (mA [(o1, .inr (1, [.ref oc, .ref d1])), (d1, aN cI 81 cs), (oc, .inr (0, [.ref a1, .ref a2, .int (nI nl), .int (nI nv)])), (a1, aN cI 640 g), (a2, aN cI 80 z)]) (fun (r : Int32) (u : (Nat → Nat)) => r = nI (dsN (sgN z g (v * 20 + ln)) (sgN z g (v * 20 + ot)) (z (v * 20 + ln)) (z (v * 20 + ot))) ∧ ∀ j, u j ≤ 1000) (fun (u : (Nat → Nat)) => [(o1, .inr (1, [.ref oc, .ref d1])), (d1, aN cI 81 u), (oc, .inr (0, [.ref a1, .ref a2, .int (nI nl), .int (nI nv)])), (a1, aN cI 640 g), (a2, aN cI 80 z)])) 0 0 (mA [(o1, .inr (1, [.ref oc, .ref d1])), (d1, aN cI 81 cs), (oc, .inr (0, [.ref a1, .ref a2, .int (nI nl), .int (nI nv)])), (a1, aN cI 640 g), (a2, aN cI 80 z)]) := by
  refine Met.ofW (cc := cX1_between) (maxL := 12) (ret := (some .int)) (by decide) rfl ?_
  intro p e s m args below meth c s₁ BB hml hv
  obtain ⟨hargs, hP, hD0, hK⟩ := hv
  have hx := BB.exec
  have hb := BB.bytes
  have hr := BB.returns
  have hts := atoms_spec (ws := wsX1_between) BB.pre
  have hown : s.vm.findClass RX1 = some m.cls := findClass_of_methodNamed BB.named
  have hlocks := BB.notSynchronized
  have hcf : CallFix p m c cX1_between 12 s args wsX1_between RX1 := ⟨hx, hb, hml, hown, hts⟩
  obtain ⟨A, hAe⟩ : ∃ A, A = mA [(o1, .inr (1, [.ref oc, .ref d1])), (d1, aN cI 81 cs), (oc, .inr (0, [.ref a1, .ref a2, .int (nI nl), .int (nI nv)])), (a1, aN cI 640 g), (a2, aN cI 80 z)] := ⟨_, rfl⟩
  have hD : va_D A [(o1, .inr (1, [.ref oc, .ref d1])), (d1, aN cI 81 cs), (oc, .inr (0, [.ref a1, .ref a2, .int (nI nl), .int (nI nv)])), (a1, aN cI 640 g), (a2, aN cI 80 z)] := ⟨hD0.1, fun k q h => by rw [hAe]; exact ⟨k, q.2, h⟩⟩
  have hS : va_S A s.heap s.heap [] := va_S.rf
  rw [← hAe]
  rw [hargs, lg_entry_eq, ← hargs]
  have hl := lv_entry ([.ref o1, .int (nI v), .int (nI ln), .int (nI ot)]) (n := 12) (Nat.le_of_ble_eq_true rfl)
  generalize (lg_sl ([.ref o1, .int (nI v), .int (nI ln), .int (nI ot)]) ++ List.replicate (12 - (lg_sl ([.ref o1, .int (nI v), .int (nI ln), .int (nI ot)])).length) Slot.unset).toArray = ls at hl ⊢
  have hl : lv_has ls 12 [(0, .ref o1), (1, .int (nI v)), (2, .int (nI ln)), (3, .int (nI ot))] := hl
  obtain ⟨Q, hQ⟩ : ∃ Q, Q = MQ below (mQi D A (fun (r : Int32) (u : (Nat → Nat)) => r = nI (dsN (sgN z g (v * 20 + ln)) (sgN z g (v * 20 + ot)) (z (v * 20 + ln)) (z (v * 20 + ot))) ∧ ∀ j, u j ≤ 1000) (fun (u : (Nat → Nat)) => [(o1, .inr (1, [.ref oc, .ref d1])), (d1, aN cI 81 u), (oc, .inr (0, [.ref a1, .ref a2, .int (nI nl), .int (nI nv)])), (a1, aN cI 640 g), (a2, aN cI 80 z)])) args s 0 0 A := ⟨_, rfl⟩
  rw [← hQ]
  have i_X1 : ∀ w ∈ u_ws RX1 TX1 2, w ∈ wsX1_between := by decide +kernel
  have f_15 := hts (.fieldLink RX1 15 "SameAgain$Distance" "code" "LSameAgain$Code;") (by decide +kernel)
  have l_25 := hts (.methodLink RX1 25 Lib.Math.min.name) (by decide +kernel)
  have ls_min := hts (.static Lib.Math.min.name) (by decide +kernel)
  have l_math := hts (.initialized "java/lang/Math") (by decide +kernel)
  have lc_min := hts (.code Lib.Math.min.name Lib.Math.min.code 2 (some .int)) (by decide +kernel)
  have f_11 := hts (.fieldLink RX1 11 "SameAgain$Distance" "costs" "[I") (by decide +kernel)
  have hz1 := hz (v * 20 + ln)
  have hz2 := hz (v * 20 + ot)
  refine lv_aload_n hx hb dX1_between_0 rfl (lv_at hl 0 rfl) ?_
  refine va_get (D := D) (ci := 1) (v := .ref oc) (C := RX1) (T := TX1) (N := 2) hx hb hts i_X1 hown hK.1 hP 0 rfl rfl 0 (by decide) f_15 (fun _ h9 => h9) rfl dX1_between_1 ?_
  refine lv_iload_n hx hb dX1_between_4 rfl (lv_at hl 1 rfl) ?_
  refine lv_iload_n hx hb dX1_between_5 rfl (lv_at hl 2 rfl) ?_
  refine m_rdV (As := [.int (nI v), .int (nI ln)]) (rest := []) (wc := [(oc, .inr (0, [.ref a1, .ref a2, .int (nI nl), .int (nI nv)])), (a1, aN cI 640 g), (a2, aN cI 80 z)]) hcf (k_X0_sizeOf (l := l) (D := D) (cI := cI) (cZ := cZ) (v := v) (ln := ln) (o := oc) (a1 := a1) (a2 := a2) (nl := nl) (nv := nv) (g := g) (z := z) (hnl := hnl) (hnv := hnv) (hv := hv) (hln := h1)) (cwV 2 hts gX1_between_X0_sizeOf rfl rfl rfl yd_X0_sizeOf ⟨Nat.le_of_ble_eq_true rfl, Nat.le_of_ble_eq_true rfl⟩) (m_preV hK hP hD [2, 3, 4] (by decide) rfl rfl rfl) rfl hl.1 rfl (Nat.le_of_ble_eq_true rfl) dX1_between_6 ⟨Nat.zero_le _, Nat.zero_le _⟩ ?_
  refine lv_bipush (v := nI 8) hx hb dX1_between_9 (by decide) ?_
  refine va_mmin hx hb (hml.trans hl.1.symm) hown l_25 ls_min l_math lc_min (Nat.le_of_ble_eq_true rfl) (Nat.le_of_ble_eq_true rfl) (Nat.zero_le _) (Nat.zero_le _) dX1_between_11 ?_
  refine m_top (y := nI (min (z (v * 20 + ln)) 8)) (m_minE (by omega) (by omega)) ?_
  refine m_top (y := nI (z (v * 20 + ln))) (by rw [Nat.min_eq_left hz1]) ?_
  refine lv_istore (lv' := [(4, .int (nI (z (v * 20 + ln)))), (0, .ref o1), (1, .int (nI v)), (2, .int (nI ln)), (3, .int (nI ot))]) hx hb dX1_between_14 hl (by decide) rfl (fun ls hl => ?_)
  refine lv_aload_n hx hb dX1_between_16 rfl (lv_at hl 1 rfl) ?_
  refine va_get (D := D) (ci := 1) (v := .ref oc) (C := RX1) (T := TX1) (N := 2) hx hb hts i_X1 hown hK.1 hP 0 rfl rfl 0 (by decide) f_15 (fun _ h9 => h9) rfl dX1_between_17 ?_
  refine lv_iload_n hx hb dX1_between_20 rfl (lv_at hl 2 rfl) ?_
  refine lv_iload_n hx hb dX1_between_21 rfl (lv_at hl 4 rfl) ?_
  refine m_rdV (As := [.int (nI v), .int (nI ot)]) (rest := []) (wc := [(oc, .inr (0, [.ref a1, .ref a2, .int (nI nl), .int (nI nv)])), (a1, aN cI 640 g), (a2, aN cI 80 z)]) hcf (k_X0_sizeOf (l := l) (D := D) (cI := cI) (cZ := cZ) (v := v) (ln := ot) (o := oc) (a1 := a1) (a2 := a2) (nl := nl) (nv := nv) (g := g) (z := z) (hnl := hnl) (hnv := hnv) (hv := hv) (hln := h2)) (cwV 2 hts gX1_between_X0_sizeOf rfl rfl rfl yd_X0_sizeOf ⟨Nat.le_of_ble_eq_true rfl, Nat.le_of_ble_eq_true rfl⟩) (m_preV hK hP hD [2, 3, 4] (by decide) rfl rfl rfl) rfl hl.1 rfl (Nat.le_of_ble_eq_true rfl) dX1_between_22 ⟨Nat.zero_le _, Nat.zero_le _⟩ ?_
  refine lv_bipush (v := nI 8) hx hb dX1_between_25 (by decide) ?_
  refine va_mmin hx hb (hml.trans hl.1.symm) hown l_25 ls_min l_math lc_min (Nat.le_of_ble_eq_true rfl) (Nat.le_of_ble_eq_true rfl) (Nat.zero_le _) (Nat.zero_le _) dX1_between_27 ?_
  refine m_top (y := nI (min (z (v * 20 + ot)) 8)) (m_minE (by omega) (by omega)) ?_
  refine m_top (y := nI (z (v * 20 + ot))) (by rw [Nat.min_eq_left hz2]) ?_
  refine lv_istore (lv' := [(5, .int (nI (z (v * 20 + ot)))), (4, .int (nI (z (v * 20 + ln)))), (0, .ref o1), (1, .int (nI v)), (2, .int (nI ln)), (3, .int (nI ot))]) hx hb dX1_between_30 hl (by decide) rfl (fun ls hl => ?_)
  refine lv_iconst (v := nI 0) hx hb dX1_between_32 (by decide) ?_
  refine lv_istore (lv' := [(6, .int (nI 0)), (5, .int (nI (z (v * 20 + ot)))), (4, .int (nI (z (v * 20 + ln)))), (0, .ref o1), (1, .int (nI v)), (2, .int (nI ln)), (3, .int (nI ot))]) hx hb dX1_between_33 hl (by decide) rfl (fun ls hl => ?_)
  have loop_35 : ∀ (fu : Nat) (i : Nat) (c1 : Nat → Nat) (hfu : (z (v * 20 + ln)) + 1 - i < fu)  (hi : i ≤ (z (v * 20 + ln)) + 1) (hc1 : ∀ q, c1 q ≤ 1000) (hA1 : ∀ r, r < i → c1 (r * 9) = 2 * r) (H : Heap) (locs : List Loc) (hP : va_P D vwCl [(o1, .inr (1, [.ref oc, .ref d1])), (d1, aN cI 81 c1), (oc, .inr (0, [.ref a1, .ref a2, .int (nI nl), .int (nI nv)])), (a1, aN cI 640 g), (a2, aN cI 80 z)] H) (hD : va_D A [(o1, .inr (1, [.ref oc, .ref d1])), (d1, aN cI 81 c1), (oc, .inr (0, [.ref a1, .ref a2, .int (nI nl), .int (nI nv)])), (a1, aN cI 640 g), (a2, aN cI 80 z)]) (hS : va_S A s.heap H locs) (ls : Array Slot) (hl : lv_has ls 12 [(0, .ref o1), (1, .int (nI v)), (2, .int (nI ln)), (3, .int (nI ot)), (4, .int (nI (z (v * 20 + ln)))), (5, .int (nI (z (v * 20 + ot)))), (6, .int (nI i))]), W p l e (headSpec wsX1_between { frames := 2, cells := 0, slots := 0, locals := 42 }).room s m args below meth c H locs 0 0 Q (F0 m 35 ls []) := by
    intro fu
    induction fu with
    | zero => intro i c1 hfu; exact absurd hfu (Nat.not_lt_zero _)
    | succ fu ih_35 =>
      intro i c1 hfu hi hc1 hA1 H locs hP hD hS ls hl
      refine lv_iload hx hb dX1_between_35 (lv_at hl 6 rfl) ?_
      refine lv_iload hx hb dX1_between_37 (lv_at hl 4 rfl) ?_
      refine m_cmp_gt (tgt := 62) hx hb dX1_between_39 (by decide) (by omega) (by omega) (fun c_39 => ?_) (fun c_39 => ?_)
      · refine lv_iconst (v := nI 0) hx hb dX1_between_62 (by decide) ?_
        refine lv_istore (lv' := [(6, .int (nI 0)), (0, .ref o1), (1, .int (nI v)), (2, .int (nI ln)), (3, .int (nI ot)), (4, .int (nI (z (v * 20 + ln)))), (5, .int (nI (z (v * 20 + ot))))]) hx hb dX1_between_63 hl (by decide) rfl (fun ls hl => ?_)
        have loop_65 : ∀ (fu : Nat) (i2 : Nat) (c2 : Nat → Nat) (hfu : (z (v * 20 + ot)) + 1 - i2 < fu)  (hi2 : i2 ≤ (z (v * 20 + ot)) + 1) (hc2 : ∀ q, c2 q ≤ 1000) (hA2 : ∀ r, r ≤ (z (v * 20 + ln)) → c2 (r * 9) = 2 * r) (hB2 : ∀ q, q < i2 → c2 q = 2 * q) (H : Heap) (locs : List Loc) (hP : va_P D vwCl [(o1, .inr (1, [.ref oc, .ref d1])), (d1, aN cI 81 c2), (oc, .inr (0, [.ref a1, .ref a2, .int (nI nl), .int (nI nv)])), (a1, aN cI 640 g), (a2, aN cI 80 z)] H) (hD : va_D A [(o1, .inr (1, [.ref oc, .ref d1])), (d1, aN cI 81 c2), (oc, .inr (0, [.ref a1, .ref a2, .int (nI nl), .int (nI nv)])), (a1, aN cI 640 g), (a2, aN cI 80 z)]) (hS : va_S A s.heap H locs) (ls : Array Slot) (hl : lv_has ls 12 [(0, .ref o1), (1, .int (nI v)), (2, .int (nI ln)), (3, .int (nI ot)), (4, .int (nI (z (v * 20 + ln)))), (5, .int (nI (z (v * 20 + ot)))), (6, .int (nI i2))]), W p l e (headSpec wsX1_between { frames := 2, cells := 0, slots := 0, locals := 42 }).room s m args below meth c H locs 0 0 Q (F0 m 65 ls []) := by
          intro fu
          induction fu with
          | zero => intro i2 c2 hfu; exact absurd hfu (Nat.not_lt_zero _)
          | succ fu ih_65 =>
            intro i2 c2 hfu hi2 hc2 hA2 hB2 H locs hP hD hS ls hl
            refine lv_iload hx hb dX1_between_65 (lv_at hl 6 rfl) ?_
            refine lv_iload hx hb dX1_between_67 (lv_at hl 5 rfl) ?_
            refine m_cmp_gt (tgt := 89) hx hb dX1_between_69 (by decide) (by omega) (by omega) (fun c_69 => ?_) (fun c_69 => ?_)
            · refine lv_iconst (v := nI 1) hx hb dX1_between_89 (by decide) ?_
              refine lv_istore (lv' := [(6, .int (nI 1)), (0, .ref o1), (1, .int (nI v)), (2, .int (nI ln)), (3, .int (nI ot)), (4, .int (nI (z (v * 20 + ln)))), (5, .int (nI (z (v * 20 + ot))))]) hx hb dX1_between_90 hl (by decide) rfl (fun ls hl => ?_)
              have loop_92 : ∀ (fu : Nat) (i : Nat) (c3 : Nat → Nat) (hfu : (z (v * 20 + ln)) + 1 - (i + 1) < fu)  (hi3 : i ≤ (z (v * 20 + ln))) (hT3 : dsT (sgN z g (v * 20 + ln)) (sgN z g (v * 20 + ot)) (z (v * 20 + ln)) (z (v * 20 + ot)) c3 (i + 1) 1) (H : Heap) (locs : List Loc) (hP : va_P D vwCl [(o1, .inr (1, [.ref oc, .ref d1])), (d1, aN cI 81 c3), (oc, .inr (0, [.ref a1, .ref a2, .int (nI nl), .int (nI nv)])), (a1, aN cI 640 g), (a2, aN cI 80 z)] H) (hD : va_D A [(o1, .inr (1, [.ref oc, .ref d1])), (d1, aN cI 81 c3), (oc, .inr (0, [.ref a1, .ref a2, .int (nI nl), .int (nI nv)])), (a1, aN cI 640 g), (a2, aN cI 80 z)]) (hS : va_S A s.heap H locs) (ls : Array Slot) (hl : lv_has ls 12 [(0, .ref o1), (1, .int (nI v)), (2, .int (nI ln)), (3, .int (nI ot)), (4, .int (nI (z (v * 20 + ln)))), (5, .int (nI (z (v * 20 + ot)))), (6, .int (nI (i + 1)))]), W p l e (headSpec wsX1_between { frames := 2, cells := 0, slots := 0, locals := 42 }).room s m args below meth c H locs 0 0 Q (F0 m 92 ls []) := by
                intro fu
                induction fu with
                | zero => intro i c3 hfu; exact absurd hfu (Nat.not_lt_zero _)
                | succ fu ih_92 =>
                  intro i c3 hfu hi3 hT3 H locs hP hD hS ls hl
                  refine lv_iload hx hb dX1_between_92 (lv_at hl 6 rfl) ?_
                  refine lv_iload hx hb dX1_between_94 (lv_at hl 4 rfl) ?_
                  refine m_cmp_gt (tgt := 219) hx hb dX1_between_96 (by decide) (by omega) (by omega) (fun c_96 => ?_) (fun c_96 => ?_)
                  · refine lv_aload_n hx hb dX1_between_219 rfl (lv_at hl 0 rfl) ?_
                    refine va_get (D := D) (ci := 1) (v := .ref d1) (C := RX1) (T := TX1) (N := 2) hx hb hts i_X1 hown hK.1 hP 0 rfl rfl 1 (by decide) f_11 (fun _ h9 => h9) rfl dX1_between_220 ?_
                    refine lv_iload hx hb dX1_between_223 (lv_at hl 4 rfl) ?_
                    refine lv_bipush (v := nI 9) hx hb dX1_between_225 (by decide) ?_
                    refine m_mul hx hb dX1_between_227 ?_
                    refine lv_iload hx hb dX1_between_228 (lv_at hl 5 rfl) ?_
                    refine m_add hx hb dX1_between_230 ?_
                    refine m_ald hx hb hK hP 1 rfl (by decide) (by omega) dX1_between_231 ?_
                    rw [hQ]
                    exact m_iwr hx hb hr hlocks _ (⟨by rw [hT3.1 (z (v * 20 + ln)) (z (v * 20 + ot)) (by omega) (by omega) (by omega)], hT3.2⟩) hP hS dX1_between_232
                  · refine lv_aload_n hx hb dX1_between_99 rfl (lv_at hl 0 rfl) ?_
                    refine va_get (D := D) (ci := 1) (v := .ref oc) (C := RX1) (T := TX1) (N := 2) hx hb hts i_X1 hown hK.1 hP 0 rfl rfl 0 (by decide) f_15 (fun _ h9 => h9) rfl dX1_between_100 ?_
                    refine lv_iload_n hx hb dX1_between_103 rfl (lv_at hl 1 rfl) ?_
                    refine lv_iload_n hx hb dX1_between_104 rfl (lv_at hl 2 rfl) ?_
                    refine lv_iload hx hb dX1_between_105 (lv_at hl 6 rfl) ?_
                    refine lv_iconst (v := nI 1) hx hb dX1_between_107 (by decide) ?_
                    refine m_sub hx hb (by omega) dX1_between_108 ?_
                    refine m_rdV (As := [.int (nI v), .int (nI ln), .int (nI ((i + 1) - 1))]) (rest := []) (wc := [(oc, .inr (0, [.ref a1, .ref a2, .int (nI nl), .int (nI nv)])), (a1, aN cI 640 g), (a2, aN cI 80 z)]) hcf (k_X0_signAt (l := l) (D := D) (cI := cI) (cZ := cZ) (v := v) (ln := ln) (k := (i + 1) - 1) (o := oc) (a1 := a1) (a2 := a2) (nl := nl) (nv := nv) (g := g) (z := z) (hnl := hnl) (hnv := hnv) (hz := hz) (hg := hg) (hv := hv) (hln := h1) (hk := by omega)) (cwV 3 hts gX1_between_X0_signAt rfl rfl rfl yd_X0_signAt ⟨Nat.le_of_ble_eq_true rfl, Nat.le_of_ble_eq_true rfl⟩) (m_preV hK hP hD [2, 3, 4] (by decide) rfl rfl rfl) rfl hl.1 rfl (Nat.le_of_ble_eq_true rfl) dX1_between_109 ⟨Nat.zero_le _, Nat.zero_le _⟩ ?_
                    refine m_top (y := nI (sgN z g (v * 20 + ln) i)) (by rw [Nat.add_sub_cancel]) ?_
                    refine lv_istore (lv' := [(7, .int (nI (sgN z g (v * 20 + ln) i))), (0, .ref o1), (1, .int (nI v)), (2, .int (nI ln)), (3, .int (nI ot)), (4, .int (nI (z (v * 20 + ln)))), (5, .int (nI (z (v * 20 + ot)))), (6, .int (nI (i + 1)))]) hx hb dX1_between_112 hl (by decide) rfl (fun ls hl => ?_)
                    refine lv_iconst (v := nI 1) hx hb dX1_between_114 (by decide) ?_
                    refine lv_istore (lv' := [(8, .int (nI 1)), (7, .int (nI (sgN z g (v * 20 + ln) i))), (0, .ref o1), (1, .int (nI v)), (2, .int (nI ln)), (3, .int (nI ot)), (4, .int (nI (z (v * 20 + ln)))), (5, .int (nI (z (v * 20 + ot)))), (6, .int (nI (i + 1)))]) hx hb dX1_between_115 hl (by decide) rfl (fun ls hl => ?_)
                    have loop_117 : ∀ (fu : Nat) (j : Nat) (c4 : Nat → Nat) (hfu : (z (v * 20 + ot)) + 1 - (j + 1) < fu)  (hj4 : j ≤ (z (v * 20 + ot))) (hT : dsT (sgN z g (v * 20 + ln)) (sgN z g (v * 20 + ot)) (z (v * 20 + ln)) (z (v * 20 + ot)) c4 (i + 1) (j + 1)) (H : Heap) (locs : List Loc) (hP : va_P D vwCl [(o1, .inr (1, [.ref oc, .ref d1])), (d1, aN cI 81 c4), (oc, .inr (0, [.ref a1, .ref a2, .int (nI nl), .int (nI nv)])), (a1, aN cI 640 g), (a2, aN cI 80 z)] H) (hD : va_D A [(o1, .inr (1, [.ref oc, .ref d1])), (d1, aN cI 81 c4), (oc, .inr (0, [.ref a1, .ref a2, .int (nI nl), .int (nI nv)])), (a1, aN cI 640 g), (a2, aN cI 80 z)]) (hS : va_S A s.heap H locs) (ls : Array Slot) (hl : lv_has ls 12 [(0, .ref o1), (1, .int (nI v)), (2, .int (nI ln)), (3, .int (nI ot)), (4, .int (nI (z (v * 20 + ln)))), (5, .int (nI (z (v * 20 + ot)))), (6, .int (nI (i + 1))), (7, .int (nI (sgN z g (v * 20 + ln) i))), (8, .int (nI (j + 1)))]), W p l e (headSpec wsX1_between { frames := 2, cells := 0, slots := 0, locals := 42 }).room s m args below meth c H locs 0 0 Q (F0 m 117 ls []) := by
                      intro fu
                      induction fu with
                      | zero => intro j c4 hfu; exact absurd hfu (Nat.not_lt_zero _)
                      | succ fu ih_117 =>
                        intro j c4 hfu hj4 hT H locs hP hD hS ls hl
                        refine lv_iload hx hb dX1_between_117 (lv_at hl 8 rfl) ?_
                        refine lv_iload hx hb dX1_between_119 (lv_at hl 5 rfl) ?_
                        refine m_cmp_gt (tgt := 213) hx hb dX1_between_121 (by decide) (by omega) (by omega) (fun c_121 => ?_) (fun c_121 => ?_)
                        · refine lv_iinc (v := nI (i + 1 + 1)) (lv' := [(6, .int (nI (i + 1 + 1))), (0, .ref o1), (1, .int (nI v)), (2, .int (nI ln)), (3, .int (nI ot)), (4, .int (nI (z (v * 20 + ln)))), (5, .int (nI (z (v * 20 + ot)))), (7, .int (nI (sgN z g (v * 20 + ln) i))), (8, .int (nI (j + 1)))]) hx hb dX1_between_213 hl (k := 6) rfl ((nI_succ _).symm) (by decide) rfl (fun ls hl => ?_)
                          refine lv_goto (tgt := 92) hx hb dX1_between_216 (by decide) ?_
                          exact ih_92 (i + 1) c4 (by omega) (by omega) (dsT_row hT (by omega)) _ _ hP hD hS ls (lv_sub hl [1, 2, 3, 4, 5, 6, 0] rfl)
                        · refine lv_iload hx hb dX1_between_124 (lv_at hl 6 rfl) ?_
                          refine lv_bipush (v := nI 9) hx hb dX1_between_126 (by decide) ?_
                          refine m_mul hx hb dX1_between_128 ?_
                          refine lv_iload hx hb dX1_between_129 (lv_at hl 8 rfl) ?_
                          refine m_add hx hb dX1_between_131 ?_
                          refine lv_istore (lv' := [(9, .int (nI (((i + 1) * 9) + (j + 1)))), (0, .ref o1), (1, .int (nI v)), (2, .int (nI ln)), (3, .int (nI ot)), (4, .int (nI (z (v * 20 + ln)))), (5, .int (nI (z (v * 20 + ot)))), (6, .int (nI (i + 1))), (7, .int (nI (sgN z g (v * 20 + ln) i))), (8, .int (nI (j + 1)))]) hx hb dX1_between_132 hl (by decide) rfl (fun ls hl => ?_)
                          have b1 := dsN_le (sgN z g (v * 20 + ln)) (sgN z g (v * 20 + ot)) i j
                          have b2 := dsN_le (sgN z g (v * 20 + ln)) (sgN z g (v * 20 + ot)) (i + 1) j
                          have b3 := dsN_le (sgN z g (v * 20 + ln)) (sgN z g (v * 20 + ot)) i (j + 1)
                          have b4 := scN_le ((sgN z g (v * 20 + ln)) i) ((sgN z g (v * 20 + ot)) j)
                          refine lv_aload_n hx hb dX1_between_134 rfl (lv_at hl 1 rfl) ?_
                          refine va_get (D := D) (ci := 1) (v := .ref d1) (C := RX1) (T := TX1) (N := 2) hx hb hts i_X1 hown hK.1 hP 0 rfl rfl 1 (by decide) f_11 (fun _ h9 => h9) rfl dX1_between_135 ?_
                          refine lv_iload hx hb dX1_between_138 (lv_at hl 0 rfl) ?_
                          refine lv_bipush (v := nI 9) hx hb dX1_between_140 (by decide) ?_
                          refine m_sub hx hb (by omega) dX1_between_142 ?_
                          refine lv_iconst (v := nI 1) hx hb dX1_between_143 (by decide) ?_
                          refine m_sub hx hb (by omega) dX1_between_144 ?_
                          refine m_ald hx hb hK hP 1 rfl (by decide) (by omega) dX1_between_145 ?_
                          refine m_top (y := nI (dsN (sgN z g (v * 20 + ln)) (sgN z g (v * 20 + ot)) i j)) (by rw [← hT.1 i j (by omega) (by omega) (by omega)]; congr 2 <;> omega) ?_
                          refine lv_iload hx hb dX1_between_146 (lv_at hl 8 rfl) ?_
                          refine lv_aload_n hx hb dX1_between_148 rfl (lv_at hl 1 rfl) ?_
                          refine va_get (D := D) (ci := 1) (v := .ref oc) (C := RX1) (T := TX1) (N := 2) hx hb hts i_X1 hown hK.1 hP 0 rfl rfl 0 (by decide) f_15 (fun _ h9 => h9) rfl dX1_between_149 ?_
                          refine lv_iload_n hx hb dX1_between_152 rfl (lv_at hl 2 rfl) ?_
                          refine lv_iload_n hx hb dX1_between_153 rfl (lv_at hl 4 rfl) ?_
                          refine lv_iload hx hb dX1_between_154 (lv_at hl 9 rfl) ?_
                          refine lv_iconst (v := nI 1) hx hb dX1_between_156 (by decide) ?_
                          refine m_sub hx hb (by omega) dX1_between_157 ?_
                          refine m_rdV (As := [.int (nI v), .int (nI ot), .int (nI ((j + 1) - 1))]) (rest := [.int (nI (sgN z g (v * 20 + ln) i)), .int (nI (dsN (sgN z g (v * 20 + ln)) (sgN z g (v * 20 + ot)) i j))]) (wc := [(oc, .inr (0, [.ref a1, .ref a2, .int (nI nl), .int (nI nv)])), (a1, aN cI 640 g), (a2, aN cI 80 z)]) hcf (k_X0_signAt (l := l) (D := D) (cI := cI) (cZ := cZ) (v := v) (ln := ot) (k := (j + 1) - 1) (o := oc) (a1 := a1) (a2 := a2) (nl := nl) (nv := nv) (g := g) (z := z) (hnl := hnl) (hnv := hnv) (hz := hz) (hg := hg) (hv := hv) (hln := h2) (hk := by omega)) (cwV 3 hts gX1_between_X0_signAt rfl rfl rfl yd_X0_signAt ⟨Nat.le_of_ble_eq_true rfl, Nat.le_of_ble_eq_true rfl⟩) (m_preV hK hP hD [2, 3, 4] (by decide) rfl rfl rfl) rfl hl.1 rfl (Nat.le_of_ble_eq_true rfl) dX1_between_158 ⟨Nat.zero_le _, Nat.zero_le _⟩ ?_
                          refine m_top (y := nI (sgN z g (v * 20 + ot) j)) (by rw [Nat.add_sub_cancel]) ?_
                          refine m_rdS (As := [.int (nI (sgN z g (v * 20 + ln) i)), .int (nI (sgN z g (v * 20 + ot) j))]) (rest := [.int (nI (dsN (sgN z g (v * 20 + ln)) (sgN z g (v * 20 + ot)) i j))]) (wc := []) hcf (k_X1_swapCost (l := l) (D := D) (cI := cI) (cZ := cZ) (a := sgN z g (v * 20 + ln) i) (b := sgN z g (v * 20 + ot) j) (ha := sgN_le hg _ _) (hb2 := sgN_le hg _ _)) (va_cwS 2 hts gX1_between_X1_swapCost rfl rfl rfl yd_X1_swapCost.2 ⟨Nat.le_of_ble_eq_true rfl, Nat.le_of_ble_eq_true rfl⟩) (m_preS hK hP hD [] (by decide) rfl) rfl hl.1 rfl (Nat.le_of_ble_eq_true rfl) dX1_between_161 ⟨Nat.zero_le _, Nat.zero_le _⟩ ?_
                          refine m_add hx hb dX1_between_164 ?_
                          refine lv_istore (lv' := [(10, .int (nI ((dsN (sgN z g (v * 20 + ln)) (sgN z g (v * 20 + ot)) i j) + (scN (sgN z g (v * 20 + ln) i) (sgN z g (v * 20 + ot) j))))), (9, .int (nI (((i + 1) * 9) + (j + 1)))), (0, .ref o1), (1, .int (nI v)), (2, .int (nI ln)), (3, .int (nI ot)), (4, .int (nI (z (v * 20 + ln)))), (5, .int (nI (z (v * 20 + ot)))), (6, .int (nI (i + 1))), (7, .int (nI (sgN z g (v * 20 + ln) i))), (8, .int (nI (j + 1)))]) hx hb dX1_between_165 hl (by decide) rfl (fun ls hl => ?_)
                          refine lv_aload_n hx hb dX1_between_167 rfl (lv_at hl 2 rfl) ?_
                          refine va_get (D := D) (ci := 1) (v := .ref d1) (C := RX1) (T := TX1) (N := 2) hx hb hts i_X1 hown hK.1 hP 0 rfl rfl 1 (by decide) f_11 (fun _ h9 => h9) rfl dX1_between_168 ?_
                          refine lv_iload hx hb dX1_between_171 (lv_at hl 1 rfl) ?_
                          refine lv_iconst (v := nI 1) hx hb dX1_between_173 (by decide) ?_
                          refine m_sub hx hb (by omega) dX1_between_174 ?_
                          refine m_ald hx hb hK hP 1 rfl (by decide) (by omega) dX1_between_175 ?_
                          refine m_top (y := nI (dsN (sgN z g (v * 20 + ln)) (sgN z g (v * 20 + ot)) (i + 1) j)) (by rw [← hT.1 (i + 1) j (by omega) (by omega) (by omega)]; congr 2 <;> omega) ?_
                          refine lv_aload_n hx hb dX1_between_176 rfl (lv_at hl 2 rfl) ?_
                          refine va_get (D := D) (ci := 1) (v := .ref d1) (C := RX1) (T := TX1) (N := 2) hx hb hts i_X1 hown hK.1 hP 0 rfl rfl 1 (by decide) f_11 (fun _ h9 => h9) rfl dX1_between_177 ?_
                          refine lv_iload hx hb dX1_between_180 (lv_at hl 1 rfl) ?_
                          refine lv_bipush (v := nI 9) hx hb dX1_between_182 (by decide) ?_
                          refine m_sub hx hb (by omega) dX1_between_184 ?_
                          refine m_ald hx hb hK hP 1 rfl (by decide) (by omega) dX1_between_185 ?_
                          refine m_top (y := nI (dsN (sgN z g (v * 20 + ln)) (sgN z g (v * 20 + ot)) i (j + 1))) (by rw [← hT.1 i (j + 1) (by omega) (by omega) (by omega)]; congr 2 <;> omega) ?_
                          refine va_mmin hx hb (hml.trans hl.1.symm) hown l_25 ls_min l_math lc_min (Nat.le_of_ble_eq_true rfl) (Nat.le_of_ble_eq_true rfl) (Nat.zero_le _) (Nat.zero_le _) dX1_between_186 ?_
                          refine m_top (y := nI (min (dsN (sgN z g (v * 20 + ln)) (sgN z g (v * 20 + ot)) (i + 1) j) (dsN (sgN z g (v * 20 + ln)) (sgN z g (v * 20 + ot)) i (j + 1)))) (m_minE (by omega) (by omega)) ?_
                          refine lv_iconst (v := nI 2) hx hb dX1_between_189 (by decide) ?_
                          refine m_add hx hb dX1_between_190 ?_
                          refine lv_istore (lv' := [(11, .int (nI ((min (dsN (sgN z g (v * 20 + ln)) (sgN z g (v * 20 + ot)) (i + 1) j) (dsN (sgN z g (v * 20 + ln)) (sgN z g (v * 20 + ot)) i (j + 1))) + 2))), (10, .int (nI ((dsN (sgN z g (v * 20 + ln)) (sgN z g (v * 20 + ot)) i j) + (scN (sgN z g (v * 20 + ln) i) (sgN z g (v * 20 + ot) j))))), (9, .int (nI (((i + 1) * 9) + (j + 1)))), (0, .ref o1), (1, .int (nI v)), (2, .int (nI ln)), (3, .int (nI ot)), (4, .int (nI (z (v * 20 + ln)))), (5, .int (nI (z (v * 20 + ot)))), (6, .int (nI (i + 1))), (7, .int (nI (sgN z g (v * 20 + ln) i))), (8, .int (nI (j + 1)))]) hx hb dX1_between_191 hl (by decide) rfl (fun ls hl => ?_)
                          refine lv_aload_n hx hb dX1_between_193 rfl (lv_at hl 3 rfl) ?_
                          refine va_get (D := D) (ci := 1) (v := .ref d1) (C := RX1) (T := TX1) (N := 2) hx hb hts i_X1 hown hK.1 hP 0 rfl rfl 1 (by decide) f_11 (fun _ h9 => h9) rfl dX1_between_194 ?_
                          refine lv_iload hx hb dX1_between_197 (lv_at hl 2 rfl) ?_
                          refine lv_iload hx hb dX1_between_199 (lv_at hl 1 rfl) ?_
                          refine lv_iload hx hb dX1_between_201 (lv_at hl 0 rfl) ?_
                          refine va_mmin hx hb (hml.trans hl.1.symm) hown l_25 ls_min l_math lc_min (Nat.le_of_ble_eq_true rfl) (Nat.le_of_ble_eq_true rfl) (Nat.zero_le _) (Nat.zero_le _) dX1_between_203 ?_
                          refine m_top (y := nI (min ((dsN (sgN z g (v * 20 + ln)) (sgN z g (v * 20 + ot)) i j) + (scN (sgN z g (v * 20 + ln) i) (sgN z g (v * 20 + ot) j))) ((min (dsN (sgN z g (v * 20 + ln)) (sgN z g (v * 20 + ot)) (i + 1) j) (dsN (sgN z g (v * 20 + ln)) (sgN z g (v * 20 + ot)) i (j + 1))) + 2))) (m_minE (by omega) (by omega)) ?_
                          refine m_ast hx hb hK hP hD hS 1 rfl (by decide) (by omega) dX1_between_206 (ws' := [(o1, .inr (1, [.ref oc, .ref d1])), (d1, aN cI 81 (upN c4 (((i + 1) * 9) + (j + 1)) (min ((dsN (sgN z g (v * 20 + ln)) (sgN z g (v * 20 + ot)) i j) + (scN (sgN z g (v * 20 + ln) i) (sgN z g (v * 20 + ot) j))) ((min (dsN (sgN z g (v * 20 + ln)) (sgN z g (v * 20 + ot)) (i + 1) j) (dsN (sgN z g (v * 20 + ln)) (sgN z g (v * 20 + ot)) i (j + 1))) + 2)))), (oc, .inr (0, [.ref a1, .ref a2, .int (nI nl), .int (nI nv)])), (a1, aN cI 640 g), (a2, aN cI 80 z)]) rfl (fun H locs hP hD hS => ?_)
                          refine lv_iinc (v := nI (j + 1 + 1)) (lv' := [(8, .int (nI (j + 1 + 1))), (11, .int (nI ((min (dsN (sgN z g (v * 20 + ln)) (sgN z g (v * 20 + ot)) (i + 1) j) (dsN (sgN z g (v * 20 + ln)) (sgN z g (v * 20 + ot)) i (j + 1))) + 2))), (10, .int (nI ((dsN (sgN z g (v * 20 + ln)) (sgN z g (v * 20 + ot)) i j) + (scN (sgN z g (v * 20 + ln) i) (sgN z g (v * 20 + ot) j))))), (9, .int (nI (((i + 1) * 9) + (j + 1)))), (0, .ref o1), (1, .int (nI v)), (2, .int (nI ln)), (3, .int (nI ot)), (4, .int (nI (z (v * 20 + ln)))), (5, .int (nI (z (v * 20 + ot)))), (6, .int (nI (i + 1))), (7, .int (nI (sgN z g (v * 20 + ln) i)))]) hx hb dX1_between_207 hl (k := 11) rfl ((nI_succ _).symm) (by decide) rfl (fun ls hl => ?_)
                          refine lv_goto (tgt := 117) hx hb dX1_between_210 (by decide) ?_
                          exact ih_117 (j + 1) _ (by omega) (by omega) (dsT_s (by omega) (by omega) hT (by omega) (by omega) (dsN_s _ _ i j).symm) _ _ hP hD hS ls (lv_sub hl [4, 5, 6, 7, 8, 9, 10, 11, 0] rfl)
                    exact loop_117 ((z (v * 20 + ot)) + 2) 0 c3 (by omega) (by omega) hT3 _ _ hP hD hS ls (lv_sub hl [2, 3, 4, 5, 6, 7, 8, 1, 0] rfl)
              have X9 : dsT (sgN z g (v * 20 + ln)) (sgN z g (v * 20 + ot)) (z (v * 20 + ln)) (z (v * 20 + ot)) c2 (0 + 1) 1 := ⟨fun r cc e1 e2 e3 => by
                  rcases Nat.eq_zero_or_pos cc with q | q
                  · subst q; rw [dsN_0]; exact hA2 r e1
                  · have q2 : r = 0 := by omega
                    subst q2; rw [Nat.zero_mul, Nat.zero_add]; exact hB2 cc (by omega), hc2⟩
              exact loop_92 ((z (v * 20 + ln)) + 2) 0 c2 (by omega) (by omega) X9 _ _ hP hD hS ls (lv_sub hl [1, 2, 3, 4, 5, 6, 0] rfl)
            · refine lv_aload_n hx hb dX1_between_72 rfl (lv_at hl 0 rfl) ?_
              refine va_get (D := D) (ci := 1) (v := .ref d1) (C := RX1) (T := TX1) (N := 2) hx hb hts i_X1 hown hK.1 hP 0 rfl rfl 1 (by decide) f_11 (fun _ h9 => h9) rfl dX1_between_73 ?_
              refine lv_iload hx hb dX1_between_76 (lv_at hl 6 rfl) ?_
              refine lv_iload hx hb dX1_between_78 (lv_at hl 6 rfl) ?_
              refine lv_iconst (v := nI 2) hx hb dX1_between_80 (by decide) ?_
              refine m_mul hx hb dX1_between_81 ?_
              refine m_ast hx hb hK hP hD hS 1 rfl (by decide) (by omega) dX1_between_82 (ws' := [(o1, .inr (1, [.ref oc, .ref d1])), (d1, aN cI 81 (upN c2 i2 (i2 * 2))), (oc, .inr (0, [.ref a1, .ref a2, .int (nI nl), .int (nI nv)])), (a1, aN cI 640 g), (a2, aN cI 80 z)]) rfl (fun H locs hP hD hS => ?_)
              refine lv_iinc (v := nI (i2 + 1)) (lv' := [(6, .int (nI (i2 + 1))), (0, .ref o1), (1, .int (nI v)), (2, .int (nI ln)), (3, .int (nI ot)), (4, .int (nI (z (v * 20 + ln)))), (5, .int (nI (z (v * 20 + ot))))]) hx hb dX1_between_83 hl (k := 6) rfl ((nI_succ _).symm) (by decide) rfl (fun ls hl => ?_)
              refine lv_goto (tgt := 65) hx hb dX1_between_86 (by decide) ?_
              exact ih_65 (i2 + 1) _ (by omega) (by omega) (upN_le hc2 (by omega)) (fun r hr => by by_cases q : r * 9 = i2; rw [q, upN_s]; omega; rw [upN_ne q]; exact hA2 r hr) (fun r hr => by by_cases q : r = i2; rw [q, upN_s]; omega; rw [upN_ne q]; exact hB2 r (by omega)) _ _ hP hD hS ls (lv_sub hl [1, 2, 3, 4, 5, 6, 0] rfl)
        exact loop_65 ((z (v * 20 + ot)) + 2) 0 c1 (by omega) (by omega) hc1 (fun r hr => hA1 r (by omega)) (fun r hr => absurd hr (Nat.not_lt_zero r)) _ _ hP hD hS ls (lv_sub hl [1, 2, 3, 4, 5, 6, 0] rfl)
      · refine lv_aload_n hx hb dX1_between_42 rfl (lv_at hl 0 rfl) ?_
        refine va_get (D := D) (ci := 1) (v := .ref d1) (C := RX1) (T := TX1) (N := 2) hx hb hts i_X1 hown hK.1 hP 0 rfl rfl 1 (by decide) f_11 (fun _ h9 => h9) rfl dX1_between_43 ?_
        refine lv_iload hx hb dX1_between_46 (lv_at hl 6 rfl) ?_
        refine lv_bipush (v := nI 9) hx hb dX1_between_48 (by decide) ?_
        refine m_mul hx hb dX1_between_50 ?_
        refine lv_iload hx hb dX1_between_51 (lv_at hl 6 rfl) ?_
        refine lv_iconst (v := nI 2) hx hb dX1_between_53 (by decide) ?_
        refine m_mul hx hb dX1_between_54 ?_
        refine m_ast hx hb hK hP hD hS 1 rfl (by decide) (by omega) dX1_between_55 (ws' := [(o1, .inr (1, [.ref oc, .ref d1])), (d1, aN cI 81 (upN c1 (i * 9) (i * 2))), (oc, .inr (0, [.ref a1, .ref a2, .int (nI nl), .int (nI nv)])), (a1, aN cI 640 g), (a2, aN cI 80 z)]) rfl (fun H locs hP hD hS => ?_)
        refine lv_iinc (v := nI (i + 1)) (lv' := [(6, .int (nI (i + 1))), (0, .ref o1), (1, .int (nI v)), (2, .int (nI ln)), (3, .int (nI ot)), (4, .int (nI (z (v * 20 + ln)))), (5, .int (nI (z (v * 20 + ot))))]) hx hb dX1_between_56 hl (k := 6) rfl ((nI_succ _).symm) (by decide) rfl (fun ls hl => ?_)
        refine lv_goto (tgt := 35) hx hb dX1_between_59 (by decide) ?_
        exact ih_35 (i + 1) _ (by omega) (by omega) (upN_le hc1 (by omega)) (fun r hr => by by_cases q : r = i; rw [q, upN_s]; omega; rw [upN_ne (by omega)]; exact hA1 r (by omega)) _ _ hP hD hS ls (lv_sub hl [1, 2, 3, 4, 5, 6, 0] rfl)
  exact loop_35 ((z (v * 20 + ln)) + 2) 0 cs (by omega) (by omega) hcs (fun r hr => absurd hr (Nat.not_lt_zero r)) _ _ hP hD hS ls (lv_sub hl [3, 4, 5, 6, 2, 1, 0] rfl)
