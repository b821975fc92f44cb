theorem inj20 {a b i j : Nat} (hb : b < 20) (hj : j < 20) (h : a * 20 + b = i * 20 + j) : a = i ∧ b = j := by omega
theorem rT_up {way : Nat} {z g : Nat → Nat} {v nl i j : Nat} (h : i < j) : rT way z g v nl i j = rlN way z g v i j (nl - j) := by
  unfold rT; rw [if_neg (by omega), if_pos h]
theorem rT_dn {way : Nat} {z g : Nat → Nat} {v nl i j : Nat} (h : i < j) : rT way z g v nl j i = rlN way z g v i j (nl - j) := by
  unfold rT; rw [if_neg (by omega), if_neg (by omega)]
theorem cA_in {way : Nat} {z g : Nat → Nat} {v nl i : Nat} {rt : Nat → Nat} (hnl : nl ≤ 20) (hi : i < nl) (hT : ∀ a b, a < nl → b < nl → min a b < i → rt (a * 20 + b) = rT way z g v nl a b) :
    ∀ a b, a < nl → b < nl → (min a b < i ∨ (min a b = i ∧ max a b < i + 1)) → upN rt (i * 20 + i) (nl - i) (a * 20 + b) = rT way z g v nl a b := by
  intro a b ha hb h
  by_cases e : a = i ∧ b = i
  · obtain ⟨rfl, rfl⟩ := e
    rw [upN_s]; unfold rT; rw [if_pos rfl]
  · rw [upN_ne (by omega)]
    exact hT a b ha hb (by omega)
theorem cA_step {way : Nat} {z g : Nat → Nat} {v nl i j : Nat} {ru : Nat → Nat} (hnl : nl ≤ 20) (hij : i < j) (hj : j < nl) (hU : ∀ a b, a < nl → b < nl → (min a b < i ∨ (min a b = i ∧ max a b < j)) → ru (a * 20 + b) = rT way z g v nl a b) :
    ∀ a b, a < nl → b < nl → (min a b < i ∨ (min a b = i ∧ max a b < j + 1)) → upN (upN ru (i * 20 + j) (rlN way z g v i j (nl - j))) (j * 20 + i) (rlN way z g v i j (nl - j)) (a * 20 + b) = rT way z g v nl a b := by
  intro a b ha hb h
  by_cases e : a = j ∧ b = i
  · obtain ⟨rfl, rfl⟩ := e
    rw [upN_s, rT_dn hij]
  · rw [upN_ne (by omega)]
    by_cases e2 : a = i ∧ b = j
    · obtain ⟨rfl, rfl⟩ := e2
      rw [upN_s, rT_up hij]
    · rw [upN_ne (by omega)]
      exact hU a b ha hb (by omega)

theorem yd_X2_compareAll : yX2_compareAll.cls = RX2 ∧ yX2_compareAll.cls ≠ "java/lang/invoke/MethodHandle" ∧ yX2_compareAll.cls ≠ "java/lang/invoke/VarHandle" ∧ (parseMethodDescriptor yX2_compareAll.desc).map (fun d => d.parameters.length) = some 2 := by decide +kernel
set_option maxHeartbeats 4000000 in
set_option maxRecDepth 100000 in
theorem k_X2_compareAll (l : Launch) (D : va_G) (cI cZ : ClassId) (o q0 q1 ra oc a1 a2 ll lo lt n1 n2 nl nv : Nat) (pt rc z g : Nat → Nat) (v way : Nat) (hnl : nl ≤ 20) (hnv : nv ≤ 4) (hz : ∀ j, z j ≤ 8) (hg : ∀ j, g j ≤ 126) (hpt : ∀ j, pt j ≤ 126) (hrc : ∀ j, rc j ≤ 20) (hw : way ≤ 2) (hv : v < nv) : Met l yX2_compareAll wsX2_compareAll ({ frames := 5, cells := 0, slots := 0, locals := 122 }) (mPc [.ref o, .int (nI v), .int (nI way)] D cI cZ [(o, .inr (2, [.ref oc, .ref q0, .ref ra, .int (nI ll), .int (nI lo), .int (nI lt)])), (q0, .inr (3, [.ref q1, .int (nI n1), .int (nI n2)])), (q1, aN cI 26 pt), (ra, aN cI 400 rc), (oc, .inr (0, [.ref a1, .ref a2, .int (nI nl), .int (nI nv)])), (a1, aN cI 640 g), (a2, aN cI 80 z)]) (mQv D (mA [(o, .inr (2, [.ref oc, .ref q0, .ref ra, .int (nI ll), .int (nI lo), .int (nI lt)])), (q0, .inr (3, [.ref q1, .int (nI n1), .int (nI n2)])), (q1, aN cI 26 pt), (ra, aN cI 400 rc), (oc, .inr (0, [.ref a1, .ref a2, .int (nI nl), .int (nI nv)])), (a1, aN cI 640 g), (a2, aN cI 80 z)]) (fun (u : Nat × Nat × (Nat → Nat) × (Nat → Nat)) => rcOK way z g v nl u.2.2.2 ∧ (∀ j, u.2.2.2 j ≤ 20) ∧ (∀ j, u.2.2.1 j ≤ 126)) (fun (u : Nat × Nat × (Nat → Nat) × (Nat → Nat)) => [(o, .inr (2, [.ref oc, .ref q0, .ref ra, .int (nI ll), .int (nI lo), .int (nI lt)])), (q0, .inr (3, [.ref q1, .int (nI u.1), .int (nI u.2.1)])), (q1, aN cI 26 u.2.2.1), (ra, aN cI 400 u.2.2.2), (oc, .inr (0, [.ref a1, .ref a2, .int (nI nl), .int (nI nv)])), (a1, aN cI 640 g), (a2, aN cI 80 z)])) 0 0 (mA [(o, .inr (2, [.ref oc, .ref q0, .ref ra, .int (nI ll), .int (nI lo), .int (nI lt)])), (q0, .inr (3, [.ref q1, .int (nI n1), .int (nI n2)])), (q1, aN cI 26 pt), (ra, aN cI 400 rc), (oc, .inr (0, [.ref a1, .ref a2, .int (nI nl), .int (nI nv)])), (a1, aN cI 640 g), (a2, aN cI 80 z)]) := by
  refine Met.ofW (cc := cX2_compareAll) (maxL := 7) (ret := none) (by decide) rfl ?_
  intro p e s m args below meth c s₁ BB hml hv
  obtain ⟨hargs, hP, hD0, hK⟩ := hv
  have hx := BB.exec
  have hb := BB.bytes
  have hr := BB.returns
  have hts := atoms_spec (ws := wsX2_compareAll) BB.pre
  have hown : s.vm.findClass RX2 = some m.cls := findClass_of_methodNamed BB.named
  have hlocks := BB.notSynchronized
  have hcf : CallFix p m c cX2_compareAll 7 s args wsX2_compareAll RX2 := ⟨hx, hb, hml, hown, hts⟩
  obtain ⟨A, hAe⟩ : ∃ A, A = mA [(o, .inr (2, [.ref oc, .ref q0, .ref ra, .int (nI ll), .int (nI lo), .int (nI lt)])), (q0, .inr (3, [.ref q1, .int (nI n1), .int (nI n2)])), (q1, aN cI 26 pt), (ra, aN cI 400 rc), (oc, .inr (0, [.ref a1, .ref a2, .int (nI nl), .int (nI nv)])), (a1, aN cI 640 g), (a2, aN cI 80 z)] := ⟨_, rfl⟩
  have hD : va_D A [(o, .inr (2, [.ref oc, .ref q0, .ref ra, .int (nI ll), .int (nI lo), .int (nI lt)])), (q0, .inr (3, [.ref q1, .int (nI n1), .int (nI n2)])), (q1, aN cI 26 pt), (ra, aN cI 400 rc), (oc, .inr (0, [.ref a1, .ref a2, .int (nI nl), .int (nI nv)])), (a1, aN cI 640 g), (a2, aN cI 80 z)] := ⟨hD0.1, fun k q h => by rw [hAe]; exact ⟨k, q.2, h⟩⟩
  have hS : va_S A s.heap s.heap [] := va_S.rf
  rw [← hAe]
  rw [hargs, lg_entry_eq, ← hargs]
  have hl := lv_entry ([.ref o, .int (nI v), .int (nI way)]) (n := 7) (Nat.le_of_ble_eq_true rfl)
  generalize (lg_sl ([.ref o, .int (nI v), .int (nI way)]) ++ List.replicate (7 - (lg_sl ([.ref o, .int (nI v), .int (nI way)])).length) Slot.unset).toArray = ls at hl ⊢
  have hl : lv_has ls 7 [(0, .ref o), (1, .int (nI v)), (2, .int (nI way))] := hl
  obtain ⟨Q, hQ⟩ : ∃ Q, Q = MQ below (mQv D A (fun (u : Nat × Nat × (Nat → Nat) × (Nat → Nat)) => rcOK way z g v nl u.2.2.2 ∧ (∀ j, u.2.2.2 j ≤ 20) ∧ (∀ j, u.2.2.1 j ≤ 126)) (fun (u : Nat × Nat × (Nat → Nat) × (Nat → Nat)) => [(o, .inr (2, [.ref oc, .ref q0, .ref ra, .int (nI ll), .int (nI lo), .int (nI lt)])), (q0, .inr (3, [.ref q1, .int (nI u.1), .int (nI u.2.1)])), (q1, aN cI 26 u.2.2.1), (ra, aN cI 400 u.2.2.2), (oc, .inr (0, [.ref a1, .ref a2, .int (nI nl), .int (nI nv)])), (a1, aN cI 640 g), (a2, aN cI 80 z)])) args s 0 0 A := ⟨_, rfl⟩
  rw [← hQ]
  have i_X2 : ∀ w ∈ u_ws RX2 TX2 6, w ∈ wsX2_compareAll := by decide +kernel
  have f_32 := hts (.fieldLink RX2 32 "SameAgain$Likeness" "code" "LSameAgain$Code;") (by decide +kernel)
  refine lv_aload_n hx hb dX2_compareAll_0 rfl (lv_at hl 0 rfl) ?_
  refine va_get (D := D) (ci := 2) (v := .ref oc) (C := RX2) (T := TX2) (N := 6) hx hb hts i_X2 hown hK.1 hP 0 rfl rfl 0 (by decide) f_32 (fun _ h9 => h9) rfl dX2_compareAll_1 ?_
  refine m_rdV (As := []) (rest := []) (wc := [(oc, .inr (0, [.ref a1, .ref a2, .int (nI nl), .int (nI nv)])), (a1, aN cI 640 g), (a2, aN cI 80 z)]) hcf (k_X0_lines (l := l) (D := D) (cI := cI) (cZ := cZ) (o := oc) (a1 := a1) (a2 := a2) (nl := nl) (nv := nv) (g := g) (z := z) ) (cwV 0 hts gX2_compareAll_X0_lines rfl rfl rfl yd_X0_lines ⟨Nat.le_of_ble_eq_true rfl, Nat.le_of_ble_eq_true rfl⟩) (m_preV hK hP hD [4, 5, 6] (by decide) rfl rfl rfl) rfl hl.1 rfl (Nat.le_of_ble_eq_true rfl) dX2_compareAll_4 ⟨Nat.zero_le _, Nat.zero_le _⟩ ?_
  refine lv_istore_n (lv' := [(3, .int (nI nl)), (0, .ref o), (1, .int (nI v)), (2, .int (nI way))]) hx hb dX2_compareAll_7 rfl hl (by decide) rfl (fun ls hl => ?_)
  refine lv_iconst (v := nI 0) hx hb dX2_compareAll_8 (by decide) ?_
  refine lv_istore (lv' := [(4, .int (nI 0)), (3, .int (nI nl)), (0, .ref o), (1, .int (nI v)), (2, .int (nI way))]) hx hb dX2_compareAll_9 hl (by decide) rfl (fun ls hl => ?_)
  have loop_11 : ∀ (fu : Nat) (i m1 m2 : Nat) (mt rt : Nat → Nat) (hfu : nl - i < fu)  (hi : i ≤ nl) (hmt : ∀ j, mt j ≤ 126) (hrt : ∀ j, rt j ≤ 20) (hT : ∀ a b, a < nl → b < nl → min a b < i → rt (a * 20 + b) = rT way z g v nl a b) (H : Heap) (locs : List Loc) (hP : va_P D vwCl [(o, .inr (2, [.ref oc, .ref q0, .ref ra, .int (nI ll), .int (nI lo), .int (nI lt)])), (q0, .inr (3, [.ref q1, .int (nI m1), .int (nI m2)])), (q1, aN cI 26 mt), (ra, aN cI 400 rt), (oc, .inr (0, [.ref a1, .ref a2, .int (nI nl), .int (nI nv)])), (a1, aN cI 640 g), (a2, aN cI 80 z)] H) (hD : va_D A [(o, .inr (2, [.ref oc, .ref q0, .ref ra, .int (nI ll), .int (nI lo), .int (nI lt)])), (q0, .inr (3, [.ref q1, .int (nI m1), .int (nI m2)])), (q1, aN cI 26 mt), (ra, aN cI 400 rt), (oc, .inr (0, [.ref a1, .ref a2, .int (nI nl), .int (nI nv)])), (a1, aN cI 640 g), (a2, aN cI 80 z)]) (hS : va_S A s.heap H locs) (ls : Array Slot) (hl : lv_has ls 7 [(0, .ref o), (1, .int (nI v)), (2, .int (nI way)), (3, .int (nI nl)), (4, .int (nI i))]), W p l e (headSpec wsX2_compareAll { frames := 5, cells := 0, slots := 0, locals := 122 }).room s m args below meth c H locs 0 0 Q (F0 m 11 ls []) := by
    intro fu
    induction fu with
    | zero => intro i m1 m2 mt rt hfu; exact absurd hfu (Nat.not_lt_zero _)
    | succ fu ih_11 =>
      intro i m1 m2 mt rt hfu hi hmt hrt hT H locs hP hD hS ls hl
      refine lv_iload hx hb dX2_compareAll_11 (lv_at hl 4 rfl) ?_
      refine lv_iload_n hx hb dX2_compareAll_13 rfl (lv_at hl 3 rfl) ?_
      refine m_cmp_ge (tgt := 89) hx hb dX2_compareAll_14 (by decide) (by omega) (by omega) (fun c_14 => ?_) (fun c_14 => ?_)
      · rw [hQ]
        exact m_vwr hx hb hr hlocks (m1, m2, mt, rt) (⟨fun a b ha hb => hT a b ha hb (by omega), hrt, hmt⟩) hP hS dX2_compareAll_89
      · refine lv_aload_n hx hb dX2_compareAll_17 rfl (lv_at hl 0 rfl) ?_
        refine lv_iload hx hb dX2_compareAll_18 (lv_at hl 4 rfl) ?_
        refine lv_iload hx hb dX2_compareAll_20 (lv_at hl 4 rfl) ?_
        refine lv_iload_n hx hb dX2_compareAll_22 rfl (lv_at hl 3 rfl) ?_
        refine lv_iload hx hb dX2_compareAll_23 (lv_at hl 4 rfl) ?_
        refine m_sub hx hb (by omega) dX2_compareAll_25 ?_
        refine m_wvV (As := [.int (nI i), .int (nI i), .int (nI (nl - i))]) (rest := []) (wc := [(o, .inr (2, [.ref oc, .ref q0, .ref ra, .int (nI ll), .int (nI lo), .int (nI lt)])), (q0, .inr (3, [.ref q1, .int (nI m1), .int (nI m2)])), (q1, aN cI 26 mt), (ra, aN cI 400 rt), (oc, .inr (0, [.ref a1, .ref a2, .int (nI nl), .int (nI nv)])), (a1, aN cI 640 g), (a2, aN cI 80 z)]) hcf (k_X2_setReach (l := l) (D := D) (cI := cI) (cZ := cZ) (one := i) (other := i) (n := nl - i) (o := o) (oc := oc) (q0 := q0) (ra := ra) (ll := ll) (lo := lo) (lt := lt) (q1 := q1) (n1 := m1) (n2 := m2) (pt := mt) (rc := rt) (a1 := a1) (a2 := a2) (nl := nl) (nv := nv) (g := g) (z := z) (hnl := hnl) (hnv := hnv) (h1 := by omega) (h2 := by omega)) (cwV 3 hts gX2_compareAll_X2_setReach rfl rfl rfl yd_X2_setReach ⟨Nat.le_of_ble_eq_true rfl, Nat.le_of_ble_eq_true rfl⟩) hK hP hD hS [0, 1, 2, 3, 4, 5, 6] (by decide) rfl rfl rfl rfl hl.1 rfl (Nat.le_of_ble_eq_true rfl) dX2_compareAll_26 ⟨Nat.zero_le _, Nat.zero_le _⟩ (fun _ => rfl) (fun (u : Unit) => [(o, .inr (2, [.ref oc, .ref q0, .ref ra, .int (nI ll), .int (nI lo), .int (nI lt)])), (q0, .inr (3, [.ref q1, .int (nI m1), .int (nI m2)])), (q1, aN cI 26 mt), (ra, aN cI 400 (upN rt (i * 20 + i) (nl - i))), (oc, .inr (0, [.ref a1, .ref a2, .int (nI nl), .int (nI nv)])), (a1, aN cI 640 g), (a2, aN cI 80 z)]) (fun _ => rfl) (fun u H locs hp_26 hP hD hS => ?_)
        have hP : va_P D vwCl [(o, .inr (2, [.ref oc, .ref q0, .ref ra, .int (nI ll), .int (nI lo), .int (nI lt)])), (q0, .inr (3, [.ref q1, .int (nI m1), .int (nI m2)])), (q1, aN cI 26 mt), (ra, aN cI 400 (upN rt (i * 20 + i) (nl - i))), (oc, .inr (0, [.ref a1, .ref a2, .int (nI nl), .int (nI nv)])), (a1, aN cI 640 g), (a2, aN cI 80 z)] H := hP
        have hD : va_D A [(o, .inr (2, [.ref oc, .ref q0, .ref ra, .int (nI ll), .int (nI lo), .int (nI lt)])), (q0, .inr (3, [.ref q1, .int (nI m1), .int (nI m2)])), (q1, aN cI 26 mt), (ra, aN cI 400 (upN rt (i * 20 + i) (nl - i))), (oc, .inr (0, [.ref a1, .ref a2, .int (nI nl), .int (nI nv)])), (a1, aN cI 640 g), (a2, aN cI 80 z)] := hD
        refine lv_iload hx hb dX2_compareAll_29 (lv_at hl 4 rfl) ?_
        refine lv_iconst (v := nI 1) hx hb dX2_compareAll_31 (by decide) ?_
        refine m_add hx hb dX2_compareAll_32 ?_
        refine lv_istore (lv' := [(5, .int (nI (i + 1))), (0, .ref o), (1, .int (nI v)), (2, .int (nI way)), (3, .int (nI nl)), (4, .int (nI i))]) hx hb dX2_compareAll_33 hl (by decide) rfl (fun ls hl => ?_)
        have loop_35 : ∀ (fu : Nat) (j k1 k2 : Nat) (kt ru : Nat → Nat) (hfu : nl - j < fu)  (hj : i + 1 ≤ j) (hj2 : j ≤ nl) (hkt : ∀ q, kt q ≤ 126) (hru : ∀ q, ru q ≤ 20) (hU : ∀ a b, a < nl → b < nl → (min a b < i ∨ (min a b = i ∧ max a b < j)) → ru (a * 20 + b) = rT way z g v nl a b) (H : Heap) (locs : List Loc) (hP : va_P D vwCl [(o, .inr (2, [.ref oc, .ref q0, .ref ra, .int (nI ll), .int (nI lo), .int (nI lt)])), (q0, .inr (3, [.ref q1, .int (nI k1), .int (nI k2)])), (q1, aN cI 26 kt), (ra, aN cI 400 ru), (oc, .inr (0, [.ref a1, .ref a2, .int (nI nl), .int (nI nv)])), (a1, aN cI 640 g), (a2, aN cI 80 z)] H) (hD : va_D A [(o, .inr (2, [.ref oc, .ref q0, .ref ra, .int (nI ll), .int (nI lo), .int (nI lt)])), (q0, .inr (3, [.ref q1, .int (nI k1), .int (nI k2)])), (q1, aN cI 26 kt), (ra, aN cI 400 ru), (oc, .inr (0, [.ref a1, .ref a2, .int (nI nl), .int (nI nv)])), (a1, aN cI 640 g), (a2, aN cI 80 z)]) (hS : va_S A s.heap H locs) (ls : Array Slot) (hl : lv_has ls 7 [(0, .ref o), (1, .int (nI v)), (2, .int (nI way)), (3, .int (nI nl)), (4, .int (nI i)), (5, .int (nI j))]), W p l e (headSpec wsX2_compareAll { frames := 5, cells := 0, slots := 0, locals := 122 }).room s m args below meth c H locs 0 0 Q (F0 m 35 ls []) := by
          intro fu
          induction fu with
          | zero => intro j k1 k2 kt ru hfu; exact absurd hfu (Nat.not_lt_zero _)
          | succ fu ih_35 =>
            intro j k1 k2 kt ru hfu hj hj2 hkt hru hU H locs hP hD hS ls hl
            refine lv_iload hx hb dX2_compareAll_35 (lv_at hl 5 rfl) ?_
            refine lv_iload_n hx hb dX2_compareAll_37 rfl (lv_at hl 3 rfl) ?_
            refine m_cmp_ge (tgt := 83) hx hb dX2_compareAll_38 (by decide) (by omega) (by omega) (fun c_38 => ?_) (fun c_38 => ?_)
            · refine lv_iinc (v := nI (i + 1)) (lv' := [(4, .int (nI (i + 1))), (0, .ref o), (1, .int (nI v)), (2, .int (nI way)), (3, .int (nI nl)), (5, .int (nI j))]) hx hb dX2_compareAll_83 hl (k := 4) rfl ((nI_succ _).symm) (by decide) rfl (fun ls hl => ?_)
              refine lv_goto (tgt := 11) hx hb dX2_compareAll_86 (by decide) ?_
              exact ih_11 (i + 1) k1 k2 kt ru (by omega) (by omega) hkt hru (fun a b ha hb h => hU a b ha hb (by omega)) _ _ hP hD hS ls (lv_sub hl [1, 2, 3, 4, 0] rfl)
            · refine lv_aload_n hx hb dX2_compareAll_41 rfl (lv_at hl 0 rfl) ?_
              refine lv_iload_n hx hb dX2_compareAll_42 rfl (lv_at hl 1 rfl) ?_
              refine lv_iload_n hx hb dX2_compareAll_43 rfl (lv_at hl 2 rfl) ?_
              refine lv_iload hx hb dX2_compareAll_44 (lv_at hl 4 rfl) ?_
              refine lv_iload hx hb dX2_compareAll_46 (lv_at hl 5 rfl) ?_
              refine lv_iload_n hx hb dX2_compareAll_48 rfl (lv_at hl 3 rfl) ?_
              refine lv_iload hx hb dX2_compareAll_49 (lv_at hl 5 rfl) ?_
              refine m_sub hx hb (by omega) dX2_compareAll_51 ?_
              refine m_wrV (As := [.int (nI v), .int (nI way), .int (nI i), .int (nI j), .int (nI (nl - j))]) (rest := []) (wc := [(o, .inr (2, [.ref oc, .ref q0, .ref ra, .int (nI ll), .int (nI lo), .int (nI lt)])), (q0, .inr (3, [.ref q1, .int (nI k1), .int (nI k2)])), (q1, aN cI 26 kt), (ra, aN cI 400 ru), (oc, .inr (0, [.ref a1, .ref a2, .int (nI nl), .int (nI nv)])), (a1, aN cI 640 g), (a2, aN cI 80 z)]) hcf (k_X2_linesAlike (l := l) (D := D) (cI := cI) (cZ := cZ) (v := v) (way := way) (one := i) (other := j) (most := nl - j) (o := o) (oc := oc) (q0 := q0) (ra := ra) (ll := ll) (lo := lo) (lt := lt) (q1 := q1) (n1 := k1) (n2 := k2) (pt := kt) (rc := ru) (a1 := a1) (a2 := a2) (nl := nl) (nv := nv) (g := g) (z := z) (hnl := hnl) (hnv := hnv) (hz := hz) (hg := hg) (hpt := hkt) (hw := hw) (hv := hv) (h1 := by omega) (h2 := by omega)) (cwV 5 hts gX2_compareAll_X2_linesAlike rfl rfl rfl yd_X2_linesAlike ⟨Nat.le_of_ble_eq_true rfl, Nat.le_of_ble_eq_true rfl⟩) hK hP hD hS [0, 1, 2, 3, 4, 5, 6] (by decide) rfl rfl rfl rfl hl.1 rfl (Nat.le_of_ble_eq_true rfl) dX2_compareAll_52 ⟨Nat.zero_le _, Nat.zero_le _⟩ (fun _ => rfl) (fun (u : Nat × Nat × (Nat → Nat)) => [(o, .inr (2, [.ref oc, .ref q0, .ref ra, .int (nI ll), .int (nI lo), .int (nI lt)])), (q0, .inr (3, [.ref q1, .int (nI u.1), .int (nI u.2.1)])), (q1, aN cI 26 u.2.2), (ra, aN cI 400 ru), (oc, .inr (0, [.ref a1, .ref a2, .int (nI nl), .int (nI nv)])), (a1, aN cI 640 g), (a2, aN cI 80 z)]) (fun _ => rfl) (fun r u H locs hp_52 hP hD hS => ?_)
              obtain ⟨n1u_52, n2u_52, ptu_52⟩ := u
              have hP : va_P D vwCl [(o, .inr (2, [.ref oc, .ref q0, .ref ra, .int (nI ll), .int (nI lo), .int (nI lt)])), (q0, .inr (3, [.ref q1, .int (nI n1u_52), .int (nI n2u_52)])), (q1, aN cI 26 ptu_52), (ra, aN cI 400 ru), (oc, .inr (0, [.ref a1, .ref a2, .int (nI nl), .int (nI nv)])), (a1, aN cI 640 g), (a2, aN cI 80 z)] H := hP
              have hD : va_D A [(o, .inr (2, [.ref oc, .ref q0, .ref ra, .int (nI ll), .int (nI lo), .int (nI lt)])), (q0, .inr (3, [.ref q1, .int (nI n1u_52), .int (nI n2u_52)])), (q1, aN cI 26 ptu_52), (ra, aN cI 400 ru), (oc, .inr (0, [.ref a1, .ref a2, .int (nI nl), .int (nI nv)])), (a1, aN cI 640 g), (a2, aN cI 80 z)] := hD
              try dsimp only at hp_52
              obtain ⟨hr_hp_52, hp_52⟩ := hp_52
              rw [hr_hp_52]
              refine lv_istore (lv' := [(6, .int (nI (rlN way z g v i j (nl - j)))), (0, .ref o), (1, .int (nI v)), (2, .int (nI way)), (3, .int (nI nl)), (4, .int (nI i)), (5, .int (nI j))]) hx hb dX2_compareAll_55 hl (by decide) rfl (fun ls hl => ?_)
              refine lv_aload_n hx hb dX2_compareAll_57 rfl (lv_at hl 1 rfl) ?_
              refine lv_iload hx hb dX2_compareAll_58 (lv_at hl 5 rfl) ?_
              refine lv_iload hx hb dX2_compareAll_60 (lv_at hl 6 rfl) ?_
              refine lv_iload hx hb dX2_compareAll_62 (lv_at hl 0 rfl) ?_
              refine m_wvV (As := [.int (nI i), .int (nI j), .int (nI (rlN way z g v i j (nl - j)))]) (rest := []) (wc := [(o, .inr (2, [.ref oc, .ref q0, .ref ra, .int (nI ll), .int (nI lo), .int (nI lt)])), (q0, .inr (3, [.ref q1, .int (nI n1u_52), .int (nI n2u_52)])), (q1, aN cI 26 ptu_52), (ra, aN cI 400 ru), (oc, .inr (0, [.ref a1, .ref a2, .int (nI nl), .int (nI nv)])), (a1, aN cI 640 g), (a2, aN cI 80 z)]) hcf (k_X2_setReach (l := l) (D := D) (cI := cI) (cZ := cZ) (one := i) (other := j) (n := rlN way z g v i j (nl - j)) (o := o) (oc := oc) (q0 := q0) (ra := ra) (ll := ll) (lo := lo) (lt := lt) (q1 := q1) (n1 := n1u_52) (n2 := n2u_52) (pt := ptu_52) (rc := ru) (a1 := a1) (a2 := a2) (nl := nl) (nv := nv) (g := g) (z := z) (hnl := hnl) (hnv := hnv) (h1 := by omega) (h2 := by omega)) (cwV 3 hts gX2_compareAll_X2_setReach rfl rfl rfl yd_X2_setReach ⟨Nat.le_of_ble_eq_true rfl, Nat.le_of_ble_eq_true rfl⟩) hK hP hD hS [0, 1, 2, 3, 4, 5, 6] (by decide) rfl rfl rfl rfl hl.1 rfl (Nat.le_of_ble_eq_true rfl) dX2_compareAll_64 ⟨Nat.zero_le _, Nat.zero_le _⟩ (fun _ => rfl) (fun (u : Unit) => [(o, .inr (2, [.ref oc, .ref q0, .ref ra, .int (nI ll), .int (nI lo), .int (nI lt)])), (q0, .inr (3, [.ref q1, .int (nI n1u_52), .int (nI n2u_52)])), (q1, aN cI 26 ptu_52), (ra, aN cI 400 (upN ru (i * 20 + j) (rlN way z g v i j (nl - j)))), (oc, .inr (0, [.ref a1, .ref a2, .int (nI nl), .int (nI nv)])), (a1, aN cI 640 g), (a2, aN cI 80 z)]) (fun _ => rfl) (fun u H locs hp_64 hP hD hS => ?_)
              have hP : va_P D vwCl [(o, .inr (2, [.ref oc, .ref q0, .ref ra, .int (nI ll), .int (nI lo), .int (nI lt)])), (q0, .inr (3, [.ref q1, .int (nI n1u_52), .int (nI n2u_52)])), (q1, aN cI 26 ptu_52), (ra, aN cI 400 (upN ru (i * 20 + j) (rlN way z g v i j (nl - j)))), (oc, .inr (0, [.ref a1, .ref a2, .int (nI nl), .int (nI nv)])), (a1, aN cI 640 g), (a2, aN cI 80 z)] H := hP
              have hD : va_D A [(o, .inr (2, [.ref oc, .ref q0, .ref ra, .int (nI ll), .int (nI lo), .int (nI lt)])), (q0, .inr (3, [.ref q1, .int (nI n1u_52), .int (nI n2u_52)])), (q1, aN cI 26 ptu_52), (ra, aN cI 400 (upN ru (i * 20 + j) (rlN way z g v i j (nl - j)))), (oc, .inr (0, [.ref a1, .ref a2, .int (nI nl), .int (nI nv)])), (a1, aN cI 640 g), (a2, aN cI 80 z)] := hD
              refine lv_aload_n hx hb dX2_compareAll_67 rfl (lv_at hl 1 rfl) ?_
              refine lv_iload hx hb dX2_compareAll_68 (lv_at hl 6 rfl) ?_
              refine lv_iload hx hb dX2_compareAll_70 (lv_at hl 5 rfl) ?_
              refine lv_iload hx hb dX2_compareAll_72 (lv_at hl 0 rfl) ?_
              refine m_wvV (As := [.int (nI j), .int (nI i), .int (nI (rlN way z g v i j (nl - j)))]) (rest := []) (wc := [(o, .inr (2, [.ref oc, .ref q0, .ref ra, .int (nI ll), .int (nI lo), .int (nI lt)])), (q0, .inr (3, [.ref q1, .int (nI n1u_52), .int (nI n2u_52)])), (q1, aN cI 26 ptu_52), (ra, aN cI 400 (upN ru (i * 20 + j) (rlN way z g v i j (nl - j)))), (oc, .inr (0, [.ref a1, .ref a2, .int (nI nl), .int (nI nv)])), (a1, aN cI 640 g), (a2, aN cI 80 z)]) hcf (k_X2_setReach (l := l) (D := D) (cI := cI) (cZ := cZ) (one := j) (other := i) (n := rlN way z g v i j (nl - j)) (o := o) (oc := oc) (q0 := q0) (ra := ra) (ll := ll) (lo := lo) (lt := lt) (q1 := q1) (n1 := n1u_52) (n2 := n2u_52) (pt := ptu_52) (rc := upN ru (i * 20 + j) (rlN way z g v i j (nl - j))) (a1 := a1) (a2 := a2) (nl := nl) (nv := nv) (g := g) (z := z) (hnl := hnl) (hnv := hnv) (h1 := by omega) (h2 := by omega)) (cwV 3 hts gX2_compareAll_X2_setReach rfl rfl rfl yd_X2_setReach ⟨Nat.le_of_ble_eq_true rfl, Nat.le_of_ble_eq_true rfl⟩) hK hP hD hS [0, 1, 2, 3, 4, 5, 6] (by decide) rfl rfl rfl rfl hl.1 rfl (Nat.le_of_ble_eq_true rfl) dX2_compareAll_74 ⟨Nat.zero_le _, Nat.zero_le _⟩ (fun _ => rfl) (fun (u : Unit) => [(o, .inr (2, [.ref oc, .ref q0, .ref ra, .int (nI ll), .int (nI lo), .int (nI lt)])), (q0, .inr (3, [.ref q1, .int (nI n1u_52), .int (nI n2u_52)])), (q1, aN cI 26 ptu_52), (ra, aN cI 400 (upN (upN ru (i * 20 + j) (rlN way z g v i j (nl - j))) (j * 20 + i) (rlN way z g v i j (nl - j)))), (oc, .inr (0, [.ref a1, .ref a2, .int (nI nl), .int (nI nv)])), (a1, aN cI 640 g), (a2, aN cI 80 z)]) (fun _ => rfl) (fun u H locs hp_74 hP hD hS => ?_)
              have hP : va_P D vwCl [(o, .inr (2, [.ref oc, .ref q0, .ref ra, .int (nI ll), .int (nI lo), .int (nI lt)])), (q0, .inr (3, [.ref q1, .int (nI n1u_52), .int (nI n2u_52)])), (q1, aN cI 26 ptu_52), (ra, aN cI 400 (upN (upN ru (i * 20 + j) (rlN way z g v i j (nl - j))) (j * 20 + i) (rlN way z g v i j (nl - j)))), (oc, .inr (0, [.ref a1, .ref a2, .int (nI nl), .int (nI nv)])), (a1, aN cI 640 g), (a2, aN cI 80 z)] H := hP
              have hD : va_D A [(o, .inr (2, [.ref oc, .ref q0, .ref ra, .int (nI ll), .int (nI lo), .int (nI lt)])), (q0, .inr (3, [.ref q1, .int (nI n1u_52), .int (nI n2u_52)])), (q1, aN cI 26 ptu_52), (ra, aN cI 400 (upN (upN ru (i * 20 + j) (rlN way z g v i j (nl - j))) (j * 20 + i) (rlN way z g v i j (nl - j)))), (oc, .inr (0, [.ref a1, .ref a2, .int (nI nl), .int (nI nv)])), (a1, aN cI 640 g), (a2, aN cI 80 z)] := hD
              refine lv_iinc (v := nI (j + 1)) (lv' := [(5, .int (nI (j + 1))), (6, .int (nI (rlN way z g v i j (nl - j)))), (0, .ref o), (1, .int (nI v)), (2, .int (nI way)), (3, .int (nI nl)), (4, .int (nI i))]) hx hb dX2_compareAll_77 hl (k := 6) rfl ((nI_succ _).symm) (by decide) rfl (fun ls hl => ?_)
              refine lv_goto (tgt := 35) hx hb dX2_compareAll_80 (by decide) ?_
              have h9 := rlN_le way z g v i j (nl - j)
              exact ih_35 (j + 1) n1u_52 n2u_52 ptu_52 _ (by omega) (by omega) (by omega) hp_52.2.2.2.2.2.2 (upN_le (upN_le hru (by omega)) (by omega)) (cA_step hnl hj c_38 hU) _ _ hP hD hS ls (lv_sub hl [2, 3, 4, 5, 6, 0] rfl)
        exact loop_35 (nl + 1) (i + 1) m1 m2 mt _ (by omega) (by omega) (by omega) hmt (upN_le hrt (by omega)) (cA_in hnl c_14 hT) _ _ hP hD hS ls (lv_sub hl [1, 2, 3, 4, 5, 0] rfl)
  exact loop_11 (nl + 1) 0 n1 n2 pt rc (by omega) (by omega) hpt hrc (fun a b _ _ h => absurd h (Nat.not_lt_zero _)) _ _ hP hD hS ls (lv_sub hl [2, 3, 4, 1, 0] rfl)

theorem lgI_next {rc : Nat → Nat} {nl i j ll lo lt : Nat} (h : lgI rc nl i j ll lo lt) (hj : nl ≤ j) : lgI rc nl (i + 1) 0 ll lo lt := ⟨fun a b h1 h2 h3 => h.1 a b h1 h2 (by omega), h.2⟩
theorem lgI_in {rc : Nat → Nat} {nl i ll lo lt : Nat} (h : lgI rc nl i 0 ll lo lt) : lgI rc nl i (i + 1) ll lo lt := ⟨fun a b h1 h2 h3 => h.1 a b h1 h2 (by omega), h.2⟩
theorem lgV_le {rc : Nat → Nat} {nl i j : Nat} (h : ∀ q, rc q ≤ 20) : lgV rc nl i j ≤ 20 := Nat.le_trans (Nat.min_le_left _ _) (rcN_le h _ _ _)

theorem yd_X2_seekLongest : yX2_seekLongest.cls = RX2 ∧ yX2_seekLongest.cls ≠ "java/lang/invoke/MethodHandle" ∧ yX2_seekLongest.cls ≠ "java/lang/invoke/VarHandle" ∧ (parseMethodDescriptor yX2_seekLongest.desc).map (fun d => d.parameters.length) = some 0 := by decide +kernel
set_option maxHeartbeats 4000000 in
set_option maxRecDepth 100000 in
theorem k_X2_seekLongest (l : Launch) (D : va_G) (cI cZ : ClassId) (o q0 q1 ra oc a1 a2 ll lo lt n1 n2 nl nv : Nat) (pt rc z g : Nat → Nat) (hnl : nl ≤ 20) (hnv : nv ≤ 4) (hrc : ∀ j, rc j ≤ 20) : Met l yX2_seekLongest wsX2_seekLongest ({ frames := 2, cells := 0, slots := 0, locals := 43 }) (mPc [.ref o] D cI cZ [(o, .inr (2, [.ref oc, .ref q0, .ref ra, .int (nI ll), .int (nI lo), .int (nI lt)])), (q0, .inr (3, [.ref q1, .int (nI n1), .int (nI n2)])), (q1, aN cI 26 pt), (ra, aN cI 400 rc), (oc, .inr (0, [.ref a1, .ref a2, .int (nI nl), .int (nI nv)])), (a1, aN cI 640 g), (a2, aN cI 80 z)]) (mQv D (mA [(o, .inr (2, [.ref oc, .ref q0, .ref ra, .int (nI ll), .int (nI lo), .int (nI lt)])), (q0, .inr (3, [.ref q1, .int (nI n1), .int (nI n2)])), (q1, aN cI 26 pt), (ra, aN cI 400 rc), (oc, .inr (0, [.ref a1, .ref a2, .int (nI nl), .int (nI nv)])), (a1, aN cI 640 g), (a2, aN cI 80 z)]) (fun (u : Nat × Nat × Nat) => lgI rc nl nl 0 u.1 u.2.1 u.2.2 ∧ u.1 ≤ 20) (fun (u : Nat × Nat × Nat) => [(o, .inr (2, [.ref oc, .ref q0, .ref ra, .int (nI u.1), .int (nI u.2.1), .int (nI u.2.2)])), (q0, .inr (3, [.ref q1, .int (nI n1), .int (nI n2)])), (q1, aN cI 26 pt), (ra, aN cI 400 rc), (oc, .inr (0, [.ref a1, .ref a2, .int (nI nl), .int (nI nv)])), (a1, aN cI 640 g), (a2, aN cI 80 z)])) 0 0 (mA [(o, .inr (2, [.ref oc, .ref q0, .ref ra, .int (nI ll), .int (nI lo), .int (nI lt)])), (q0, .inr (3, [.ref q1, .int (nI n1), .int (nI n2)])), (q1, aN cI 26 pt), (ra, aN cI 400 rc), (oc, .inr (0, [.ref a1, .ref a2, .int (nI nl), .int (nI nv)])), (a1, aN cI 640 g), (a2, aN cI 80 z)]) := by
  refine Met.ofW (cc := cX2_seekLongest) (maxL := 4) (ret := none) (by decide) rfl ?_
  intro p e s m args below meth c s₁ BB hml hv
  obtain ⟨hargs, hP, hD0, hK⟩ := hv
  have hx := BB.exec
  have hb := BB.bytes
  have hr := BB.returns
  have hts := atoms_spec (ws := wsX2_seekLongest) BB.pre
  have hown : s.vm.findClass RX2 = some m.cls := findClass_of_methodNamed BB.named
  have hlocks := BB.notSynchronized
  have hcf : CallFix p m c cX2_seekLongest 4 s args wsX2_seekLongest RX2 := ⟨hx, hb, hml, hown, hts⟩
  obtain ⟨A, hAe⟩ : ∃ A, A = mA [(o, .inr (2, [.ref oc, .ref q0, .ref ra, .int (nI ll), .int (nI lo), .int (nI lt)])), (q0, .inr (3, [.ref q1, .int (nI n1), .int (nI n2)])), (q1, aN cI 26 pt), (ra, aN cI 400 rc), (oc, .inr (0, [.ref a1, .ref a2, .int (nI nl), .int (nI nv)])), (a1, aN cI 640 g), (a2, aN cI 80 z)] := ⟨_, rfl⟩
  have hD : va_D A [(o, .inr (2, [.ref oc, .ref q0, .ref ra, .int (nI ll), .int (nI lo), .int (nI lt)])), (q0, .inr (3, [.ref q1, .int (nI n1), .int (nI n2)])), (q1, aN cI 26 pt), (ra, aN cI 400 rc), (oc, .inr (0, [.ref a1, .ref a2, .int (nI nl), .int (nI nv)])), (a1, aN cI 640 g), (a2, aN cI 80 z)] := ⟨hD0.1, fun k q h => by rw [hAe]; exact ⟨k, q.2, h⟩⟩
  have hS : va_S A s.heap s.heap [] := va_S.rf
  rw [← hAe]
  rw [hargs, lg_entry_eq, ← hargs]
  have hl := lv_entry ([.ref o]) (n := 4) (Nat.le_of_ble_eq_true rfl)
  generalize (lg_sl ([.ref o]) ++ List.replicate (4 - (lg_sl ([.ref o])).length) Slot.unset).toArray = ls at hl ⊢
  have hl : lv_has ls 4 [(0, .ref o)] := hl
  obtain ⟨Q, hQ⟩ : ∃ Q, Q = MQ below (mQv D A (fun (u : Nat × Nat × Nat) => lgI rc nl nl 0 u.1 u.2.1 u.2.2 ∧ u.1 ≤ 20) (fun (u : Nat × Nat × Nat) => [(o, .inr (2, [.ref oc, .ref q0, .ref ra, .int (nI u.1), .int (nI u.2.1), .int (nI u.2.2)])), (q0, .inr (3, [.ref q1, .int (nI n1), .int (nI n2)])), (q1, aN cI 26 pt), (ra, aN cI 400 rc), (oc, .inr (0, [.ref a1, .ref a2, .int (nI nl), .int (nI nv)])), (a1, aN cI 640 g), (a2, aN cI 80 z)])) args s 0 0 A := ⟨_, rfl⟩
  rw [← hQ]
  have i_X2 : ∀ w ∈ u_ws RX2 TX2 6, w ∈ wsX2_seekLongest := by decide +kernel
  have f_22 := hts (.fieldLink RX2 22 "SameAgain$Likeness" "longestLength" "I") (by decide +kernel)
  have f_32 := hts (.fieldLink RX2 32 "SameAgain$Likeness" "code" "LSameAgain$Code;") (by decide +kernel)
  have l_94 := hts (.methodLink RX2 94 Lib.Math.min.name) (by decide +kernel)
  have ls_min := hts (.static Lib.Math.min.name) (by decide +kernel)
  have l_math := hts (.initialized "java/lang/Math") (by decide +kernel)
  have lc_min := hts (.code Lib.Math.min.name Lib.Math.min.code 2 (some .int)) (by decide +kernel)
  have f_26 := hts (.fieldLink RX2 26 "SameAgain$Likeness" "longestOne" "I") (by decide +kernel)
  have f_29 := hts (.fieldLink RX2 29 "SameAgain$Likeness" "longestOther" "I") (by decide +kernel)
  refine lv_aload_n hx hb dX2_seekLongest_0 rfl (lv_at hl 0 rfl) ?_
  refine lv_iconst (v := nI 0) hx hb dX2_seekLongest_1 (by decide) ?_
  refine va_put (D := D) (ci := 2) (v := .int (nI 0)) (ty := .int) (C := RX2) (T := TX2) (N := 6) hx hb hts i_X2 tyX2 tyX2_ok nmX2 hown hK.1 hP hD hS 0 rfl rfl 3 (by decide) f_22 (fun _ h9 => h9) rfl (by decide +kernel) rfl rfl (Nat.le_of_ble_eq_true rfl) dX2_seekLongest_2 (fun H locs hP hD hS => ?_)
  have hP : va_P D vwCl [(o, .inr (2, [.ref oc, .ref q0, .ref ra, .int (nI 0), .int (nI lo), .int (nI lt)])), (q0, .inr (3, [.ref q1, .int (nI n1), .int (nI n2)])), (q1, aN cI 26 pt), (ra, aN cI 400 rc), (oc, .inr (0, [.ref a1, .ref a2, .int (nI nl), .int (nI nv)])), (a1, aN cI 640 g), (a2, aN cI 80 z)] H := hP
  have hD : va_D A [(o, .inr (2, [.ref oc, .ref q0, .ref ra, .int (nI 0), .int (nI lo), .int (nI lt)])), (q0, .inr (3, [.ref q1, .int (nI n1), .int (nI n2)])), (q1, aN cI 26 pt), (ra, aN cI 400 rc), (oc, .inr (0, [.ref a1, .ref a2, .int (nI nl), .int (nI nv)])), (a1, aN cI 640 g), (a2, aN cI 80 z)] := hD
  refine lv_iconst (v := nI 0) hx hb dX2_seekLongest_5 (by decide) ?_
  refine lv_istore_n (lv' := [(1, .int (nI 0)), (0, .ref o)]) hx hb dX2_seekLongest_6 rfl hl (by decide) rfl (fun ls hl => ?_)
  have loop_7 : ∀ (fu : Nat) (i w1 w2 w3 : Nat) (hfu : nl - i < fu)  (hi : i ≤ nl) (hw1 : w1 ≤ 20) (hI : lgI rc nl i 0 w1 w2 w3) (H : Heap) (locs : List Loc) (hP : va_P D vwCl [(o, .inr (2, [.ref oc, .ref q0, .ref ra, .int (nI w1), .int (nI w2), .int (nI w3)])), (q0, .inr (3, [.ref q1, .int (nI n1), .int (nI n2)])), (q1, aN cI 26 pt), (ra, aN cI 400 rc), (oc, .inr (0, [.ref a1, .ref a2, .int (nI nl), .int (nI nv)])), (a1, aN cI 640 g), (a2, aN cI 80 z)] H) (hD : va_D A [(o, .inr (2, [.ref oc, .ref q0, .ref ra, .int (nI w1), .int (nI w2), .int (nI w3)])), (q0, .inr (3, [.ref q1, .int (nI n1), .int (nI n2)])), (q1, aN cI 26 pt), (ra, aN cI 400 rc), (oc, .inr (0, [.ref a1, .ref a2, .int (nI nl), .int (nI nv)])), (a1, aN cI 640 g), (a2, aN cI 80 z)]) (hS : va_S A s.heap H locs) (ls : Array Slot) (hl : lv_has ls 4 [(0, .ref o), (1, .int (nI i))]), W p l e (headSpec wsX2_seekLongest { frames := 2, cells := 0, slots := 0, locals := 43 }).room s m args below meth c H locs 0 0 Q (F0 m 7 ls []) := by
    intro fu
    induction fu with
    | zero => intro i w1 w2 w3 hfu; exact absurd hfu (Nat.not_lt_zero _)
    | succ fu ih_7 =>
      intro i w1 w2 w3 hfu hi hw1 hI H locs hP hD hS ls hl
      refine lv_iload_n hx hb dX2_seekLongest_7 rfl (lv_at hl 1 rfl) ?_
      refine lv_aload_n hx hb dX2_seekLongest_8 rfl (lv_at hl 0 rfl) ?_
      refine va_get (D := D) (ci := 2) (v := .ref oc) (C := RX2) (T := TX2) (N := 6) hx hb hts i_X2 hown hK.1 hP 0 rfl rfl 0 (by decide) f_32 (fun _ h9 => h9) rfl dX2_seekLongest_9 ?_
      refine m_rdV (As := []) (rest := [.int (nI i)]) (wc := [(oc, .inr (0, [.ref a1, .ref a2, .int (nI nl), .int (nI nv)])), (a1, aN cI 640 g), (a2, aN cI 80 z)]) hcf (k_X0_lines (l := l) (D := D) (cI := cI) (cZ := cZ) (o := oc) (a1 := a1) (a2 := a2) (nl := nl) (nv := nv) (g := g) (z := z) ) (cwV 0 hts gX2_seekLongest_X0_lines rfl rfl rfl yd_X0_lines ⟨Nat.le_of_ble_eq_true rfl, Nat.le_of_ble_eq_true rfl⟩) (m_preV hK hP hD [4, 5, 6] (by decide) rfl rfl rfl) rfl hl.1 rfl (Nat.le_of_ble_eq_true rfl) dX2_seekLongest_12 ⟨Nat.zero_le _, Nat.zero_le _⟩ ?_
      refine m_cmp_ge (tgt := 81) hx hb dX2_seekLongest_15 (by decide) (by omega) (by omega) (fun c_15 => ?_) (fun c_15 => ?_)
      · rw [hQ]
        have e9 : i = nl := by omega
        exact m_vwr hx hb hr hlocks (w1, w2, w3) (⟨by rw [e9] at hI; exact hI, hw1⟩) hP hS dX2_seekLongest_81
      · refine lv_iload_n hx hb dX2_seekLongest_18 rfl (lv_at hl 1 rfl) ?_
        refine lv_iconst (v := nI 1) hx hb dX2_seekLongest_19 (by decide) ?_
        refine m_add hx hb dX2_seekLongest_20 ?_
        refine lv_istore_n (lv' := [(2, .int (nI (i + 1))), (0, .ref o), (1, .int (nI i))]) hx hb dX2_seekLongest_21 rfl hl (by decide) rfl (fun ls hl => ?_)
        have loop_22 : ∀ (fu : Nat) (j y1 y2 y3 : Nat) (hfu : nl - j < fu)  (hj : i + 1 ≤ j) (hj2 : j ≤ nl) (hy1 : y1 ≤ 20) (hJ : lgI rc nl i j y1 y2 y3) (H : Heap) (locs : List Loc) (hP : va_P D vwCl [(o, .inr (2, [.ref oc, .ref q0, .ref ra, .int (nI y1), .int (nI y2), .int (nI y3)])), (q0, .inr (3, [.ref q1, .int (nI n1), .int (nI n2)])), (q1, aN cI 26 pt), (ra, aN cI 400 rc), (oc, .inr (0, [.ref a1, .ref a2, .int (nI nl), .int (nI nv)])), (a1, aN cI 640 g), (a2, aN cI 80 z)] H) (hD : va_D A [(o, .inr (2, [.ref oc, .ref q0, .ref ra, .int (nI y1), .int (nI y2), .int (nI y3)])), (q0, .inr (3, [.ref q1, .int (nI n1), .int (nI n2)])), (q1, aN cI 26 pt), (ra, aN cI 400 rc), (oc, .inr (0, [.ref a1, .ref a2, .int (nI nl), .int (nI nv)])), (a1, aN cI 640 g), (a2, aN cI 80 z)]) (hS : va_S A s.heap H locs) (ls : Array Slot) (hl : lv_has ls 4 [(0, .ref o), (1, .int (nI i)), (2, .int (nI j))]), W p l e (headSpec wsX2_seekLongest { frames := 2, cells := 0, slots := 0, locals := 43 }).room s m args below meth c H locs 0 0 Q (F0 m 22 ls []) := by
          intro fu
          induction fu with
          | zero => intro j y1 y2 y3 hfu; exact absurd hfu (Nat.not_lt_zero _)
          | succ fu ih_22 =>
            intro j y1 y2 y3 hfu hj hj2 hy1 hJ H locs hP hD hS ls hl
            refine lv_iload_n hx hb dX2_seekLongest_22 rfl (lv_at hl 2 rfl) ?_
            refine lv_aload_n hx hb dX2_seekLongest_23 rfl (lv_at hl 0 rfl) ?_
            refine va_get (D := D) (ci := 2) (v := .ref oc) (C := RX2) (T := TX2) (N := 6) hx hb hts i_X2 hown hK.1 hP 0 rfl rfl 0 (by decide) f_32 (fun _ h9 => h9) rfl dX2_seekLongest_24 ?_
            refine m_rdV (As := []) (rest := [.int (nI j)]) (wc := [(oc, .inr (0, [.ref a1, .ref a2, .int (nI nl), .int (nI nv)])), (a1, aN cI 640 g), (a2, aN cI 80 z)]) hcf (k_X0_lines (l := l) (D := D) (cI := cI) (cZ := cZ) (o := oc) (a1 := a1) (a2 := a2) (nl := nl) (nv := nv) (g := g) (z := z) ) (cwV 0 hts gX2_seekLongest_X0_lines rfl rfl rfl yd_X0_lines ⟨Nat.le_of_ble_eq_true rfl, Nat.le_of_ble_eq_true rfl⟩) (m_preV hK hP hD [4, 5, 6] (by decide) rfl rfl rfl) rfl hl.1 rfl (Nat.le_of_ble_eq_true rfl) dX2_seekLongest_27 ⟨Nat.zero_le _, Nat.zero_le _⟩ ?_
            refine m_cmp_ge (tgt := 75) hx hb dX2_seekLongest_30 (by decide) (by omega) (by omega) (fun c_30 => ?_) (fun c_30 => ?_)
            · refine lv_iinc (v := nI (i + 1)) (lv' := [(1, .int (nI (i + 1))), (0, .ref o), (2, .int (nI j))]) hx hb dX2_seekLongest_75 hl (k := 1) rfl ((nI_succ _).symm) (by decide) rfl (fun ls hl => ?_)
              refine lv_goto (tgt := 7) hx hb dX2_seekLongest_78 (by decide) ?_
              exact ih_7 (i + 1) y1 y2 y3 (by omega) (by omega) hy1 (lgI_next hJ c_30) _ _ hP hD hS ls (lv_sub hl [1, 0] rfl)
            · refine lv_aload_n hx hb dX2_seekLongest_33 rfl (lv_at hl 0 rfl) ?_
              refine lv_iload_n hx hb dX2_seekLongest_34 rfl (lv_at hl 1 rfl) ?_
              refine lv_iload_n hx hb dX2_seekLongest_35 rfl (lv_at hl 2 rfl) ?_
              refine m_rdV (As := [.int (nI i), .int (nI j)]) (rest := []) (wc := [(o, .inr (2, [.ref oc, .ref q0, .ref ra, .int (nI y1), .int (nI y2), .int (nI y3)])), (q0, .inr (3, [.ref q1, .int (nI n1), .int (nI n2)])), (q1, aN cI 26 pt), (ra, aN cI 400 rc), (oc, .inr (0, [.ref a1, .ref a2, .int (nI nl), .int (nI nv)])), (a1, aN cI 640 g), (a2, aN cI 80 z)]) hcf (k_X2_reachOf (l := l) (D := D) (cI := cI) (cZ := cZ) (one := i) (other := j) (o := o) (oc := oc) (q0 := q0) (ra := ra) (ll := y1) (lo := y2) (lt := y3) (q1 := q1) (n1 := n1) (n2 := n2) (pt := pt) (rc := rc) (a1 := a1) (a2 := a2) (nl := nl) (nv := nv) (g := g) (z := z) (hnl := hnl) (hnv := hnv) (h1 := by omega) (h2 := by omega) (hrc := hrc)) (cwV 2 hts gX2_seekLongest_X2_reachOf rfl rfl rfl yd_X2_reachOf ⟨Nat.le_of_ble_eq_true rfl, Nat.le_of_ble_eq_true rfl⟩) (m_preV hK hP hD [0, 1, 2, 3, 4, 5, 6] (by decide) rfl rfl rfl) rfl hl.1 rfl (Nat.le_of_ble_eq_true rfl) dX2_seekLongest_36 ⟨Nat.zero_le _, Nat.zero_le _⟩ ?_
              refine lv_iload_n hx hb dX2_seekLongest_39 rfl (lv_at hl 2 rfl) ?_
              refine lv_iload_n hx hb dX2_seekLongest_40 rfl (lv_at hl 1 rfl) ?_
              refine m_sub hx hb (by omega) dX2_seekLongest_41 ?_
              refine va_mmin hx hb (hml.trans hl.1.symm) hown l_94 ls_min l_math lc_min (Nat.le_of_ble_eq_true rfl) (Nat.le_of_ble_eq_true rfl) (Nat.zero_le _) (Nat.zero_le _) dX2_seekLongest_42 ?_
              refine m_top (y := nI (min (rcN rc nl i j) (j - i))) (m_minE (Nat.lt_of_le_of_lt (rcN_le hrc _ _ _) (by decide)) (by omega)) ?_
              have hv9 : lgV rc nl i j ≤ 20 := lgV_le hrc
              refine lv_istore_n (lv' := [(3, .int (nI (min (rcN rc nl i j) (j - i)))), (0, .ref o), (1, .int (nI i)), (2, .int (nI j))]) hx hb dX2_seekLongest_45 rfl hl (by decide) rfl (fun ls hl => ?_)
              refine lv_iload_n hx hb dX2_seekLongest_46 rfl (lv_at hl 0 rfl) ?_
              refine lv_aload_n hx hb dX2_seekLongest_47 rfl (lv_at hl 1 rfl) ?_
              refine va_get (D := D) (ci := 2) (v := .int (nI y1)) (C := RX2) (T := TX2) (N := 6) hx hb hts i_X2 hown hK.1 hP 0 rfl rfl 3 (by decide) f_22 (fun _ h9 => h9) rfl dX2_seekLongest_48 ?_
              refine m_cmp_le (tgt := 69) hx hb dX2_seekLongest_51 (by decide) (Nat.lt_of_le_of_lt hv9 (by decide)) (by omega) (fun c_51 => ?_) (fun c_51 => ?_)
              · refine lv_iinc (v := nI (j + 1)) (lv' := [(2, .int (nI (j + 1))), (3, .int (nI (min (rcN rc nl i j) (j - i)))), (0, .ref o), (1, .int (nI i))]) hx hb dX2_seekLongest_69 hl (k := 3) rfl ((nI_succ _).symm) (by decide) rfl (fun ls hl => ?_)
                refine lv_goto (tgt := 22) hx hb dX2_seekLongest_72 (by decide) ?_
                exact ih_22 (j + 1) y1 y2 y3 (by omega) (by omega) (by omega) hy1 (lgI_keep hJ c_51) _ _ hP hD hS ls (lv_sub hl [2, 3, 0] rfl)
              · refine lv_aload_n hx hb dX2_seekLongest_54 rfl (lv_at hl 1 rfl) ?_
                refine lv_iload_n hx hb dX2_seekLongest_55 rfl (lv_at hl 0 rfl) ?_
                refine va_put (D := D) (ci := 2) (v := .int (nI (min (rcN rc nl i j) (j - i)))) (ty := .int) (C := RX2) (T := TX2) (N := 6) hx hb hts i_X2 tyX2 tyX2_ok nmX2 hown hK.1 hP hD hS 0 rfl rfl 3 (by decide) f_22 (fun _ h9 => h9) rfl (by decide +kernel) rfl rfl (Nat.le_of_ble_eq_true rfl) dX2_seekLongest_56 (fun H locs hP hD hS => ?_)
                have hP : va_P D vwCl [(o, .inr (2, [.ref oc, .ref q0, .ref ra, .int (nI (min (rcN rc nl i j) (j - i))), .int (nI y2), .int (nI y3)])), (q0, .inr (3, [.ref q1, .int (nI n1), .int (nI n2)])), (q1, aN cI 26 pt), (ra, aN cI 400 rc), (oc, .inr (0, [.ref a1, .ref a2, .int (nI nl), .int (nI nv)])), (a1, aN cI 640 g), (a2, aN cI 80 z)] H := hP
                have hD : va_D A [(o, .inr (2, [.ref oc, .ref q0, .ref ra, .int (nI (min (rcN rc nl i j) (j - i))), .int (nI y2), .int (nI y3)])), (q0, .inr (3, [.ref q1, .int (nI n1), .int (nI n2)])), (q1, aN cI 26 pt), (ra, aN cI 400 rc), (oc, .inr (0, [.ref a1, .ref a2, .int (nI nl), .int (nI nv)])), (a1, aN cI 640 g), (a2, aN cI 80 z)] := hD
                refine lv_aload_n hx hb dX2_seekLongest_59 rfl (lv_at hl 1 rfl) ?_
                refine lv_iload_n hx hb dX2_seekLongest_60 rfl (lv_at hl 2 rfl) ?_
                refine va_put (D := D) (ci := 2) (v := .int (nI i)) (ty := .int) (C := RX2) (T := TX2) (N := 6) hx hb hts i_X2 tyX2 tyX2_ok nmX2 hown hK.1 hP hD hS 0 rfl rfl 4 (by decide) f_26 (fun _ h9 => h9) rfl (by decide +kernel) rfl rfl (Nat.le_of_ble_eq_true rfl) dX2_seekLongest_61 (fun H locs hP hD hS => ?_)
                have hP : va_P D vwCl [(o, .inr (2, [.ref oc, .ref q0, .ref ra, .int (nI (min (rcN rc nl i j) (j - i))), .int (nI i), .int (nI y3)])), (q0, .inr (3, [.ref q1, .int (nI n1), .int (nI n2)])), (q1, aN cI 26 pt), (ra, aN cI 400 rc), (oc, .inr (0, [.ref a1, .ref a2, .int (nI nl), .int (nI nv)])), (a1, aN cI 640 g), (a2, aN cI 80 z)] H := hP
                have hD : va_D A [(o, .inr (2, [.ref oc, .ref q0, .ref ra, .int (nI (min (rcN rc nl i j) (j - i))), .int (nI i), .int (nI y3)])), (q0, .inr (3, [.ref q1, .int (nI n1), .int (nI n2)])), (q1, aN cI 26 pt), (ra, aN cI 400 rc), (oc, .inr (0, [.ref a1, .ref a2, .int (nI nl), .int (nI nv)])), (a1, aN cI 640 g), (a2, aN cI 80 z)] := hD
                refine lv_aload_n hx hb dX2_seekLongest_64 rfl (lv_at hl 1 rfl) ?_
                refine lv_iload_n hx hb dX2_seekLongest_65 rfl (lv_at hl 3 rfl) ?_
                refine va_put (D := D) (ci := 2) (v := .int (nI j)) (ty := .int) (C := RX2) (T := TX2) (N := 6) hx hb hts i_X2 tyX2 tyX2_ok nmX2 hown hK.1 hP hD hS 0 rfl rfl 5 (by decide) f_29 (fun _ h9 => h9) rfl (by decide +kernel) rfl rfl (Nat.le_of_ble_eq_true rfl) dX2_seekLongest_66 (fun H locs hP hD hS => ?_)
                have hP : va_P D vwCl [(o, .inr (2, [.ref oc, .ref q0, .ref ra, .int (nI (min (rcN rc nl i j) (j - i))), .int (nI i), .int (nI j)])), (q0, .inr (3, [.ref q1, .int (nI n1), .int (nI n2)])), (q1, aN cI 26 pt), (ra, aN cI 400 rc), (oc, .inr (0, [.ref a1, .ref a2, .int (nI nl), .int (nI nv)])), (a1, aN cI 640 g), (a2, aN cI 80 z)] H := hP
                have hD : va_D A [(o, .inr (2, [.ref oc, .ref q0, .ref ra, .int (nI (min (rcN rc nl i j) (j - i))), .int (nI i), .int (nI j)])), (q0, .inr (3, [.ref q1, .int (nI n1), .int (nI n2)])), (q1, aN cI 26 pt), (ra, aN cI 400 rc), (oc, .inr (0, [.ref a1, .ref a2, .int (nI nl), .int (nI nv)])), (a1, aN cI 640 g), (a2, aN cI 80 z)] := hD
                refine lv_iinc (v := nI (j + 1)) (lv' := [(2, .int (nI (j + 1))), (3, .int (nI (min (rcN rc nl i j) (j - i)))), (0, .ref o), (1, .int (nI i))]) hx hb dX2_seekLongest_69 hl (k := 3) rfl ((nI_succ _).symm) (by decide) rfl (fun ls hl => ?_)
                refine lv_goto (tgt := 22) hx hb dX2_seekLongest_72 (by decide) ?_
                exact ih_22 (j + 1) _ _ _ (by omega) (by omega) (by omega) hv9 (lgI_new hJ (by omega) c_30 c_51) _ _ hP hD hS ls (lv_sub hl [2, 3, 0] rfl)
        exact loop_22 (nl + 1) (i + 1) w1 w2 w3 (by omega) (by omega) (by omega) hw1 (lgI_in hI) _ _ hP hD hS ls (lv_sub hl [1, 2, 0] rfl)
  exact loop_7 (nl + 1) 0 0 lo lt (by omega) (by omega) (by omega) (lgI_0 _ _ _ _) _ _ hP hD hS ls (lv_sub hl [1, 0] rfl)

theorem yd_X2_startsLike : yX2_startsLike.cls = RX2 ∧ yX2_startsLike.cls ≠ "java/lang/invoke/MethodHandle" ∧ yX2_startsLike.cls ≠ "java/lang/invoke/VarHandle" ∧ (parseMethodDescriptor yX2_startsLike.desc).map (fun d => d.parameters.length) = some 2 := by decide +kernel
set_option maxHeartbeats 4000000 in
set_option maxRecDepth 100000 in
theorem k_X2_startsLike (l : Launch) (D : va_G) (cI cZ : ClassId) (o q0 q1 ra oc a1 a2 ll lo lt n1 n2 nl nv : Nat) (pt rc z g : Nat → Nat) (start n : Nat) (hnl : nl ≤ 20) (hnv : nv ≤ 4) (hrc : ∀ j, rc j ≤ 20) (h1 : start ≤ 20) (hn : n ≤ 21) : Met l yX2_startsLike wsX2_startsLike ({ frames := 2, cells := 0, slots := 0, locals := 43 }) (mPc [.ref o, .int (nI start), .int (nI n)] D cI cZ [(o, .inr (2, [.ref oc, .ref q0, .ref ra, .int (nI ll), .int (nI lo), .int (nI lt)])), (q0, .inr (3, [.ref q1, .int (nI n1), .int (nI n2)])), (q1, aN cI 26 pt), (ra, aN cI 400 rc), (oc, .inr (0, [.ref a1, .ref a2, .int (nI nl), .int (nI nv)])), (a1, aN cI 640 g), (a2, aN cI 80 z)]) (QcRead (nI (slN rc nl start n))) 0 0 (fun _ => False) := by
  refine Met.ofW (cc := cX2_startsLike) (maxL := 5) (ret := (some .int)) (by decide) rfl ?_
  intro p e s m args below meth c s₁ BB hml hv
  obtain ⟨hargs, hP, hD0, hK⟩ := hv
  have hx := BB.exec
  have hb := BB.bytes
  have hr := BB.returns
  have hts := atoms_spec (ws := wsX2_startsLike) BB.pre
  have hown : s.vm.findClass RX2 = some m.cls := findClass_of_methodNamed BB.named
  have hlocks := BB.notSynchronized
  have hcf : CallFix p m c cX2_startsLike 5 s args wsX2_startsLike RX2 := ⟨hx, hb, hml, hown, hts⟩
  have hD := hD0
  rw [hargs, lg_entry_eq, ← hargs]
  have hl := lv_entry ([.ref o, .int (nI start), .int (nI n)]) (n := 5) (Nat.le_of_ble_eq_true rfl)
  generalize (lg_sl ([.ref o, .int (nI start), .int (nI n)]) ++ List.replicate (5 - (lg_sl ([.ref o, .int (nI start), .int (nI n)])).length) Slot.unset).toArray = ls at hl ⊢
  have hl : lv_has ls 5 [(0, .ref o), (1, .int (nI start)), (2, .int (nI n))] := hl
  obtain ⟨Q, hQ⟩ : ∃ Q, Q = MQ below (QcRead (nI (slN rc nl start n))) args s 0 0 (fun _ => False) := ⟨_, rfl⟩
  rw [← hQ]
  have i_X2 : ∀ w ∈ u_ws RX2 TX2 6, w ∈ wsX2_startsLike := by decide +kernel
  have f_32 := hts (.fieldLink RX2 32 "SameAgain$Likeness" "code" "LSameAgain$Code;") (by decide +kernel)
  refine lv_iconst (v := nI 0) hx hb dX2_startsLike_0 (by decide) ?_
  refine lv_istore_n (lv' := [(3, .int (nI 0)), (0, .ref o), (1, .int (nI start)), (2, .int (nI n))]) hx hb dX2_startsLike_1 rfl hl (by decide) rfl (fun ls hl => ?_)
  refine lv_iconst (v := nI 0) hx hb dX2_startsLike_2 (by decide) ?_
  refine lv_istore (lv' := [(4, .int (nI 0)), (3, .int (nI 0)), (0, .ref o), (1, .int (nI start)), (2, .int (nI n))]) hx hb dX2_startsLike_3 hl (by decide) rfl (fun ls hl => ?_)
  have loop_5 : ∀ (fu : Nat) (k f : Nat) (hfu : nl - k < fu)  (hk : k ≤ nl) (hf : f = mkN (fun oo => decide (n ≤ rcN rc nl start oo)) k) (ls : Array Slot) (hl : lv_has ls 5 [(0, .ref o), (1, .int (nI start)), (2, .int (nI n)), (3, .int (nI f)), (4, .int (nI k))]), W p l e (headSpec wsX2_startsLike { frames := 2, cells := 0, slots := 0, locals := 43 }).room s m args below meth c s.heap [] 0 0 Q (F0 m 5 ls []) := by
    intro fu
    induction fu with
    | zero => intro k f hfu; exact absurd hfu (Nat.not_lt_zero _)
    | succ fu ih_5 =>
      intro k f hfu hk hf ls hl
      refine lv_iload hx hb dX2_startsLike_5 (lv_at hl 4 rfl) ?_
      refine lv_aload_n hx hb dX2_startsLike_7 rfl (lv_at hl 0 rfl) ?_
      refine va_get (D := D) (ci := 2) (v := .ref oc) (C := RX2) (T := TX2) (N := 6) hx hb hts i_X2 hown hK.1 hP 0 rfl rfl 0 (by decide) f_32 (fun _ h9 => h9) rfl dX2_startsLike_8 ?_
      refine m_rdV (As := []) (rest := [.int (nI k)]) (wc := [(oc, .inr (0, [.ref a1, .ref a2, .int (nI nl), .int (nI nv)])), (a1, aN cI 640 g), (a2, aN cI 80 z)]) hcf (k_X0_lines (l := l) (D := D) (cI := cI) (cZ := cZ) (o := oc) (a1 := a1) (a2 := a2) (nl := nl) (nv := nv) (g := g) (z := z) ) (cwV 0 hts gX2_startsLike_X0_lines rfl rfl rfl yd_X0_lines ⟨Nat.le_of_ble_eq_true rfl, Nat.le_of_ble_eq_true rfl⟩) (m_preV hK hP hD [4, 5, 6] (by decide) rfl rfl rfl) rfl hl.1 rfl (Nat.le_of_ble_eq_true rfl) dX2_startsLike_11 ⟨Nat.zero_le _, Nat.zero_le _⟩ ?_
      refine m_cmp_ge (tgt := 41) hx hb dX2_startsLike_14 (by decide) (by omega) (by omega) (fun c_14 => ?_) (fun c_14 => ?_)
      · refine lv_iload_n hx hb dX2_startsLike_41 rfl (lv_at hl 3 rfl) ?_
        rw [hQ]
        have e9 : k = nl := by omega
        exact m_ird hx hb hr hlocks (by rw [hf, e9]; rfl) dX2_startsLike_42
      · refine lv_aload_n hx hb dX2_startsLike_17 rfl (lv_at hl 0 rfl) ?_
        refine lv_iload_n hx hb dX2_startsLike_18 rfl (lv_at hl 1 rfl) ?_
        refine lv_iload hx hb dX2_startsLike_19 (lv_at hl 4 rfl) ?_
        refine m_rdV (As := [.int (nI start), .int (nI k)]) (rest := []) (wc := [(o, .inr (2, [.ref oc, .ref q0, .ref ra, .int (nI ll), .int (nI lo), .int (nI lt)])), (q0, .inr (3, [.ref q1, .int (nI n1), .int (nI n2)])), (q1, aN cI 26 pt), (ra, aN cI 400 rc), (oc, .inr (0, [.ref a1, .ref a2, .int (nI nl), .int (nI nv)])), (a1, aN cI 640 g), (a2, aN cI 80 z)]) hcf (k_X2_reachOf (l := l) (D := D) (cI := cI) (cZ := cZ) (one := start) (other := k) (o := o) (oc := oc) (q0 := q0) (ra := ra) (ll := ll) (lo := lo) (lt := lt) (q1 := q1) (n1 := n1) (n2 := n2) (pt := pt) (rc := rc) (a1 := a1) (a2 := a2) (nl := nl) (nv := nv) (g := g) (z := z) (hnl := hnl) (hnv := hnv) (h1 := by omega) (h2 := by omega) (hrc := hrc)) (cwV 2 hts gX2_startsLike_X2_reachOf rfl rfl rfl yd_X2_reachOf ⟨Nat.le_of_ble_eq_true rfl, Nat.le_of_ble_eq_true rfl⟩) (m_preV hK hP hD [0, 1, 2, 3, 4, 5, 6] (by decide) rfl rfl rfl) rfl hl.1 rfl (Nat.le_of_ble_eq_true rfl) dX2_startsLike_21 ⟨Nat.zero_le _, Nat.zero_le _⟩ ?_
        refine lv_iload_n hx hb dX2_startsLike_24 rfl (lv_at hl 2 rfl) ?_
        refine m_cmp_lt (tgt := 35) hx hb dX2_startsLike_25 (by decide) (Nat.lt_of_le_of_lt (rcN_le hrc _ _ _) (by decide)) (by omega) (fun c_25 => ?_) (fun c_25 => ?_)
        · refine lv_iinc (v := nI (k + 1)) (lv' := [(4, .int (nI (k + 1))), (0, .ref o), (1, .int (nI start)), (2, .int (nI n)), (3, .int (nI f))]) hx hb dX2_startsLike_35 hl (k := 4) rfl ((nI_succ _).symm) (by decide) rfl (fun ls hl => ?_)
          refine lv_goto (tgt := 5) hx hb dX2_startsLike_38 (by decide) ?_
          exact ih_5 (k + 1) _ (by omega) (by omega) (by rw [hf]; exact mkN_f (decide_eq_false (by omega)))  ls (lv_sub hl [1, 2, 3, 4, 0] rfl)
        · refine lv_iload_n hx hb dX2_startsLike_28 rfl (lv_at hl 3 rfl) ?_
          refine lv_iconst (v := nI 1) hx hb dX2_startsLike_29 (by decide) ?_
          refine lv_iload hx hb dX2_startsLike_30 (lv_at hl 4 rfl) ?_
          refine m_shl1 hx hb (by omega) dX2_startsLike_32 ?_
          refine m_or hx hb dX2_startsLike_33 ?_
          refine lv_istore_n (lv' := [(3, .int (nI (f ||| (2 ^ k)))), (0, .ref o), (1, .int (nI start)), (2, .int (nI n)), (4, .int (nI k))]) hx hb dX2_startsLike_34 rfl hl (by decide) rfl (fun ls hl => ?_)
          refine lv_iinc (v := nI (k + 1)) (lv' := [(4, .int (nI (k + 1))), (3, .int (nI (f ||| (2 ^ k)))), (0, .ref o), (1, .int (nI start)), (2, .int (nI n))]) hx hb dX2_startsLike_35 hl (k := 4) rfl ((nI_succ _).symm) (by decide) rfl (fun ls hl => ?_)
          refine lv_goto (tgt := 5) hx hb dX2_startsLike_38 (by decide) ?_
          exact ih_5 (k + 1) _ (by omega) (by omega) (by rw [hf]; exact mkN_t (decide_eq_true c_25))  ls (lv_sub hl [2, 3, 4, 1, 0] rfl)
  exact loop_5 (nl + 1) 0 0 (by omega) (by omega) rfl  ls (lv_sub hl [2, 3, 4, 1, 0] rfl)

theorem yd_X2_leastOf : yX2_leastOf.cls = RX2 ∧ yX2_leastOf.cls ≠ "java/lang/invoke/MethodHandle" ∧ yX2_leastOf.cls ≠ "java/lang/invoke/VarHandle" ∧ (parseMethodDescriptor yX2_leastOf.desc).map (fun d => d.parameters.length) = some 1 := by decide +kernel
set_option maxHeartbeats 4000000 in
set_option maxRecDepth 100000 in
theorem k_X2_leastOf (l : Launch) (D : va_G) (cI cZ : ClassId) (x : Nat) (hx2 : x < 2 ^ 20) : Met l yX2_leastOf wsX2_leastOf ({ frames := 0, cells := 0, slots := 0, locals := 0 }) (mPc [.int (nI x)] D cI cZ []) (QcRead (nI (lsN x))) 0 0 (fun _ => False) := by
  refine Met.ofW (cc := cX2_leastOf) (maxL := 2) (ret := (some .int)) (by decide) rfl ?_
  intro p e s m args below meth c s₁ BB hml hv
  obtain ⟨hargs, hP, hD0, hK⟩ := hv
  have hx := BB.exec
  have hb := BB.bytes
  have hr := BB.returns
  have hts := atoms_spec (ws := wsX2_leastOf) BB.pre
  have hown : s.vm.findClass RX2 = some m.cls := findClass_of_methodNamed BB.named
  have hlocks := BB.notSynchronized
  have hcf : CallFix p m c cX2_leastOf 2 s args wsX2_leastOf RX2 := ⟨hx, hb, hml, hown, hts⟩
  have hD := hD0
  rw [hargs, lg_entry_eq, ← hargs]
  have hl := lv_entry ([.int (nI x)]) (n := 2) (Nat.le_of_ble_eq_true rfl)
  generalize (lg_sl ([.int (nI x)]) ++ List.replicate (2 - (lg_sl ([.int (nI x)])).length) Slot.unset).toArray = ls at hl ⊢
  have hl : lv_has ls 2 [(0, .int (nI x))] := hl
  obtain ⟨Q, hQ⟩ : ∃ Q, Q = MQ below (QcRead (nI (lsN x))) args s 0 0 (fun _ => False) := ⟨_, rfl⟩
  rw [← hQ]
  refine lv_iconst (v := nI 0) hx hb dX2_leastOf_0 (by decide) ?_
  refine lv_istore_n (lv' := [(1, .int (nI 0)), (0, .int (nI x))]) hx hb dX2_leastOf_1 rfl hl (by decide) rfl (fun ls hl => ?_)
  have loop_2 : ∀ (fu : Nat) (k : Nat) (hfu : 20 - k < fu)  (hk : k ≤ 20) (hall : ∀ j, j < k → x.testBit j = false) (ls : Array Slot) (hl : lv_has ls 2 [(0, .int (nI x)), (1, .int (nI k))]), W p l e (headSpec wsX2_leastOf { frames := 0, cells := 0, slots := 0, locals := 0 }).room s m args below meth c s.heap [] 0 0 Q (F0 m 2 ls []) := by
    intro fu
    induction fu with
    | zero => intro k hfu; exact absurd hfu (Nat.not_lt_zero _)
    | succ fu ih_2 =>
      intro k hfu hk hall ls hl
      refine lv_iload_n hx hb dX2_leastOf_2 rfl (lv_at hl 1 rfl) ?_
      refine lv_bipush (v := nI 20) hx hb dX2_leastOf_3 (by decide) ?_
      refine m_cmp_ge (tgt := 22) hx hb dX2_leastOf_5 (by decide) (by omega) (by omega) (fun c_5 => ?_) (fun c_5 => ?_)
      · refine lv_iload_n hx hb dX2_leastOf_22 rfl (lv_at hl 1 rfl) ?_
        rw [hQ]
        exact m_ird hx hb hr hlocks (by rw [show lsN x = k from first_eq hk hall (fun h9 => by first | (exact absurd c_5 (by omega)) | exact and_pow_ne.mp c_13)]) dX2_leastOf_23
      · refine lv_iload_n hx hb dX2_leastOf_8 rfl (lv_at hl 0 rfl) ?_
        refine lv_iconst (v := nI 1) hx hb dX2_leastOf_9 (by decide) ?_
        refine lv_iload_n hx hb dX2_leastOf_10 rfl (lv_at hl 1 rfl) ?_
        refine m_shl1 hx hb (by omega) dX2_leastOf_11 ?_
        refine m_and hx hb dX2_leastOf_12 ?_
        refine m_if_ne (tgt := 22) hx hb dX2_leastOf_13 (by decide) (and_pow_lt _ (by omega)) (fun c_13 => ?_) (fun c_13 => ?_)
        · refine lv_iload_n hx hb dX2_leastOf_22 rfl (lv_at hl 1 rfl) ?_
          rw [hQ]
          exact m_ird hx hb hr hlocks (by rw [show lsN x = k from first_eq hk hall (fun h9 => by first | (exact absurd c_5 (by omega)) | exact and_pow_ne.mp c_13)]) dX2_leastOf_23
        · refine lv_iinc (v := nI (k + 1)) (lv' := [(1, .int (nI (k + 1))), (0, .int (nI x))]) hx hb dX2_leastOf_16 hl (k := 1) rfl ((nI_succ _).symm) (by decide) rfl (fun ls hl => ?_)
          refine lv_goto (tgt := 2) hx hb dX2_leastOf_19 (by decide) ?_
          exact ih_2 (k + 1) (by omega) (by omega) (lt_s hall ((fb_bit_nat _ _).mp c_13))  ls (lv_sub hl [1, 0] rfl)
  exact loop_2 21 0 (by omega) (by omega) (fun j hj => absurd hj (Nat.not_lt_zero j))  ls (lv_sub hl [1, 0] rfl)

theorem shr_le (n k : Nat) : n >>> k ≤ n := by rw [Nat.shiftRight_eq_div_pow]; exact Nat.div_le_self _ _

theorem yd_J6_bitCount_0f7a4 : yJ6_bitCount_0f7a4.cls = RJ6 ∧ yJ6_bitCount_0f7a4.cls ≠ "java/lang/invoke/MethodHandle" ∧ yJ6_bitCount_0f7a4.cls ≠ "java/lang/invoke/VarHandle" ∧ (parseMethodDescriptor yJ6_bitCount_0f7a4.desc).map (fun d => d.parameters.length) = some 1 := by decide +kernel
set_option maxHeartbeats 4000000 in
set_option maxRecDepth 100000 in
theorem k_J6_bitCount_0f7a4 (l : Launch) (D : va_G) (cI cZ : ClassId) (x : Nat) (hx2 : x < 2 ^ 20) : Met l yJ6_bitCount_0f7a4 wsJ6_bitCount_0f7a4 ({ frames := 0, cells := 0, slots := 0, locals := 0 }) (mPc [.int (nI x)] D cI cZ []) (QcRead (nI (bcN x))) 0 0 (fun _ => False) := by
  refine Met.ofW (cc := cJ6_bitCount_0f7a4) (maxL := 1) (ret := (some .int)) (by decide) rfl ?_
  intro p e s m args below meth c s₁ BB hml hv
  obtain ⟨hargs, hP, hD0, hK⟩ := hv
  have hx := BB.exec
  have hb := BB.bytes
  have hr := BB.returns
  have hts := atoms_spec (ws := wsJ6_bitCount_0f7a4) BB.pre
  have hown : s.vm.findClass RJ6 = some m.cls := findClass_of_methodNamed BB.named
  have hlocks := BB.notSynchronized
  have hcf : CallFix p m c cJ6_bitCount_0f7a4 1 s args wsJ6_bitCount_0f7a4 RJ6 := ⟨hx, hb, hml, hown, hts⟩
  have hD := hD0
  rw [hargs, lg_entry_eq, ← hargs]
  have hl := lv_entry ([.int (nI x)]) (n := 1) (Nat.le_of_ble_eq_true rfl)
  generalize (lg_sl ([.int (nI x)]) ++ List.replicate (1 - (lg_sl ([.int (nI x)])).length) Slot.unset).toArray = ls at hl ⊢
  have hl : lv_has ls 1 [(0, .int (nI x))] := hl
  obtain ⟨Q, hQ⟩ : ∃ Q, Q = MQ below (QcRead (nI (bcN x))) args s 0 0 (fun _ => False) := ⟨_, rfl⟩
  rw [← hQ]
  have k_265 := hts (.constant RJ6 265 (1431655765)) (by decide +kernel)
  have k_266 := hts (.constant RJ6 266 (858993459)) (by decide +kernel)
  have k_267 := hts (.constant RJ6 267 (252645135)) (by decide +kernel)
  have b1 : (x - ((x >>> 1) &&& 1431655765)) ≤ x := Nat.sub_le _ _
  have b2 : (((x - ((x >>> 1) &&& 1431655765)) &&& 858993459) + (((x - ((x >>> 1) &&& 1431655765)) >>> 2) &&& 858993459)) ≤ x + x := Nat.add_le_add (Nat.le_trans Nat.and_le_left b1) (Nat.le_trans Nat.and_le_left (Nat.le_trans (shr_le _ _) b1))
  have b3 : (((((x - ((x >>> 1) &&& 1431655765)) &&& 858993459) + (((x - ((x >>> 1) &&& 1431655765)) >>> 2) &&& 858993459)) + ((((x - ((x >>> 1) &&& 1431655765)) &&& 858993459) + (((x - ((x >>> 1) &&& 1431655765)) >>> 2) &&& 858993459)) >>> 4)) &&& 252645135) ≤ 252645135 := Nat.and_le_right
  have b4 : ((((((x - ((x >>> 1) &&& 1431655765)) &&& 858993459) + (((x - ((x >>> 1) &&& 1431655765)) >>> 2) &&& 858993459)) + ((((x - ((x >>> 1) &&& 1431655765)) &&& 858993459) + (((x - ((x >>> 1) &&& 1431655765)) >>> 2) &&& 858993459)) >>> 4)) &&& 252645135) + ((((((x - ((x >>> 1) &&& 1431655765)) &&& 858993459) + (((x - ((x >>> 1) &&& 1431655765)) >>> 2) &&& 858993459)) + ((((x - ((x >>> 1) &&& 1431655765)) &&& 858993459) + (((x - ((x >>> 1) &&& 1431655765)) >>> 2) &&& 858993459)) >>> 4)) &&& 252645135) >>> 8)) ≤ 252645135 + 252645135 := Nat.add_le_add b3 (Nat.le_trans (shr_le _ _) b3)
  have e9 := pc_ok hx2
  unfold pcR pcT at e9
  refine lv_iload_n hx hb dJ6_bitCount_0f7a4_0 rfl (lv_at hl 0 rfl) ?_
  refine lv_iload_n hx hb dJ6_bitCount_0f7a4_1 rfl (lv_at hl 0 rfl) ?_
  refine lv_iconst (v := nI 1) hx hb dJ6_bitCount_0f7a4_2 (by decide) ?_
  refine lv_iushr (v := nI (x >>> 1)) hx hb dJ6_bitCount_0f7a4_3 (m_ushrE (by omega) (by omega)) ?_
  refine lv_ldcw (v := nI 1431655765) hx hb hown k_265 dJ6_bitCount_0f7a4_4 ?_
  refine m_and hx hb dJ6_bitCount_0f7a4_7 ?_
  refine m_sub hx hb (Nat.le_trans Nat.and_le_left (shr_le _ _)) dJ6_bitCount_0f7a4_8 ?_
  refine lv_istore_n (lv' := [(0, .int (nI (x - ((x >>> 1) &&& 1431655765))))]) hx hb dJ6_bitCount_0f7a4_9 rfl hl (by decide) rfl (fun ls hl => ?_)
  refine lv_iload_n hx hb dJ6_bitCount_0f7a4_10 rfl (lv_at hl 0 rfl) ?_
  refine lv_ldcw (v := nI 858993459) hx hb hown k_266 dJ6_bitCount_0f7a4_11 ?_
  refine m_and hx hb dJ6_bitCount_0f7a4_14 ?_
  refine lv_iload_n hx hb dJ6_bitCount_0f7a4_15 rfl (lv_at hl 0 rfl) ?_
  refine lv_iconst (v := nI 2) hx hb dJ6_bitCount_0f7a4_16 (by decide) ?_
  refine lv_iushr (v := nI ((x - ((x >>> 1) &&& 1431655765)) >>> 2)) hx hb dJ6_bitCount_0f7a4_17 (m_ushrE (by omega) (by omega)) ?_
  refine lv_ldcw (v := nI 858993459) hx hb hown k_266 dJ6_bitCount_0f7a4_18 ?_
  refine m_and hx hb dJ6_bitCount_0f7a4_21 ?_
  refine m_add hx hb dJ6_bitCount_0f7a4_22 ?_
  refine lv_istore_n (lv' := [(0, .int (nI (((x - ((x >>> 1) &&& 1431655765)) &&& 858993459) + (((x - ((x >>> 1) &&& 1431655765)) >>> 2) &&& 858993459))))]) hx hb dJ6_bitCount_0f7a4_23 rfl hl (by decide) rfl (fun ls hl => ?_)
  refine lv_iload_n hx hb dJ6_bitCount_0f7a4_24 rfl (lv_at hl 0 rfl) ?_
  refine lv_iload_n hx hb dJ6_bitCount_0f7a4_25 rfl (lv_at hl 0 rfl) ?_
  refine lv_iconst (v := nI 4) hx hb dJ6_bitCount_0f7a4_26 (by decide) ?_
  refine lv_iushr (v := nI ((((x - ((x >>> 1) &&& 1431655765)) &&& 858993459) + (((x - ((x >>> 1) &&& 1431655765)) >>> 2) &&& 858993459)) >>> 4)) hx hb dJ6_bitCount_0f7a4_27 (m_ushrE (by omega) (by omega)) ?_
  refine m_add hx hb dJ6_bitCount_0f7a4_28 ?_
  refine lv_ldcw (v := nI 252645135) hx hb hown k_267 dJ6_bitCount_0f7a4_29 ?_
  refine m_and hx hb dJ6_bitCount_0f7a4_32 ?_
  refine lv_istore_n (lv' := [(0, .int (nI (((((x - ((x >>> 1) &&& 1431655765)) &&& 858993459) + (((x - ((x >>> 1) &&& 1431655765)) >>> 2) &&& 858993459)) + ((((x - ((x >>> 1) &&& 1431655765)) &&& 858993459) + (((x - ((x >>> 1) &&& 1431655765)) >>> 2) &&& 858993459)) >>> 4)) &&& 252645135)))]) hx hb dJ6_bitCount_0f7a4_33 rfl hl (by decide) rfl (fun ls hl => ?_)
  refine lv_iload_n hx hb dJ6_bitCount_0f7a4_34 rfl (lv_at hl 0 rfl) ?_
  refine lv_iload_n hx hb dJ6_bitCount_0f7a4_35 rfl (lv_at hl 0 rfl) ?_
  refine lv_bipush (v := nI 8) hx hb dJ6_bitCount_0f7a4_36 (by decide) ?_
  refine lv_iushr (v := nI ((((((x - ((x >>> 1) &&& 1431655765)) &&& 858993459) + (((x - ((x >>> 1) &&& 1431655765)) >>> 2) &&& 858993459)) + ((((x - ((x >>> 1) &&& 1431655765)) &&& 858993459) + (((x - ((x >>> 1) &&& 1431655765)) >>> 2) &&& 858993459)) >>> 4)) &&& 252645135) >>> 8)) hx hb dJ6_bitCount_0f7a4_38 (m_ushrE (by omega) (by omega)) ?_
  refine m_add hx hb dJ6_bitCount_0f7a4_39 ?_
  refine lv_istore_n (lv' := [(0, .int (nI ((((((x - ((x >>> 1) &&& 1431655765)) &&& 858993459) + (((x - ((x >>> 1) &&& 1431655765)) >>> 2) &&& 858993459)) + ((((x - ((x >>> 1) &&& 1431655765)) &&& 858993459) + (((x - ((x >>> 1) &&& 1431655765)) >>> 2) &&& 858993459)) >>> 4)) &&& 252645135) + ((((((x - ((x >>> 1) &&& 1431655765)) &&& 858993459) + (((x - ((x >>> 1) &&& 1431655765)) >>> 2) &&& 858993459)) + ((((x - ((x >>> 1) &&& 1431655765)) &&& 858993459) + (((x - ((x >>> 1) &&& 1431655765)) >>> 2) &&& 858993459)) >>> 4)) &&& 252645135) >>> 8))))]) hx hb dJ6_bitCount_0f7a4_40 rfl hl (by decide) rfl (fun ls hl => ?_)
  refine lv_iload_n hx hb dJ6_bitCount_0f7a4_41 rfl (lv_at hl 0 rfl) ?_
  refine lv_iload_n hx hb dJ6_bitCount_0f7a4_42 rfl (lv_at hl 0 rfl) ?_
  refine lv_bipush (v := nI 16) hx hb dJ6_bitCount_0f7a4_43 (by decide) ?_
  refine lv_iushr (v := nI (((((((x - ((x >>> 1) &&& 1431655765)) &&& 858993459) + (((x - ((x >>> 1) &&& 1431655765)) >>> 2) &&& 858993459)) + ((((x - ((x >>> 1) &&& 1431655765)) &&& 858993459) + (((x - ((x >>> 1) &&& 1431655765)) >>> 2) &&& 858993459)) >>> 4)) &&& 252645135) + ((((((x - ((x >>> 1) &&& 1431655765)) &&& 858993459) + (((x - ((x >>> 1) &&& 1431655765)) >>> 2) &&& 858993459)) + ((((x - ((x >>> 1) &&& 1431655765)) &&& 858993459) + (((x - ((x >>> 1) &&& 1431655765)) >>> 2) &&& 858993459)) >>> 4)) &&& 252645135) >>> 8)) >>> 16)) hx hb dJ6_bitCount_0f7a4_45 (m_ushrE (by omega) (by omega)) ?_
  refine m_add hx hb dJ6_bitCount_0f7a4_46 ?_
  refine lv_istore_n (lv' := [(0, .int (nI (((((((x - ((x >>> 1) &&& 1431655765)) &&& 858993459) + (((x - ((x >>> 1) &&& 1431655765)) >>> 2) &&& 858993459)) + ((((x - ((x >>> 1) &&& 1431655765)) &&& 858993459) + (((x - ((x >>> 1) &&& 1431655765)) >>> 2) &&& 858993459)) >>> 4)) &&& 252645135) + ((((((x - ((x >>> 1) &&& 1431655765)) &&& 858993459) + (((x - ((x >>> 1) &&& 1431655765)) >>> 2) &&& 858993459)) + ((((x - ((x >>> 1) &&& 1431655765)) &&& 858993459) + (((x - ((x >>> 1) &&& 1431655765)) >>> 2) &&& 858993459)) >>> 4)) &&& 252645135) >>> 8)) + (((((((x - ((x >>> 1) &&& 1431655765)) &&& 858993459) + (((x - ((x >>> 1) &&& 1431655765)) >>> 2) &&& 858993459)) + ((((x - ((x >>> 1) &&& 1431655765)) &&& 858993459) + (((x - ((x >>> 1) &&& 1431655765)) >>> 2) &&& 858993459)) >>> 4)) &&& 252645135) + ((((((x - ((x >>> 1) &&& 1431655765)) &&& 858993459) + (((x - ((x >>> 1) &&& 1431655765)) >>> 2) &&& 858993459)) + ((((x - ((x >>> 1) &&& 1431655765)) &&& 858993459) + (((x - ((x >>> 1) &&& 1431655765)) >>> 2) &&& 858993459)) >>> 4)) &&& 252645135) >>> 8)) >>> 16))))]) hx hb dJ6_bitCount_0f7a4_47 rfl hl (by decide) rfl (fun ls hl => ?_)
  refine lv_iload_n hx hb dJ6_bitCount_0f7a4_48 rfl (lv_at hl 0 rfl) ?_
  refine lv_bipush (v := nI 63) hx hb dJ6_bitCount_0f7a4_49 (by decide) ?_
  refine m_and hx hb dJ6_bitCount_0f7a4_51 ?_
  rw [hQ]
  exact m_ird hx hb hr hlocks (by rw [← e9]) dJ6_bitCount_0f7a4_52

theorem yd_X2_isLeastOfGroup : yX2_isLeastOfGroup.cls = RX2 ∧ yX2_isLeastOfGroup.cls ≠ "java/lang/invoke/MethodHandle" ∧ yX2_isLeastOfGroup.cls ≠ "java/lang/invoke/VarHandle" ∧ (parseMethodDescriptor yX2_isLeastOfGroup.desc).map (fun d => d.parameters.length) = some 2 := by decide +kernel
set_option maxHeartbeats 4000000 in
set_option maxRecDepth 100000 in
theorem k_X2_isLeastOfGroup (l : Launch) (D : va_G) (cI cZ : ClassId) (o q0 q1 ra oc a1 a2 ll lo lt n1 n2 nl nv : Nat) (pt rc z g : Nat → Nat) (start n : Nat) (hnl : nl ≤ 20) (hnv : nv ≤ 4) (hrc : ∀ j, rc j ≤ 20) (h1 : start ≤ 20) (hn : n ≤ 21) : Met l yX2_isLeastOfGroup wsX2_isLeastOfGroup ({ frames := 3, cells := 0, slots := 0, locals := 67 }) (mPc [.ref o, .int (nI start), .int (nI n)] D cI cZ [(o, .inr (2, [.ref oc, .ref q0, .ref ra, .int (nI ll), .int (nI lo), .int (nI lt)])), (q0, .inr (3, [.ref q1, .int (nI n1), .int (nI n2)])), (q1, aN cI 26 pt), (ra, aN cI 400 rc), (oc, .inr (0, [.ref a1, .ref a2, .int (nI nl), .int (nI nv)])), (a1, aN cI 640 g), (a2, aN cI 80 z)]) (QcRead (bI (lgB rc nl start n))) 0 0 (fun _ => False) := by
  refine Met.ofW (cc := cX2_isLeastOfGroup) (maxL := 4) (ret := (some .boolean)) (by decide) rfl ?_
  intro p e s m args below meth c s₁ BB hml hv
  obtain ⟨hargs, hP, hD0, hK⟩ := hv
  have hx := BB.exec
  have hb := BB.bytes
  have hr := BB.returns
  have hts := atoms_spec (ws := wsX2_isLeastOfGroup) BB.pre
  have hown : s.vm.findClass RX2 = some m.cls := findClass_of_methodNamed BB.named
  have hlocks := BB.notSynchronized
  have hcf : CallFix p m c cX2_isLeastOfGroup 4 s args wsX2_isLeastOfGroup RX2 := ⟨hx, hb, hml, hown, hts⟩
  have hD := hD0
  rw [hargs, lg_entry_eq, ← hargs]
  have hl := lv_entry ([.ref o, .int (nI start), .int (nI n)]) (n := 4) (Nat.le_of_ble_eq_true rfl)
  generalize (lg_sl ([.ref o, .int (nI start), .int (nI n)]) ++ List.replicate (4 - (lg_sl ([.ref o, .int (nI start), .int (nI n)])).length) Slot.unset).toArray = ls at hl ⊢
  have hl : lv_has ls 4 [(0, .ref o), (1, .int (nI start)), (2, .int (nI n))] := hl
  obtain ⟨Q, hQ⟩ : ∃ Q, Q = MQ below (QcRead (bI (lgB rc nl start n))) args s 0 0 (fun _ => False) := ⟨_, rfl⟩
  rw [← hQ]
  have hs9 : slN rc nl start n < 2 ^ 20 := slN_lt hnl
  have hb9 := bcN_le (slN rc nl start n)
  have hl9 := lsN_le (slN rc nl start n)
  refine lv_aload_n hx hb dX2_isLeastOfGroup_0 rfl (lv_at hl 0 rfl) ?_
  refine lv_iload_n hx hb dX2_isLeastOfGroup_1 rfl (lv_at hl 1 rfl) ?_
  refine lv_iload_n hx hb dX2_isLeastOfGroup_2 rfl (lv_at hl 2 rfl) ?_
  refine m_rdV (As := [.int (nI start), .int (nI n)]) (rest := []) (wc := [(o, .inr (2, [.ref oc, .ref q0, .ref ra, .int (nI ll), .int (nI lo), .int (nI lt)])), (q0, .inr (3, [.ref q1, .int (nI n1), .int (nI n2)])), (q1, aN cI 26 pt), (ra, aN cI 400 rc), (oc, .inr (0, [.ref a1, .ref a2, .int (nI nl), .int (nI nv)])), (a1, aN cI 640 g), (a2, aN cI 80 z)]) hcf (k_X2_startsLike (l := l) (D := D) (cI := cI) (cZ := cZ) (start := start) (n := n) (o := o) (oc := oc) (q0 := q0) (ra := ra) (ll := ll) (lo := lo) (lt := lt) (q1 := q1) (n1 := n1) (n2 := n2) (pt := pt) (rc := rc) (a1 := a1) (a2 := a2) (nl := nl) (nv := nv) (g := g) (z := z) (hnl := hnl) (hnv := hnv) (hrc := hrc) (h1 := h1) (hn := hn)) (cwV 2 hts gX2_isLeastOfGroup_X2_startsLike rfl rfl rfl yd_X2_startsLike ⟨Nat.le_of_ble_eq_true rfl, Nat.le_of_ble_eq_true rfl⟩) (m_preV hK hP hD [0, 1, 2, 3, 4, 5, 6] (by decide) rfl rfl rfl) rfl hl.1 rfl (Nat.le_of_ble_eq_true rfl) dX2_isLeastOfGroup_3 ⟨Nat.zero_le _, Nat.zero_le _⟩ ?_
  refine lv_istore_n (lv' := [(3, .int (nI (slN rc nl start n))), (0, .ref o), (1, .int (nI start)), (2, .int (nI n))]) hx hb dX2_isLeastOfGroup_6 rfl hl (by decide) rfl (fun ls hl => ?_)
  refine lv_iload_n hx hb dX2_isLeastOfGroup_7 rfl (lv_at hl 0 rfl) ?_
  refine m_rdS (As := [.int (nI (slN rc nl start n))]) (rest := []) (wc := []) hcf (k_J6_bitCount_0f7a4 (l := l) (D := D) (cI := cI) (cZ := cZ) (x := slN rc nl start n) (hx2 := hs9)) (va_cwS 1 hts gX2_isLeastOfGroup_J6_bitCount_0f7a4 rfl rfl rfl yd_J6_bitCount_0f7a4.2 ⟨Nat.le_of_ble_eq_true rfl, Nat.le_of_ble_eq_true rfl⟩) (m_preS hK hP hD [] (by decide) rfl) rfl hl.1 rfl (Nat.le_of_ble_eq_true rfl) dX2_isLeastOfGroup_8 ⟨Nat.zero_le _, Nat.zero_le _⟩ ?_
  refine lv_iconst (v := nI 2) hx hb dX2_isLeastOfGroup_11 (by decide) ?_
  refine m_cmp_lt (tgt := 27) hx hb dX2_isLeastOfGroup_12 (by decide) (by omega) (by omega) (fun c_12 => ?_) (fun c_12 => ?_)
  · refine lv_iconst (v := nI 0) hx hb dX2_isLeastOfGroup_27 (by decide) ?_
    rw [hQ]
    exact m_zrd hx hb hr hlocks (b_zero (by omega)) dX2_isLeastOfGroup_28
  · refine lv_iload_n hx hb dX2_isLeastOfGroup_15 rfl (lv_at hl 0 rfl) ?_
    refine m_rdS (As := [.int (nI (slN rc nl start n))]) (rest := []) (wc := []) hcf (k_X2_leastOf (l := l) (D := D) (cI := cI) (cZ := cZ) (x := slN rc nl start n) (hx2 := hs9)) (va_cwS 1 hts gX2_isLeastOfGroup_X2_leastOf rfl rfl rfl yd_X2_leastOf.2 ⟨Nat.le_of_ble_eq_true rfl, Nat.le_of_ble_eq_true rfl⟩) (m_preS hK hP hD [] (by decide) rfl) rfl hl.1 rfl (Nat.le_of_ble_eq_true rfl) dX2_isLeastOfGroup_16 ⟨Nat.zero_le _, Nat.zero_le _⟩ ?_
    refine lv_iload_n hx hb dX2_isLeastOfGroup_19 rfl (lv_at hl 2 rfl) ?_
    refine m_cmp_ne (tgt := 27) hx hb dX2_isLeastOfGroup_20 (by decide) (by omega) (by omega) (fun c_20 => ?_) (fun c_20 => ?_)
    · refine lv_iconst (v := nI 0) hx hb dX2_isLeastOfGroup_27 (by decide) ?_
      rw [hQ]
      exact m_zrd hx hb hr hlocks (b_zero (by omega)) dX2_isLeastOfGroup_28
    · refine lv_iconst (v := nI 1) hx hb dX2_isLeastOfGroup_23 (by decide) ?_
      refine lv_goto (tgt := 28) hx hb dX2_isLeastOfGroup_24 (by decide) ?_
      rw [hQ]
      exact m_zrd hx hb hr hlocks (b_one (by omega)) dX2_isLeastOfGroup_28

theorem yd_X2_isWithinLonger : yX2_isWithinLonger.cls = RX2 ∧ yX2_isWithinLonger.cls ≠ "java/lang/invoke/MethodHandle" ∧ yX2_isWithinLonger.cls ≠ "java/lang/invoke/VarHandle" ∧ (parseMethodDescriptor yX2_isWithinLonger.desc).map (fun d => d.parameters.length) = some 2 := by decide +kernel
set_option maxHeartbeats 4000000 in
set_option maxRecDepth 100000 in
theorem k_X2_isWithinLonger (l : Launch) (D : va_G) (cI cZ : ClassId) (o q0 q1 ra oc a1 a2 ll lo lt n1 n2 nl nv : Nat) (pt rc z g : Nat → Nat) (gr n : Nat) (hnl : nl ≤ 20) (hnv : nv ≤ 4) (hrc : ∀ j, rc j ≤ 20) (hgr : gr < 2 ^ 20) (hn : n ≤ 20) : Met l yX2_isWithinLonger wsX2_isWithinLonger ({ frames := 3, cells := 0, slots := 0, locals := 67 }) (mPc [.ref o, .int (nI gr), .int (nI n)] D cI cZ [(o, .inr (2, [.ref oc, .ref q0, .ref ra, .int (nI ll), .int (nI lo), .int (nI lt)])), (q0, .inr (3, [.ref q1, .int (nI n1), .int (nI n2)])), (q1, aN cI 26 pt), (ra, aN cI 400 rc), (oc, .inr (0, [.ref a1, .ref a2, .int (nI nl), .int (nI nv)])), (a1, aN cI 640 g), (a2, aN cI 80 z)]) (QcRead (bI (wlB rc nl gr n))) 0 0 (fun _ => False) := by
  refine Met.ofW (cc := cX2_isWithinLonger) (maxL := 4) (ret := (some .boolean)) (by decide) rfl ?_
  intro p e s m args below meth c s₁ BB hml hv
  obtain ⟨hargs, hP, hD0, hK⟩ := hv
  have hx := BB.exec
  have hb := BB.bytes
  have hr := BB.returns
  have hts := atoms_spec (ws := wsX2_isWithinLonger) BB.pre
  have hown : s.vm.findClass RX2 = some m.cls := findClass_of_methodNamed BB.named
  have hlocks := BB.notSynchronized
  have hcf : CallFix p m c cX2_isWithinLonger 4 s args wsX2_isWithinLonger RX2 := ⟨hx, hb, hml, hown, hts⟩
  have hD := hD0
  rw [hargs, lg_entry_eq, ← hargs]
  have hl := lv_entry ([.ref o, .int (nI gr), .int (nI n)]) (n := 4) (Nat.le_of_ble_eq_true rfl)
  generalize (lg_sl ([.ref o, .int (nI gr), .int (nI n)]) ++ List.replicate (4 - (lg_sl ([.ref o, .int (nI gr), .int (nI n)])).length) Slot.unset).toArray = ls at hl ⊢
  have hl : lv_has ls 4 [(0, .ref o), (1, .int (nI gr)), (2, .int (nI n))] := hl
  obtain ⟨Q, hQ⟩ : ∃ Q, Q = MQ below (QcRead (bI (wlB rc nl gr n))) args s 0 0 (fun _ => False) := ⟨_, rfl⟩
  rw [← hQ]
  have hl9 := lsN_le gr
  have hg9 := shr_le gr 1
  refine lv_iload_n hx hb dX2_isWithinLonger_0 rfl (lv_at hl 1 rfl) ?_
  refine m_rdS (As := [.int (nI gr)]) (rest := []) (wc := []) hcf (k_X2_leastOf (l := l) (D := D) (cI := cI) (cZ := cZ) (x := gr) (hx2 := hgr)) (va_cwS 1 hts gX2_isWithinLonger_X2_leastOf rfl rfl rfl yd_X2_leastOf.2 ⟨Nat.le_of_ble_eq_true rfl, Nat.le_of_ble_eq_true rfl⟩) (m_preS hK hP hD [] (by decide) rfl) rfl hl.1 rfl (Nat.le_of_ble_eq_true rfl) dX2_isWithinLonger_1 ⟨Nat.zero_le _, Nat.zero_le _⟩ ?_
  refine lv_istore_n (lv' := [(3, .int (nI (lsN gr))), (0, .ref o), (1, .int (nI gr)), (2, .int (nI n))]) hx hb dX2_isWithinLonger_4 rfl hl (by decide) rfl (fun ls hl => ?_)
  refine lv_aload_n hx hb dX2_isWithinLonger_5 rfl (lv_at hl 1 rfl) ?_
  refine lv_iload_n hx hb dX2_isWithinLonger_6 rfl (lv_at hl 0 rfl) ?_
  refine lv_iload_n hx hb dX2_isWithinLonger_7 rfl (lv_at hl 3 rfl) ?_
  refine lv_iconst (v := nI 1) hx hb dX2_isWithinLonger_8 (by decide) ?_
  refine m_add hx hb dX2_isWithinLonger_9 ?_
  refine m_rdV (As := [.int (nI (lsN gr)), .int (nI (n + 1))]) (rest := []) (wc := [(o, .inr (2, [.ref oc, .ref q0, .ref ra, .int (nI ll), .int (nI lo), .int (nI lt)])), (q0, .inr (3, [.ref q1, .int (nI n1), .int (nI n2)])), (q1, aN cI 26 pt), (ra, aN cI 400 rc), (oc, .inr (0, [.ref a1, .ref a2, .int (nI nl), .int (nI nv)])), (a1, aN cI 640 g), (a2, aN cI 80 z)]) hcf (k_X2_startsLike (l := l) (D := D) (cI := cI) (cZ := cZ) (start := lsN gr) (n := n + 1) (o := o) (oc := oc) (q0 := q0) (ra := ra) (ll := ll) (lo := lo) (lt := lt) (q1 := q1) (n1 := n1) (n2 := n2) (pt := pt) (rc := rc) (a1 := a1) (a2 := a2) (nl := nl) (nv := nv) (g := g) (z := z) (hnl := hnl) (hnv := hnv) (hrc := hrc) (h1 := by omega) (hn := by omega)) (cwV 2 hts gX2_isWithinLonger_X2_startsLike rfl rfl rfl yd_X2_startsLike ⟨Nat.le_of_ble_eq_true rfl, Nat.le_of_ble_eq_true rfl⟩) (m_preV hK hP hD [0, 1, 2, 3, 4, 5, 6] (by decide) rfl rfl rfl) rfl hl.1 rfl (Nat.le_of_ble_eq_true rfl) dX2_isWithinLonger_10 ⟨Nat.zero_le _, Nat.zero_le _⟩ ?_
  refine lv_iload_n hx hb dX2_isWithinLonger_13 rfl (lv_at hl 2 rfl) ?_
  refine m_cmp_ne (tgt := 19) hx hb dX2_isWithinLonger_14 (by decide) (Nat.lt_trans (slN_lt hnl) (by decide)) (by omega) (fun c_14 => ?_) (fun c_14 => ?_)
  · refine lv_iload_n hx hb dX2_isWithinLonger_19 rfl (lv_at hl 0 rfl) ?_
    refine m_if_le (tgt := 43) hx hb dX2_isWithinLonger_20 (by decide) (by omega) (fun c_20 => ?_) (fun c_20 => ?_)
    · refine lv_iconst (v := nI 0) hx hb dX2_isWithinLonger_43 (by decide) ?_
      rw [hQ]
      exact m_zrd hx hb hr hlocks (b_zero (by first | (rintro (h | h); exact c_14 h; exact c_36 h.2) | (rintro (h | h); exact c_14 h; omega))) dX2_isWithinLonger_44
    · refine lv_aload_n hx hb dX2_isWithinLonger_23 rfl (lv_at hl 1 rfl) ?_
      refine lv_iload_n hx hb dX2_isWithinLonger_24 rfl (lv_at hl 0 rfl) ?_
      refine lv_iconst (v := nI 1) hx hb dX2_isWithinLonger_25 (by decide) ?_
      refine m_sub hx hb (by omega) dX2_isWithinLonger_26 ?_
      refine lv_iload_n hx hb dX2_isWithinLonger_27 rfl (lv_at hl 3 rfl) ?_
      refine lv_iconst (v := nI 1) hx hb dX2_isWithinLonger_28 (by decide) ?_
      refine m_add hx hb dX2_isWithinLonger_29 ?_
      refine m_rdV (As := [.int (nI ((lsN gr) - 1)), .int (nI (n + 1))]) (rest := []) (wc := [(o, .inr (2, [.ref oc, .ref q0, .ref ra, .int (nI ll), .int (nI lo), .int (nI lt)])), (q0, .inr (3, [.ref q1, .int (nI n1), .int (nI n2)])), (q1, aN cI 26 pt), (ra, aN cI 400 rc), (oc, .inr (0, [.ref a1, .ref a2, .int (nI nl), .int (nI nv)])), (a1, aN cI 640 g), (a2, aN cI 80 z)]) hcf (k_X2_startsLike (l := l) (D := D) (cI := cI) (cZ := cZ) (start := (lsN gr) - 1) (n := n + 1) (o := o) (oc := oc) (q0 := q0) (ra := ra) (ll := ll) (lo := lo) (lt := lt) (q1 := q1) (n1 := n1) (n2 := n2) (pt := pt) (rc := rc) (a1 := a1) (a2 := a2) (nl := nl) (nv := nv) (g := g) (z := z) (hnl := hnl) (hnv := hnv) (hrc := hrc) (h1 := by omega) (hn := by omega)) (cwV 2 hts gX2_isWithinLonger_X2_startsLike rfl rfl rfl yd_X2_startsLike ⟨Nat.le_of_ble_eq_true rfl, Nat.le_of_ble_eq_true rfl⟩) (m_preV hK hP hD [0, 1, 2, 3, 4, 5, 6] (by decide) rfl rfl rfl) rfl hl.1 rfl (Nat.le_of_ble_eq_true rfl) dX2_isWithinLonger_30 ⟨Nat.zero_le _, Nat.zero_le _⟩ ?_
      refine lv_iload_n hx hb dX2_isWithinLonger_33 rfl (lv_at hl 2 rfl) ?_
      refine lv_iconst (v := nI 1) hx hb dX2_isWithinLonger_34 (by decide) ?_
      refine m_shr hx hb (by omega) (by omega) dX2_isWithinLonger_35 ?_
      refine m_cmp_ne (tgt := 43) hx hb dX2_isWithinLonger_36 (by decide) (Nat.lt_trans (slN_lt hnl) (by decide)) (by omega) (fun c_36 => ?_) (fun c_36 => ?_)
      · refine lv_iconst (v := nI 0) hx hb dX2_isWithinLonger_43 (by decide) ?_
        rw [hQ]
        exact m_zrd hx hb hr hlocks (b_zero (by first | (rintro (h | h); exact c_14 h; exact c_36 h.2) | (rintro (h | h); exact c_14 h; omega))) dX2_isWithinLonger_44
      · refine lv_iconst (v := nI 1) hx hb dX2_isWithinLonger_39 (by decide) ?_
        refine lv_goto (tgt := 44) hx hb dX2_isWithinLonger_40 (by decide) ?_
        rw [hQ]
        exact m_zrd hx hb hr hlocks (b_one (Or.inr ⟨c_20, c_36⟩)) dX2_isWithinLonger_44
  · refine lv_iconst (v := nI 1) hx hb dX2_isWithinLonger_17 (by decide) ?_
    rw [hQ]
    exact m_zrd hx hb hr hlocks (b_one (Or.inl c_14)) dX2_isWithinLonger_18
