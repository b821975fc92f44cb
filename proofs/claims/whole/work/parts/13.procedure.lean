theorem yd_X5_take : yX5_take.cls = RX5 ∧ yX5_take.cls ≠ "java/lang/invoke/MethodHandle" ∧ yX5_take.cls ≠ "java/lang/invoke/VarHandle" ∧ (parseMethodDescriptor yX5_take.desc).map (fun d => d.parameters.length) = some 2 := by decide +kernel
set_option maxHeartbeats 4000000 in
set_option maxRecDepth 100000 in
theorem k_X5_take (l : Launch) (D : va_G) (cI cZ : ClassId) (o5 oc o s5 va tc ts tn td : Nat) (sv : Int32) (st : Nat → Nat) (gr n : Nat) (hgr : gr < 2 ^ 20) (hn1 : 1 ≤ n) (hn : n ≤ 20) (hgp : ∀ t, gr.testBit t = true → t + n ≤ 20) : Met l yX5_take wsX5_take ({ frames := 0, cells := 0, slots := 0, locals := 0 }) (mPc [.ref o5, .int (nI gr), .int (nI n)] D cI cZ [(o5, .inr (5, [.ref oc, .ref o, .ref s5, .int (nI va), .int (nI tc), .int (nI ts), .int (nI tn), .int (nI td), .int sv])), (s5, aN cI 20 st)]) (mQv D (mA [(o5, .inr (5, [.ref oc, .ref o, .ref s5, .int (nI va), .int (nI tc), .int (nI ts), .int (nI tn), .int (nI td), .int sv])), (s5, aN cI 20 st)]) (fun (u : (Nat → Nat)) => stOK u (tkF gr n 20).1 (tkF gr n 20).2.2.2 20) (fun (u : (Nat → Nat)) => [(o5, .inr (5, [.ref oc, .ref o, .ref s5, .int (nI va), .int (nI ((tkF gr n 20).2.2.2)), .int (nI ((tkF gr n 20).1)), .int (nI ((tkF gr n 20).2.2.1)), .int (nI td), .int sv])), (s5, aN cI 20 u)])) 0 0 (mA [(o5, .inr (5, [.ref oc, .ref o, .ref s5, .int (nI va), .int (nI tc), .int (nI ts), .int (nI tn), .int (nI td), .int sv])), (s5, aN cI 20 st)]) := by
  refine Met.ofW (cc := cX5_take) (maxL := 5) (ret := none) (by decide) rfl ?_
  intro p e s m args below meth c s₁ BB hml hv
  obtain ⟨hargs, hP, hD0, hK⟩ := hv
  have hx := BB.exec
  have hb := BB.bytes
  have hr := BB.returns
  have hts := atoms_spec (ws := wsX5_take) BB.pre
  have hown : s.vm.findClass RX5 = some m.cls := findClass_of_methodNamed BB.named
  have hlocks := BB.notSynchronized
  have hcf : CallFix p m c cX5_take 5 s args wsX5_take RX5 := ⟨hx, hb, hml, hown, hts⟩
  obtain ⟨A, hAe⟩ : ∃ A, A = mA [(o5, .inr (5, [.ref oc, .ref o, .ref s5, .int (nI va), .int (nI tc), .int (nI ts), .int (nI tn), .int (nI td), .int sv])), (s5, aN cI 20 st)] := ⟨_, rfl⟩
  have hD : va_D A [(o5, .inr (5, [.ref oc, .ref o, .ref s5, .int (nI va), .int (nI tc), .int (nI ts), .int (nI tn), .int (nI td), .int sv])), (s5, aN cI 20 st)] := ⟨hD0.1, fun k q h => by rw [hAe]; exact ⟨k, q.2, h⟩⟩
  have hS : va_S A s.heap s.heap [] := va_S.rf
  rw [← hAe]
  rw [hargs, lg_entry_eq, ← hargs]
  have hl := lv_entry ([.ref o5, .int (nI gr), .int (nI n)]) (n := 5) (Nat.le_of_ble_eq_true rfl)
  generalize (lg_sl ([.ref o5, .int (nI gr), .int (nI n)]) ++ List.replicate (5 - (lg_sl ([.ref o5, .int (nI gr), .int (nI n)])).length) Slot.unset).toArray = ls at hl ⊢
  have hl : lv_has ls 5 [(0, .ref o5), (1, .int (nI gr)), (2, .int (nI n))] := hl
  obtain ⟨Q, hQ⟩ : ∃ Q, Q = MQ below (mQv D A (fun (u : (Nat → Nat)) => stOK u (tkF gr n 20).1 (tkF gr n 20).2.2.2 20) (fun (u : (Nat → Nat)) => [(o5, .inr (5, [.ref oc, .ref o, .ref s5, .int (nI va), .int (nI ((tkF gr n 20).2.2.2)), .int (nI ((tkF gr n 20).1)), .int (nI ((tkF gr n 20).2.2.1)), .int (nI td), .int sv])), (s5, aN cI 20 u)])) args s 0 0 A := ⟨_, rfl⟩
  rw [← hQ]
  have i_X5 : ∀ w ∈ u_ws RX5 TX5 9, w ∈ wsX5_take := by decide +kernel
  have f_19 := hts (.fieldLink RX5 19 "SameAgain$Procedure" "takenCount" "I") (by decide +kernel)
  have f_22 := hts (.fieldLink RX5 22 "SameAgain$Procedure" "takenStarts" "I") (by decide +kernel)
  have f_25 := hts (.fieldLink RX5 25 "SameAgain$Procedure" "takenLines" "I") (by decide +kernel)
  have f_9 := hts (.fieldLink RX5 9 "SameAgain$Procedure" "starts" "[I") (by decide +kernel)
  refine lv_aload_n hx hb dX5_take_0 rfl (lv_at hl 0 rfl) ?_
  refine lv_iconst (v := nI 0) hx hb dX5_take_1 (by decide) ?_
  refine va_put (D := D) (ci := 5) (v := .int (nI 0)) (ty := .int) (C := RX5) (T := TX5) (N := 9) hx hb hts i_X5 tyX5 tyX5_ok nmX5 hown hK.1 hP hD hS 0 rfl rfl 4 (by decide) f_19 (fun _ h9 => h9) rfl (by decide +kernel) rfl rfl (Nat.le_of_ble_eq_true rfl) dX5_take_2 (fun H locs hP hD hS => ?_)
  have hP : va_P D vwCl [(o5, .inr (5, [.ref oc, .ref o, .ref s5, .int (nI va), .int (nI 0), .int (nI ts), .int (nI tn), .int (nI td), .int sv])), (s5, aN cI 20 st)] H := hP
  have hD : va_D A [(o5, .inr (5, [.ref oc, .ref o, .ref s5, .int (nI va), .int (nI 0), .int (nI ts), .int (nI tn), .int (nI td), .int sv])), (s5, aN cI 20 st)] := hD
  refine lv_aload_n hx hb dX5_take_5 rfl (lv_at hl 0 rfl) ?_
  refine lv_iconst (v := nI 0) hx hb dX5_take_6 (by decide) ?_
  refine va_put (D := D) (ci := 5) (v := .int (nI 0)) (ty := .int) (C := RX5) (T := TX5) (N := 9) hx hb hts i_X5 tyX5 tyX5_ok nmX5 hown hK.1 hP hD hS 0 rfl rfl 5 (by decide) f_22 (fun _ h9 => h9) rfl (by decide +kernel) rfl rfl (Nat.le_of_ble_eq_true rfl) dX5_take_7 (fun H locs hP hD hS => ?_)
  have hP : va_P D vwCl [(o5, .inr (5, [.ref oc, .ref o, .ref s5, .int (nI va), .int (nI 0), .int (nI 0), .int (nI tn), .int (nI td), .int sv])), (s5, aN cI 20 st)] H := hP
  have hD : va_D A [(o5, .inr (5, [.ref oc, .ref o, .ref s5, .int (nI va), .int (nI 0), .int (nI 0), .int (nI tn), .int (nI td), .int sv])), (s5, aN cI 20 st)] := hD
  refine lv_aload_n hx hb dX5_take_10 rfl (lv_at hl 0 rfl) ?_
  refine lv_iconst (v := nI 0) hx hb dX5_take_11 (by decide) ?_
  refine va_put (D := D) (ci := 5) (v := .int (nI 0)) (ty := .int) (C := RX5) (T := TX5) (N := 9) hx hb hts i_X5 tyX5 tyX5_ok nmX5 hown hK.1 hP hD hS 0 rfl rfl 6 (by decide) f_25 (fun _ h9 => h9) rfl (by decide +kernel) rfl rfl (Nat.le_of_ble_eq_true rfl) dX5_take_12 (fun H locs hP hD hS => ?_)
  have hP : va_P D vwCl [(o5, .inr (5, [.ref oc, .ref o, .ref s5, .int (nI va), .int (nI 0), .int (nI 0), .int (nI 0), .int (nI td), .int sv])), (s5, aN cI 20 st)] H := hP
  have hD : va_D A [(o5, .inr (5, [.ref oc, .ref o, .ref s5, .int (nI va), .int (nI 0), .int (nI 0), .int (nI 0), .int (nI td), .int sv])), (s5, aN cI 20 st)] := hD
  refine lv_iconst (v := nI 0) hx hb dX5_take_15 (by decide) ?_
  refine lv_istore_n (lv' := [(3, .int (nI 0)), (0, .ref o5), (1, .int (nI gr)), (2, .int (nI n))]) hx hb dX5_take_16 rfl hl (by decide) rfl (fun ls hl => ?_)
  have loop_17 : ∀ (fu : Nat) (k c1 c2 c3 : Nat) (st2 : Nat → Nat) (hfu : 20 - k < fu)  (hk : k ≤ 20) (e1 : c1 = (tkF gr n k).2.2.2) (e2 : c2 = (tkF gr n k).1) (e3 : c3 = (tkF gr n k).2.2.1) (hst : stOK st2 c2 c1 k) (H : Heap) (locs : List Loc) (hP : va_P D vwCl [(o5, .inr (5, [.ref oc, .ref o, .ref s5, .int (nI va), .int (nI c1), .int (nI c2), .int (nI c3), .int (nI td), .int sv])), (s5, aN cI 20 st2)] H) (hD : va_D A [(o5, .inr (5, [.ref oc, .ref o, .ref s5, .int (nI va), .int (nI c1), .int (nI c2), .int (nI c3), .int (nI td), .int sv])), (s5, aN cI 20 st2)]) (hS : va_S A s.heap H locs) (ls : Array Slot) (hl : lv_has ls 5 [(0, .ref o5), (1, .int (nI gr)), (2, .int (nI n)), (3, .int (nI k))]), W p l e (headSpec wsX5_take { frames := 0, cells := 0, slots := 0, locals := 0 }).room s m args below meth c H locs 0 0 Q (F0 m 17 ls []) := by
    intro fu
    induction fu with
    | zero => intro k c1 c2 c3 st2 hfu; exact absurd hfu (Nat.not_lt_zero _)
    | succ fu ih_17 =>
      intro k c1 c2 c3 st2 hfu hk e1 e2 e3 hst H locs hP hD hS ls hl
      refine lv_iload_n hx hb dX5_take_17 rfl (lv_at hl 3 rfl) ?_
      refine lv_bipush (v := nI 20) hx hb dX5_take_18 (by decide) ?_
      refine m_cmp_ge (tgt := 111) hx hb dX5_take_20 (by decide) (by omega) (by omega) (fun c_20 => ?_) (fun c_20 => ?_)
      · rw [hQ]
        have e9 : k = 20 := by omega
        subst e9
        subst e1
        subst e2
        subst e3
        exact m_vwr hx hb hr hlocks st2 (hst) hP hS dX5_take_111
      · refine lv_iconst (v := nI 1) hx hb dX5_take_23 (by decide) ?_
        refine lv_iload_n hx hb dX5_take_24 rfl (lv_at hl 2 rfl) ?_
        refine m_shl1 hx hb (by omega) dX5_take_25 ?_
        refine lv_iconst (v := nI 1) hx hb dX5_take_26 (by decide) ?_
        refine m_sub hx hb (Nat.two_pow_pos n) dX5_take_27 ?_
        refine lv_iload_n hx hb dX5_take_28 rfl (lv_at hl 3 rfl) ?_
        refine lv_ishl hx hb dX5_take_29 ?_
        refine lv_istore (lv' := [(4, .int ((nI ((2 ^ n) - 1)) <<< ((nI k) &&& 31))), (0, .ref o5), (1, .int (nI gr)), (2, .int (nI n)), (3, .int (nI k))]) hx hb dX5_take_30 hl (by decide) rfl (fun ls hl => ?_)
        refine lv_iload_n hx hb dX5_take_32 rfl (lv_at hl 2 rfl) ?_
        refine lv_iconst (v := nI 1) hx hb dX5_take_33 (by decide) ?_
        refine lv_iload_n hx hb dX5_take_34 rfl (lv_at hl 4 rfl) ?_
        refine m_shl1 hx hb (by omega) dX5_take_35 ?_
        refine m_and hx hb dX5_take_36 ?_
        refine m_if_eq (tgt := 105) hx hb dX5_take_37 (by decide) (and_pow_lt _ (by omega)) (fun c_37 => ?_) (fun c_37 => ?_)
        · have X8 : ¬ (gr.testBit k = true ∧ (tkF gr n k).2.1 ≤ k) := fun q => and_pow_ne.mpr q.1 c_37
          refine lv_iinc (v := nI (k + 1)) (lv' := [(3, .int (nI (k + 1))), (4, .int ((nI ((2 ^ n) - 1)) <<< ((nI k) &&& 31))), (0, .ref o5), (1, .int (nI gr)), (2, .int (nI n))]) hx hb dX5_take_105 hl (k := 4) rfl ((nI_succ _).symm) (by decide) rfl (fun ls hl => ?_)
          refine lv_goto (tgt := 17) hx hb dX5_take_108 (by decide) ?_
          have X9 : tkF gr n (k + 1) = tkF gr n k := tkF_f X8
          exact ih_17 (k + 1) _ _ _ _ (by omega) (by omega) (by rw [X9]; exact e1) (by rw [X9]; exact e2) (by rw [X9]; exact e3) (stOK_s hst) _ _ hP hD hS ls (lv_sub hl [2, 3, 4, 0] rfl)
        · have c_37b := and_pow_ne.mp c_37
          have hkn := hgp k c_37b
          have hk9 := tkI_ok hgp k
          refine lv_aload_n hx hb dX5_take_40 rfl (lv_at hl 1 rfl) ?_
          refine va_get (D := D) (ci := 5) (v := .int (nI c3)) (C := RX5) (T := TX5) (N := 9) hx hb hts i_X5 hown hK.1 hP 0 rfl rfl 6 (by decide) f_25 (fun _ h9 => h9) rfl dX5_take_41 ?_
          refine lv_iload hx hb dX5_take_44 (lv_at hl 0 rfl) ?_
          refine m_top (y := nI ((2 ^ n - 1) * 2 ^ k)) (m_shlE (by omega) (Nat.lt_trans (row_lt hkn) (by decide))) ?_
          refine m_and hx hb dX5_take_46 ?_
          refine m_if_ne (tgt := 105) hx hb dX5_take_47 (by decide) (Nat.lt_of_le_of_lt Nat.and_le_left (by rw [e3]; exact Nat.lt_trans hk9.2.2.2.2 (by decide))) (fun c_47 => ?_) (fun c_47 => ?_)
          · rw [e3] at c_47
            have X8 : ¬ (gr.testBit k = true ∧ (tkF gr n k).2.1 ≤ k) := fun q => c_47 ((tk_cond hk9 hn1).mpr q.2)
            refine lv_iinc (v := nI (k + 1)) (lv' := [(3, .int (nI (k + 1))), (4, .int ((nI ((2 ^ n) - 1)) <<< ((nI k) &&& 31))), (0, .ref o5), (1, .int (nI gr)), (2, .int (nI n))]) hx hb dX5_take_105 hl (k := 4) rfl ((nI_succ _).symm) (by decide) rfl (fun ls hl => ?_)
            refine lv_goto (tgt := 17) hx hb dX5_take_108 (by decide) ?_
            have X9 : tkF gr n (k + 1) = tkF gr n k := tkF_f X8
            exact ih_17 (k + 1) _ _ _ _ (by omega) (by omega) (by rw [X9]; exact e1) (by rw [X9]; exact e2) (by rw [X9]; exact e3) (stOK_s hst) _ _ hP hD hS ls (lv_sub hl [2, 3, 4, 0] rfl)
          · have c_47b := c_47
            rw [e3] at c_47b
            have cnd9 := (tk_cond hk9 hn1).mp c_47b
            have ct9 := hk9.2.2.1
            rw [← e1] at ct9
            refine lv_aload_n hx hb dX5_take_50 rfl (lv_at hl 1 rfl) ?_
            refine va_get (D := D) (ci := 5) (v := .int (nI c1)) (C := RX5) (T := TX5) (N := 9) hx hb hts i_X5 hown hK.1 hP 0 rfl rfl 4 (by decide) f_19 (fun _ h9 => h9) rfl dX5_take_51 ?_
            refine lv_aload_n hx hb dX5_take_54 rfl (lv_at hl 1 rfl) ?_
            refine va_get (D := D) (ci := 5) (v := .ref s5) (C := RX5) (T := TX5) (N := 9) hx hb hts i_X5 hown hK.1 hP 0 rfl rfl 2 (by decide) f_9 (fun _ h9 => h9) rfl dX5_take_55 ?_
            refine m_alen hx hb hK hP 1 rfl dX5_take_58 ?_
            refine m_cmp_ge (tgt := 105) hx hb dX5_take_59 (by decide) (by omega) (by omega) (fun c_59 => absurd c_59 (by omega)) (fun c_59 => ?_)
            refine lv_aload_n hx hb dX5_take_62 rfl (lv_at hl 1 rfl) ?_
            refine va_get (D := D) (ci := 5) (v := .ref s5) (C := RX5) (T := TX5) (N := 9) hx hb hts i_X5 hown hK.1 hP 0 rfl rfl 2 (by decide) f_9 (fun _ h9 => h9) rfl dX5_take_63 ?_
            refine lv_aload_n hx hb dX5_take_66 rfl (lv_at hl 1 rfl) ?_
            refine va_get (D := D) (ci := 5) (v := .int (nI c1)) (C := RX5) (T := TX5) (N := 9) hx hb hts i_X5 hown hK.1 hP 0 rfl rfl 4 (by decide) f_19 (fun _ h9 => h9) rfl dX5_take_67 ?_
            refine lv_iload_n hx hb dX5_take_70 rfl (lv_at hl 4 rfl) ?_
            refine m_ast hx hb hK hP hD hS 1 rfl (by decide) (by omega) dX5_take_71 (ws' := [(o5, .inr (5, [.ref oc, .ref o, .ref s5, .int (nI va), .int (nI c1), .int (nI c2), .int (nI c3), .int (nI td), .int sv])), (s5, aN cI 20 (upN st2 c1 k))]) rfl (fun H locs hP hD hS => ?_)
            refine lv_aload_n hx hb dX5_take_72 rfl (lv_at hl 1 rfl) ?_
            refine lv_dup hx hb dX5_take_73 rfl ?_
            refine va_get (D := D) (ci := 5) (v := .int (nI c1)) (C := RX5) (T := TX5) (N := 9) hx hb hts i_X5 hown hK.1 hP 0 rfl rfl 4 (by decide) f_19 (fun _ h9 => h9) rfl dX5_take_74 ?_
            refine lv_iconst (v := nI 1) hx hb dX5_take_77 (by decide) ?_
            refine m_add hx hb dX5_take_78 ?_
            refine va_put (D := D) (ci := 5) (v := .int (nI (c1 + 1))) (ty := .int) (C := RX5) (T := TX5) (N := 9) hx hb hts i_X5 tyX5 tyX5_ok nmX5 hown hK.1 hP hD hS 0 rfl rfl 4 (by decide) f_19 (fun _ h9 => h9) rfl (by decide +kernel) rfl rfl (Nat.le_of_ble_eq_true rfl) dX5_take_79 (fun H locs hP hD hS => ?_)
            have hP : va_P D vwCl [(o5, .inr (5, [.ref oc, .ref o, .ref s5, .int (nI va), .int (nI (c1 + 1)), .int (nI c2), .int (nI c3), .int (nI td), .int sv])), (s5, aN cI 20 (upN st2 c1 k))] H := hP
            have hD : va_D A [(o5, .inr (5, [.ref oc, .ref o, .ref s5, .int (nI va), .int (nI (c1 + 1)), .int (nI c2), .int (nI c3), .int (nI td), .int sv])), (s5, aN cI 20 (upN st2 c1 k))] := hD
            refine lv_aload_n hx hb dX5_take_82 rfl (lv_at hl 1 rfl) ?_
            refine lv_dup hx hb dX5_take_83 rfl ?_
            refine va_get (D := D) (ci := 5) (v := .int (nI c2)) (C := RX5) (T := TX5) (N := 9) hx hb hts i_X5 hown hK.1 hP 0 rfl rfl 5 (by decide) f_22 (fun _ h9 => h9) rfl dX5_take_84 ?_
            refine lv_iconst (v := nI 1) hx hb dX5_take_87 (by decide) ?_
            refine lv_iload_n hx hb dX5_take_88 rfl (lv_at hl 4 rfl) ?_
            refine m_shl1 hx hb (by omega) dX5_take_89 ?_
            refine m_or hx hb dX5_take_90 ?_
            refine va_put (D := D) (ci := 5) (v := .int (nI (c2 ||| (2 ^ k)))) (ty := .int) (C := RX5) (T := TX5) (N := 9) hx hb hts i_X5 tyX5 tyX5_ok nmX5 hown hK.1 hP hD hS 0 rfl rfl 5 (by decide) f_22 (fun _ h9 => h9) rfl (by decide +kernel) rfl rfl (Nat.le_of_ble_eq_true rfl) dX5_take_91 (fun H locs hP hD hS => ?_)
            have hP : va_P D vwCl [(o5, .inr (5, [.ref oc, .ref o, .ref s5, .int (nI va), .int (nI (c1 + 1)), .int (nI (c2 ||| (2 ^ k))), .int (nI c3), .int (nI td), .int sv])), (s5, aN cI 20 (upN st2 c1 k))] H := hP
            have hD : va_D A [(o5, .inr (5, [.ref oc, .ref o, .ref s5, .int (nI va), .int (nI (c1 + 1)), .int (nI (c2 ||| (2 ^ k))), .int (nI c3), .int (nI td), .int sv])), (s5, aN cI 20 (upN st2 c1 k))] := hD
            refine lv_aload_n hx hb dX5_take_94 rfl (lv_at hl 1 rfl) ?_
            refine lv_dup hx hb dX5_take_95 rfl ?_
            refine va_get (D := D) (ci := 5) (v := .int (nI c3)) (C := RX5) (T := TX5) (N := 9) hx hb hts i_X5 hown hK.1 hP 0 rfl rfl 6 (by decide) f_25 (fun _ h9 => h9) rfl dX5_take_96 ?_
            refine lv_iload hx hb dX5_take_99 (lv_at hl 0 rfl) ?_
            refine m_top (y := nI ((2 ^ n - 1) * 2 ^ k)) (m_shlE (by omega) (Nat.lt_trans (row_lt hkn) (by decide))) ?_
            refine m_or hx hb dX5_take_101 ?_
            refine va_put (D := D) (ci := 5) (v := .int (nI (c3 ||| ((2 ^ n - 1) * 2 ^ k)))) (ty := .int) (C := RX5) (T := TX5) (N := 9) hx hb hts i_X5 tyX5 tyX5_ok nmX5 hown hK.1 hP hD hS 0 rfl rfl 6 (by decide) f_25 (fun _ h9 => h9) rfl (by decide +kernel) rfl rfl (Nat.le_of_ble_eq_true rfl) dX5_take_102 (fun H locs hP hD hS => ?_)
            have hP : va_P D vwCl [(o5, .inr (5, [.ref oc, .ref o, .ref s5, .int (nI va), .int (nI (c1 + 1)), .int (nI (c2 ||| (2 ^ k))), .int (nI (c3 ||| ((2 ^ n - 1) * 2 ^ k))), .int (nI td), .int sv])), (s5, aN cI 20 (upN st2 c1 k))] H := hP
            have hD : va_D A [(o5, .inr (5, [.ref oc, .ref o, .ref s5, .int (nI va), .int (nI (c1 + 1)), .int (nI (c2 ||| (2 ^ k))), .int (nI (c3 ||| ((2 ^ n - 1) * 2 ^ k))), .int (nI td), .int sv])), (s5, aN cI 20 (upN st2 c1 k))] := hD
            refine lv_iinc (v := nI (k + 1)) (lv' := [(3, .int (nI (k + 1))), (4, .int ((nI ((2 ^ n) - 1)) <<< ((nI k) &&& 31))), (0, .ref o5), (1, .int (nI gr)), (2, .int (nI n))]) hx hb dX5_take_105 hl (k := 4) rfl ((nI_succ _).symm) (by decide) rfl (fun ls hl => ?_)
            refine lv_goto (tgt := 17) hx hb dX5_take_108 (by decide) ?_
            have X9 := tkF_t c_37b cnd9
            exact ih_17 (k + 1) _ _ _ _ (by omega) (by omega) (by rw [X9, e1]) (by rw [X9, e2]) (by rw [X9, e3]) (stOK_n hst) _ _ hP hD hS ls (lv_sub hl [2, 3, 4, 0] rfl)
  exact loop_17 21 0 0 0 0 st (by omega) (by omega) rfl rfl rfl (stOK_0 st) _ _ hP hD hS ls (lv_sub hl [1, 2, 3, 0] rfl)

def szQ (z : Nat → Nat) (v tk ct k : Nat) : Nat := if ct = 0 then 0 else szT z v tk k
theorem szQ_p {z : Nat → Nat} {v tk ct k : Nat} (h : 0 < ct) : szQ z v tk ct k = szT z v tk k := if_neg (by omega)
theorem szQ_0 {z : Nat → Nat} {v tk ct k : Nat} (h : ct = 0) : szQ z v tk ct k = 0 := if_pos h
theorem df_0 {st : Nat → Nat} {tk ct : Nat} (h : stOK st tk ct 20) (h0 : ct = 0) (z g : Nat → Nat) (v k pl : Nat) : dfB z g v tk k pl = false := by
  unfold dfB
  rw [alT_t h (fun j hj => by omega)]
  rfl
theorem td_endQ {z g : Nat → Nat} {v tk ct k : Nat} {st : Nat → Nat} (h : stOK st tk ct 20) (hz : szT z v tk k ≤ 8) : fb_ct (tdB z g v tk) (8 * k + szQ z v tk ct k) = fb_ct (tdB z g v tk) (8 * (k + 1)) := by
  rcases Nat.eq_zero_or_pos ct with q | q
  · rw [szQ_0 q, show 8 * (k + 1) = 8 * k + 0 + 8 by omega]
    exact (ct_flat (fun j _ _ => by unfold tdB; rw [df_0 h q, Bool.and_false]; rfl)).symm
  · rw [szQ_p q]
    exact td_end hz

theorem yd_X5_signsOfLine : yX5_signsOfLine.cls = RX5 ∧ yX5_signsOfLine.cls ≠ "java/lang/invoke/MethodHandle" ∧ yX5_signsOfLine.cls ≠ "java/lang/invoke/VarHandle" ∧ (parseMethodDescriptor yX5_signsOfLine.desc).map (fun d => d.parameters.length) = some 1 := by decide +kernel
set_option maxHeartbeats 4000000 in
set_option maxRecDepth 100000 in
theorem k_X5_signsOfLine (l : Launch) (D : va_G) (cI cZ : ClassId) (o5 oc o s5 va tc ts tn td : Nat) (sv : Int32) (st : Nat → Nat) (a1 a2 nl nv : Nat) (z g : Nat → Nat) (n k : Nat) (hnl : nl ≤ 20) (hnv : nv ≤ 4) (hst : stOK st ts tc 20) (htc : tc ≤ 20) (htn : ∀ j, j < tc → st j + n ≤ nl) (hva : va < nv) (hk : k < n) : Met l yX5_signsOfLine wsX5_signsOfLine ({ frames := 1, cells := 0, slots := 0, locals := 22 }) (mPc [.ref o5, .int (nI k)] D cI cZ [(o5, .inr (5, [.ref oc, .ref o, .ref s5, .int (nI va), .int (nI tc), .int (nI ts), .int (nI tn), .int (nI td), .int sv])), (s5, aN cI 20 st), (oc, .inr (0, [.ref a1, .ref a2, .int (nI nl), .int (nI nv)])), (a1, aN cI 640 g), (a2, aN cI 80 z)]) (QcRead (nI (szQ z va ts tc k))) 0 0 (fun _ => False) := by
  refine Met.ofW (cc := cX5_signsOfLine) (maxL := 2) (ret := (some .int)) (by decide) rfl ?_
  intro p e s m args below meth c s₁ BB hml hv
  obtain ⟨hargs, hP, hD0, hK⟩ := hv
  have hx := BB.exec
  have hb := BB.bytes
  have hr := BB.returns
  have hts := atoms_spec (ws := wsX5_signsOfLine) BB.pre
  have hown : s.vm.findClass RX5 = some m.cls := findClass_of_methodNamed BB.named
  have hlocks := BB.notSynchronized
  have hcf : CallFix p m c cX5_signsOfLine 2 s args wsX5_signsOfLine RX5 := ⟨hx, hb, hml, hown, hts⟩
  have hD := hD0
  rw [hargs, lg_entry_eq, ← hargs]
  have hl := lv_entry ([.ref o5, .int (nI k)]) (n := 2) (Nat.le_of_ble_eq_true rfl)
  generalize (lg_sl ([.ref o5, .int (nI k)]) ++ List.replicate (2 - (lg_sl ([.ref o5, .int (nI k)])).length) Slot.unset).toArray = ls at hl ⊢
  have hl : lv_has ls 2 [(0, .ref o5), (1, .int (nI k))] := hl
  obtain ⟨Q, hQ⟩ : ∃ Q, Q = MQ below (QcRead (nI (szQ z va ts tc k))) args s 0 0 (fun _ => False) := ⟨_, rfl⟩
  rw [← hQ]
  have i_X5 : ∀ w ∈ u_ws RX5 TX5 9, w ∈ wsX5_signsOfLine := by decide +kernel
  have f_19 := hts (.fieldLink RX5 19 "SameAgain$Procedure" "takenCount" "I") (by decide +kernel)
  have f_34 := hts (.fieldLink RX5 34 "SameAgain$Procedure" "code" "LSameAgain$Code;") (by decide +kernel)
  have f_15 := hts (.fieldLink RX5 15 "SameAgain$Procedure" "versionAt" "I") (by decide +kernel)
  have f_9 := hts (.fieldLink RX5 9 "SameAgain$Procedure" "starts" "[I") (by decide +kernel)
  refine lv_aload_n hx hb dX5_signsOfLine_0 rfl (lv_at hl 0 rfl) ?_
  refine va_get (D := D) (ci := 5) (v := .int (nI tc)) (C := RX5) (T := TX5) (N := 9) hx hb hts i_X5 hown hK.1 hP 0 rfl rfl 4 (by decide) f_19 (fun _ h9 => h9) rfl dX5_signsOfLine_1 ?_
  refine m_if_le (tgt := 29) hx hb dX5_signsOfLine_4 (by decide) (by omega) (fun c_4 => ?_) (fun c_4 => ?_)
  · refine lv_iconst (v := nI 0) hx hb dX5_signsOfLine_29 (by decide) ?_
    rw [hQ]
    exact m_ird hx hb hr hlocks (by rw [szQ_0 c_4]) dX5_signsOfLine_30
  · have h0 := c_4
    have hs0 := st_first hst h0
    have hs1 := htn 0 h0
    refine lv_aload_n hx hb dX5_signsOfLine_7 rfl (lv_at hl 0 rfl) ?_
    refine va_get (D := D) (ci := 5) (v := .ref oc) (C := RX5) (T := TX5) (N := 9) hx hb hts i_X5 hown hK.1 hP 0 rfl rfl 0 (by decide) f_34 (fun _ h9 => h9) rfl dX5_signsOfLine_8 ?_
    refine lv_aload_n hx hb dX5_signsOfLine_11 rfl (lv_at hl 0 rfl) ?_
    refine va_get (D := D) (ci := 5) (v := .int (nI va)) (C := RX5) (T := TX5) (N := 9) hx hb hts i_X5 hown hK.1 hP 0 rfl rfl 3 (by decide) f_15 (fun _ h9 => h9) rfl dX5_signsOfLine_12 ?_
    refine lv_aload_n hx hb dX5_signsOfLine_15 rfl (lv_at hl 0 rfl) ?_
    refine va_get (D := D) (ci := 5) (v := .ref s5) (C := RX5) (T := TX5) (N := 9) hx hb hts i_X5 hown hK.1 hP 0 rfl rfl 2 (by decide) f_9 (fun _ h9 => h9) rfl dX5_signsOfLine_16 ?_
    refine lv_iconst (v := nI 0) hx hb dX5_signsOfLine_19 (by decide) ?_
    refine m_ald hx hb hK hP 1 rfl (by decide) (by omega) dX5_signsOfLine_20 ?_
    refine lv_iload_n hx hb dX5_signsOfLine_21 rfl (lv_at hl 1 rfl) ?_
    refine m_add hx hb dX5_signsOfLine_22 ?_
    refine m_rdV (As := [.int (nI va), .int (nI ((st 0) + k))]) (rest := []) (wc := [(oc, .inr (0, [.ref a1, .ref a2, .int (nI nl), .int (nI nv)])), (a1, aN cI 640 g), (a2, aN cI 80 z)]) hcf (k_X0_sizeOf (l := l) (D := D) (cI := cI) (cZ := cZ) (v := va) (ln := (st 0) + k) (o := oc) (a1 := a1) (a2 := a2) (nl := nl) (nv := nv) (g := g) (z := z) (hnl := hnl) (hnv := hnv) (hv := hva) (hln := by omega)) (cwV 2 hts gX5_signsOfLine_X0_sizeOf rfl rfl rfl yd_X0_sizeOf ⟨Nat.le_of_ble_eq_true rfl, Nat.le_of_ble_eq_true rfl⟩) (m_preV hK hP hD [2, 3, 4] (by decide) rfl rfl rfl) rfl hl.1 rfl (Nat.le_of_ble_eq_true rfl) dX5_signsOfLine_23 ⟨Nat.zero_le _, Nat.zero_le _⟩ ?_
    refine lv_goto (tgt := 30) hx hb dX5_signsOfLine_26 (by decide) ?_
    rw [hQ]
    exact m_ird hx hb hr hlocks (by rw [szQ_p c_4]; unfold szT; rw [← hs0]) dX5_signsOfLine_30

theorem yd_X5_differs : yX5_differs.cls = RX5 ∧ yX5_differs.cls ≠ "java/lang/invoke/MethodHandle" ∧ yX5_differs.cls ≠ "java/lang/invoke/VarHandle" ∧ (parseMethodDescriptor yX5_differs.desc).map (fun d => d.parameters.length) = some 2 := by decide +kernel
set_option maxHeartbeats 4000000 in
set_option maxRecDepth 100000 in
theorem k_X5_differs (l : Launch) (D : va_G) (cI cZ : ClassId) (o5 oc o s5 va tc ts tn td : Nat) (sv : Int32) (st : Nat → Nat) (a1 a2 nl nv : Nat) (z g : Nat → Nat) (n k pl : Nat) (hnl : nl ≤ 20) (hnv : nv ≤ 4) (hz : ∀ j, z j ≤ 8) (hg : ∀ j, g j ≤ 126) (hst : stOK st ts tc 20) (htc : tc ≤ 20) (htn : ∀ j, j < tc → st j + n ≤ nl) (hva : va < nv) (hk : k < n) (h0 : 0 < tc) (hpl : pl < 8) : Met l yX5_differs wsX5_differs ({ frames := 1, cells := 0, slots := 0, locals := 24 }) (mPc [.ref o5, .int (nI k), .int (nI pl)] D cI cZ [(o5, .inr (5, [.ref oc, .ref o, .ref s5, .int (nI va), .int (nI tc), .int (nI ts), .int (nI tn), .int (nI td), .int sv])), (s5, aN cI 20 st), (oc, .inr (0, [.ref a1, .ref a2, .int (nI nl), .int (nI nv)])), (a1, aN cI 640 g), (a2, aN cI 80 z)]) (QcRead (bI (dfB z g va ts k pl))) 0 0 (fun _ => False) := by
  refine Met.ofW (cc := cX5_differs) (maxL := 5) (ret := (some .boolean)) (by decide) rfl ?_
  intro p e s m args below meth c s₁ BB hml hv
  obtain ⟨hargs, hP, hD0, hK⟩ := hv
  have hx := BB.exec
  have hb := BB.bytes
  have hr := BB.returns
  have hts := atoms_spec (ws := wsX5_differs) BB.pre
  have hown : s.vm.findClass RX5 = some m.cls := findClass_of_methodNamed BB.named
  have hlocks := BB.notSynchronized
  have hcf : CallFix p m c cX5_differs 5 s args wsX5_differs RX5 := ⟨hx, hb, hml, hown, hts⟩
  have hD := hD0
  rw [hargs, lg_entry_eq, ← hargs]
  have hl := lv_entry ([.ref o5, .int (nI k), .int (nI pl)]) (n := 5) (Nat.le_of_ble_eq_true rfl)
  generalize (lg_sl ([.ref o5, .int (nI k), .int (nI pl)]) ++ List.replicate (5 - (lg_sl ([.ref o5, .int (nI k), .int (nI pl)])).length) Slot.unset).toArray = ls at hl ⊢
  have hl : lv_has ls 5 [(0, .ref o5), (1, .int (nI k)), (2, .int (nI pl))] := hl
  obtain ⟨Q, hQ⟩ : ∃ Q, Q = MQ below (QcRead (bI (dfB z g va ts k pl))) args s 0 0 (fun _ => False) := ⟨_, rfl⟩
  rw [← hQ]
  have i_X5 : ∀ w ∈ u_ws RX5 TX5 9, w ∈ wsX5_differs := by decide +kernel
  have f_34 := hts (.fieldLink RX5 34 "SameAgain$Procedure" "code" "LSameAgain$Code;") (by decide +kernel)
  have f_15 := hts (.fieldLink RX5 15 "SameAgain$Procedure" "versionAt" "I") (by decide +kernel)
  have f_9 := hts (.fieldLink RX5 9 "SameAgain$Procedure" "starts" "[I") (by decide +kernel)
  have f_19 := hts (.fieldLink RX5 19 "SameAgain$Procedure" "takenCount" "I") (by decide +kernel)
  have hs0 := st_first hst h0
  have hs1 := htn 0 h0
  refine lv_aload_n hx hb dX5_differs_0 rfl (lv_at hl 0 rfl) ?_
  refine va_get (D := D) (ci := 5) (v := .ref oc) (C := RX5) (T := TX5) (N := 9) hx hb hts i_X5 hown hK.1 hP 0 rfl rfl 0 (by decide) f_34 (fun _ h9 => h9) rfl dX5_differs_1 ?_
  refine lv_aload_n hx hb dX5_differs_4 rfl (lv_at hl 0 rfl) ?_
  refine va_get (D := D) (ci := 5) (v := .int (nI va)) (C := RX5) (T := TX5) (N := 9) hx hb hts i_X5 hown hK.1 hP 0 rfl rfl 3 (by decide) f_15 (fun _ h9 => h9) rfl dX5_differs_5 ?_
  refine lv_aload_n hx hb dX5_differs_8 rfl (lv_at hl 0 rfl) ?_
  refine va_get (D := D) (ci := 5) (v := .ref s5) (C := RX5) (T := TX5) (N := 9) hx hb hts i_X5 hown hK.1 hP 0 rfl rfl 2 (by decide) f_9 (fun _ h9 => h9) rfl dX5_differs_9 ?_
  refine lv_iconst (v := nI 0) hx hb dX5_differs_12 (by decide) ?_
  refine m_ald hx hb hK hP 1 rfl (by decide) (by omega) dX5_differs_13 ?_
  refine lv_iload_n hx hb dX5_differs_14 rfl (lv_at hl 1 rfl) ?_
  refine m_add hx hb dX5_differs_15 ?_
  refine lv_iload_n hx hb dX5_differs_16 rfl (lv_at hl 2 rfl) ?_
  refine m_rdV (As := [.int (nI va), .int (nI ((st 0) + k)), .int (nI pl)]) (rest := []) (wc := [(oc, .inr (0, [.ref a1, .ref a2, .int (nI nl), .int (nI nv)])), (a1, aN cI 640 g), (a2, aN cI 80 z)]) hcf (k_X0_signAt (l := l) (D := D) (cI := cI) (cZ := cZ) (v := va) (ln := (st 0) + k) (k := pl) (o := oc) (a1 := a1) (a2 := a2) (nl := nl) (nv := nv) (g := g) (z := z) (hnl := hnl) (hnv := hnv) (hz := hz) (hg := hg) (hv := hva) (hln := by omega) (hk := by omega)) (cwV 3 hts gX5_differs_X0_signAt rfl rfl rfl yd_X0_signAt ⟨Nat.le_of_ble_eq_true rfl, Nat.le_of_ble_eq_true rfl⟩) (m_preV hK hP hD [2, 3, 4] (by decide) rfl rfl rfl) rfl hl.1 rfl (Nat.le_of_ble_eq_true rfl) dX5_differs_17 ⟨Nat.zero_le _, Nat.zero_le _⟩ ?_
  refine m_top (y := nI (sgN z g (va * 20 + (lsN ts + k)) pl)) (by rw [hs0]) ?_
  refine lv_istore_n (lv' := [(3, .int (nI (sgN z g (va * 20 + (lsN ts + k)) pl))), (0, .ref o5), (1, .int (nI k)), (2, .int (nI pl))]) hx hb dX5_differs_20 rfl hl (by decide) rfl (fun ls hl => ?_)
  refine lv_iconst (v := nI 1) hx hb dX5_differs_21 (by decide) ?_
  refine lv_istore (lv' := [(4, .int (nI 1)), (3, .int (nI (sgN z g (va * 20 + (lsN ts + k)) pl))), (0, .ref o5), (1, .int (nI k)), (2, .int (nI pl))]) hx hb dX5_differs_22 hl (by decide) rfl (fun ls hl => ?_)
  have loop_24 : ∀ (fu : Nat) (r : Nat) (hfu : tc - r < fu)  (hr1 : 1 ≤ r) (hr2 : r ≤ tc) (hall : ∀ j, j < r → sgN z g (va * 20 + (st j + k)) pl = sgN z g (va * 20 + (lsN ts + k)) pl) (ls : Array Slot) (hl : lv_has ls 5 [(0, .ref o5), (1, .int (nI k)), (2, .int (nI pl)), (3, .int (nI (sgN z g (va * 20 + (lsN ts + k)) pl))), (4, .int (nI r))]), W p l e (headSpec wsX5_differs { frames := 1, cells := 0, slots := 0, locals := 24 }).room s m args below meth c s.heap [] 0 0 Q (F0 m 24 ls []) := by
    intro fu
    induction fu with
    | zero => intro r hfu; exact absurd hfu (Nat.not_lt_zero _)
    | succ fu ih_24 =>
      intro r hfu hr1 hr2 hall ls hl
      refine lv_iload hx hb dX5_differs_24 (lv_at hl 4 rfl) ?_
      refine lv_aload_n hx hb dX5_differs_26 rfl (lv_at hl 0 rfl) ?_
      refine va_get (D := D) (ci := 5) (v := .int (nI tc)) (C := RX5) (T := TX5) (N := 9) hx hb hts i_X5 hown hK.1 hP 0 rfl rfl 4 (by decide) f_19 (fun _ h9 => h9) rfl dX5_differs_27 ?_
      refine m_cmp_ge (tgt := 66) hx hb dX5_differs_30 (by decide) (by omega) (by omega) (fun c_30 => ?_) (fun c_30 => ?_)
      · refine lv_iconst (v := nI 0) hx hb dX5_differs_66 (by decide) ?_
        rw [hQ]
        exact m_zrd hx hb hr hlocks (bb_zero (by unfold dfB; rw [alT_t hst (fun j hj => decide_eq_true (hall j (by omega)))]; rfl)) dX5_differs_67
      · refine lv_aload_n hx hb dX5_differs_33 rfl (lv_at hl 0 rfl) ?_
        have hs2 := htn r (by omega)
        refine va_get (D := D) (ci := 5) (v := .ref oc) (C := RX5) (T := TX5) (N := 9) hx hb hts i_X5 hown hK.1 hP 0 rfl rfl 0 (by decide) f_34 (fun _ h9 => h9) rfl dX5_differs_34 ?_
        refine lv_aload_n hx hb dX5_differs_37 rfl (lv_at hl 0 rfl) ?_
        refine va_get (D := D) (ci := 5) (v := .int (nI va)) (C := RX5) (T := TX5) (N := 9) hx hb hts i_X5 hown hK.1 hP 0 rfl rfl 3 (by decide) f_15 (fun _ h9 => h9) rfl dX5_differs_38 ?_
        refine lv_aload_n hx hb dX5_differs_41 rfl (lv_at hl 0 rfl) ?_
        refine va_get (D := D) (ci := 5) (v := .ref s5) (C := RX5) (T := TX5) (N := 9) hx hb hts i_X5 hown hK.1 hP 0 rfl rfl 2 (by decide) f_9 (fun _ h9 => h9) rfl dX5_differs_42 ?_
        refine lv_iload hx hb dX5_differs_45 (lv_at hl 4 rfl) ?_
        refine m_ald hx hb hK hP 1 rfl (by decide) (by omega) dX5_differs_47 ?_
        refine lv_iload_n hx hb dX5_differs_48 rfl (lv_at hl 1 rfl) ?_
        refine m_add hx hb dX5_differs_49 ?_
        refine lv_iload_n hx hb dX5_differs_50 rfl (lv_at hl 2 rfl) ?_
        refine m_rdV (As := [.int (nI va), .int (nI ((st r) + k)), .int (nI pl)]) (rest := []) (wc := [(oc, .inr (0, [.ref a1, .ref a2, .int (nI nl), .int (nI nv)])), (a1, aN cI 640 g), (a2, aN cI 80 z)]) hcf (k_X0_signAt (l := l) (D := D) (cI := cI) (cZ := cZ) (v := va) (ln := (st r) + k) (k := pl) (o := oc) (a1 := a1) (a2 := a2) (nl := nl) (nv := nv) (g := g) (z := z) (hnl := hnl) (hnv := hnv) (hz := hz) (hg := hg) (hv := hva) (hln := by omega) (hk := by omega)) (cwV 3 hts gX5_differs_X0_signAt rfl rfl rfl yd_X0_signAt ⟨Nat.le_of_ble_eq_true rfl, Nat.le_of_ble_eq_true rfl⟩) (m_preV hK hP hD [2, 3, 4] (by decide) rfl rfl rfl) rfl hl.1 rfl (Nat.le_of_ble_eq_true rfl) dX5_differs_51 ⟨Nat.zero_le _, Nat.zero_le _⟩ ?_
        refine lv_iload_n hx hb dX5_differs_54 rfl (lv_at hl 3 rfl) ?_
        refine m_cmp_eq (tgt := 60) hx hb dX5_differs_55 (by decide) (Nat.lt_of_le_of_lt (sgN_le hg _ _) (by decide)) (Nat.lt_of_le_of_lt (sgN_le hg _ _) (by decide)) (fun c_55 => ?_) (fun c_55 => ?_)
        · refine lv_iinc (v := nI (r + 1)) (lv' := [(4, .int (nI (r + 1))), (0, .ref o5), (1, .int (nI k)), (2, .int (nI pl)), (3, .int (nI (sgN z g (va * 20 + (lsN ts + k)) pl)))]) hx hb dX5_differs_60 hl (k := 4) rfl ((nI_succ _).symm) (by decide) rfl (fun ls hl => ?_)
          refine lv_goto (tgt := 24) hx hb dX5_differs_63 (by decide) ?_
          exact ih_24 (r + 1) (by omega) (by omega) (by omega) (lt_s hall c_55)  ls (lv_sub hl [1, 2, 3, 4, 0] rfl)
        · refine lv_iconst (v := nI 1) hx hb dX5_differs_58 (by decide) ?_
          rw [hQ]
          exact m_zrd hx hb hr hlocks (bb_one (by unfold dfB; rw [alT_f hst r (by omega) (decide_eq_false c_55)]; rfl)) dX5_differs_59
  exact loop_24 (tc + 1) 1 (by omega) (by omega) (by omega) (fun j hj => by rw [show j = 0 by omega, hs0])  ls (lv_sub hl [2, 3, 4, 1, 0] rfl)

theorem yd_X5_hasSameAtBoth : yX5_hasSameAtBoth.cls = RX5 ∧ yX5_hasSameAtBoth.cls ≠ "java/lang/invoke/MethodHandle" ∧ yX5_hasSameAtBoth.cls ≠ "java/lang/invoke/VarHandle" ∧ (parseMethodDescriptor yX5_hasSameAtBoth.desc).map (fun d => d.parameters.length) = some 4 := by decide +kernel
set_option maxHeartbeats 4000000 in
set_option maxRecDepth 100000 in
theorem k_X5_hasSameAtBoth (l : Launch) (D : va_G) (cI cZ : ClassId) (o5 oc o s5 va tc ts tn td : Nat) (sv : Int32) (st : Nat → Nat) (a1 a2 nl nv : Nat) (z g : Nat → Nat) (n line ahead k pl : Nat) (hnl : nl ≤ 20) (hnv : nv ≤ 4) (hz : ∀ j, z j ≤ 8) (hg : ∀ j, g j ≤ 126) (hst : stOK st ts tc 20) (htc : tc ≤ 20) (htn : ∀ j, j < tc → st j + n ≤ nl) (hva : va < nv) (hk : k < n) (hli : line < n) (hpl : pl < 8) (hah : ahead < 8) : Met l yX5_hasSameAtBoth wsX5_hasSameAtBoth ({ frames := 1, cells := 0, slots := 0, locals := 24 }) (mPc [.ref o5, .int (nI line), .int (nI ahead), .int (nI k), .int (nI pl)] D cI cZ [(o5, .inr (5, [.ref oc, .ref o, .ref s5, .int (nI va), .int (nI tc), .int (nI ts), .int (nI tn), .int (nI td), .int sv])), (s5, aN cI 20 st), (oc, .inr (0, [.ref a1, .ref a2, .int (nI nl), .int (nI nv)])), (a1, aN cI 640 g), (a2, aN cI 80 z)]) (QcRead (bI (saB z g va ts line ahead k pl))) 0 0 (fun _ => False) := by
  refine Met.ofW (cc := cX5_hasSameAtBoth) (maxL := 7) (ret := (some .boolean)) (by decide) rfl ?_
  intro p e s m args below meth c s₁ BB hml hv
  obtain ⟨hargs, hP, hD0, hK⟩ := hv
  have hx := BB.exec
  have hb := BB.bytes
  have hr := BB.returns
  have hts := atoms_spec (ws := wsX5_hasSameAtBoth) BB.pre
  have hown : s.vm.findClass RX5 = some m.cls := findClass_of_methodNamed BB.named
  have hlocks := BB.notSynchronized
  have hcf : CallFix p m c cX5_hasSameAtBoth 7 s args wsX5_hasSameAtBoth RX5 := ⟨hx, hb, hml, hown, hts⟩
  have hD := hD0
  rw [hargs, lg_entry_eq, ← hargs]
  have hl := lv_entry ([.ref o5, .int (nI line), .int (nI ahead), .int (nI k), .int (nI pl)]) (n := 7) (Nat.le_of_ble_eq_true rfl)
  generalize (lg_sl ([.ref o5, .int (nI line), .int (nI ahead), .int (nI k), .int (nI pl)]) ++ List.replicate (7 - (lg_sl ([.ref o5, .int (nI line), .int (nI ahead), .int (nI k), .int (nI pl)])).length) Slot.unset).toArray = ls at hl ⊢
  have hl : lv_has ls 7 [(0, .ref o5), (1, .int (nI line)), (2, .int (nI ahead)), (3, .int (nI k)), (4, .int (nI pl))] := hl
  obtain ⟨Q, hQ⟩ : ∃ Q, Q = MQ below (QcRead (bI (saB z g va ts line ahead k pl))) args s 0 0 (fun _ => False) := ⟨_, rfl⟩
  rw [← hQ]
  have i_X5 : ∀ w ∈ u_ws RX5 TX5 9, w ∈ wsX5_hasSameAtBoth := by decide +kernel
  have f_19 := hts (.fieldLink RX5 19 "SameAgain$Procedure" "takenCount" "I") (by decide +kernel)
  have f_9 := hts (.fieldLink RX5 9 "SameAgain$Procedure" "starts" "[I") (by decide +kernel)
  have f_34 := hts (.fieldLink RX5 34 "SameAgain$Procedure" "code" "LSameAgain$Code;") (by decide +kernel)
  have f_15 := hts (.fieldLink RX5 15 "SameAgain$Procedure" "versionAt" "I") (by decide +kernel)
  refine lv_iconst (v := nI 0) hx hb dX5_hasSameAtBoth_0 (by decide) ?_
  refine lv_istore (lv' := [(5, .int (nI 0)), (0, .ref o5), (1, .int (nI line)), (2, .int (nI ahead)), (3, .int (nI k)), (4, .int (nI pl))]) hx hb dX5_hasSameAtBoth_1 hl (by decide) rfl (fun ls hl => ?_)
  have loop_3 : ∀ (fu : Nat) (r : Nat) (hfu : tc - r < fu)  (hr2 : r ≤ tc) (hall : ∀ j, j < r → sgN z g (va * 20 + (st j + line)) ahead = sgN z g (va * 20 + (st j + k)) pl) (ls : Array Slot) (hl : lv_has ls 7 [(0, .ref o5), (1, .int (nI line)), (2, .int (nI ahead)), (3, .int (nI k)), (4, .int (nI pl)), (5, .int (nI r))]), W p l e (headSpec wsX5_hasSameAtBoth { frames := 1, cells := 0, slots := 0, locals := 24 }).room s m args below meth c s.heap [] 0 0 Q (F0 m 3 ls []) := by
    intro fu
    induction fu with
    | zero => intro r hfu; exact absurd hfu (Nat.not_lt_zero _)
    | succ fu ih_3 =>
      intro r hfu hr2 hall ls hl
      refine lv_iload hx hb dX5_hasSameAtBoth_3 (lv_at hl 5 rfl) ?_
      refine lv_aload_n hx hb dX5_hasSameAtBoth_5 rfl (lv_at hl 0 rfl) ?_
      refine va_get (D := D) (ci := 5) (v := .int (nI tc)) (C := RX5) (T := TX5) (N := 9) hx hb hts i_X5 hown hK.1 hP 0 rfl rfl 4 (by decide) f_19 (fun _ h9 => h9) rfl dX5_hasSameAtBoth_6 ?_
      refine m_cmp_ge (tgt := 65) hx hb dX5_hasSameAtBoth_9 (by decide) (by omega) (by omega) (fun c_9 => ?_) (fun c_9 => ?_)
      · refine lv_iconst (v := nI 1) hx hb dX5_hasSameAtBoth_65 (by decide) ?_
        rw [hQ]
        exact m_zrd hx hb hr hlocks (bb_one (alT_t hst (fun j hj => decide_eq_true (hall j (by omega))))) dX5_hasSameAtBoth_66
      · refine lv_aload_n hx hb dX5_hasSameAtBoth_12 rfl (lv_at hl 0 rfl) ?_
        refine va_get (D := D) (ci := 5) (v := .ref s5) (C := RX5) (T := TX5) (N := 9) hx hb hts i_X5 hown hK.1 hP 0 rfl rfl 2 (by decide) f_9 (fun _ h9 => h9) rfl dX5_hasSameAtBoth_13 ?_
        refine lv_iload hx hb dX5_hasSameAtBoth_16 (lv_at hl 5 rfl) ?_
        refine m_ald hx hb hK hP 1 rfl (by decide) (by omega) dX5_hasSameAtBoth_18 ?_
        refine lv_istore (lv' := [(6, .int (nI (st r))), (0, .ref o5), (1, .int (nI line)), (2, .int (nI ahead)), (3, .int (nI k)), (4, .int (nI pl)), (5, .int (nI r))]) hx hb dX5_hasSameAtBoth_19 hl (by decide) rfl (fun ls hl => ?_)
        refine lv_aload_n hx hb dX5_hasSameAtBoth_21 rfl (lv_at hl 1 rfl) ?_
        have hs2 := htn r (by omega)
        refine va_get (D := D) (ci := 5) (v := .ref oc) (C := RX5) (T := TX5) (N := 9) hx hb hts i_X5 hown hK.1 hP 0 rfl rfl 0 (by decide) f_34 (fun _ h9 => h9) rfl dX5_hasSameAtBoth_22 ?_
        refine lv_aload_n hx hb dX5_hasSameAtBoth_25 rfl (lv_at hl 1 rfl) ?_
        refine va_get (D := D) (ci := 5) (v := .int (nI va)) (C := RX5) (T := TX5) (N := 9) hx hb hts i_X5 hown hK.1 hP 0 rfl rfl 3 (by decide) f_15 (fun _ h9 => h9) rfl dX5_hasSameAtBoth_26 ?_
        refine lv_iload hx hb dX5_hasSameAtBoth_29 (lv_at hl 0 rfl) ?_
        refine lv_iload_n hx hb dX5_hasSameAtBoth_31 rfl (lv_at hl 2 rfl) ?_
        refine m_add hx hb dX5_hasSameAtBoth_32 ?_
        refine lv_iload_n hx hb dX5_hasSameAtBoth_33 rfl (lv_at hl 3 rfl) ?_
        refine m_rdV (As := [.int (nI va), .int (nI ((st r) + line)), .int (nI ahead)]) (rest := []) (wc := [(oc, .inr (0, [.ref a1, .ref a2, .int (nI nl), .int (nI nv)])), (a1, aN cI 640 g), (a2, aN cI 80 z)]) hcf (k_X0_signAt (l := l) (D := D) (cI := cI) (cZ := cZ) (v := va) (ln := (st r) + line) (k := ahead) (o := oc) (a1 := a1) (a2 := a2) (nl := nl) (nv := nv) (g := g) (z := z) (hnl := hnl) (hnv := hnv) (hz := hz) (hg := hg) (hv := hva) (hln := by omega) (hk := by omega)) (cwV 3 hts gX5_hasSameAtBoth_X0_signAt rfl rfl rfl yd_X0_signAt ⟨Nat.le_of_ble_eq_true rfl, Nat.le_of_ble_eq_true rfl⟩) (m_preV hK hP hD [2, 3, 4] (by decide) rfl rfl rfl) rfl hl.1 rfl (Nat.le_of_ble_eq_true rfl) dX5_hasSameAtBoth_34 ⟨Nat.zero_le _, Nat.zero_le _⟩ ?_
        refine lv_aload_n hx hb dX5_hasSameAtBoth_37 rfl (lv_at hl 1 rfl) ?_
        refine va_get (D := D) (ci := 5) (v := .ref oc) (C := RX5) (T := TX5) (N := 9) hx hb hts i_X5 hown hK.1 hP 0 rfl rfl 0 (by decide) f_34 (fun _ h9 => h9) rfl dX5_hasSameAtBoth_38 ?_
        refine lv_aload_n hx hb dX5_hasSameAtBoth_41 rfl (lv_at hl 1 rfl) ?_
        refine va_get (D := D) (ci := 5) (v := .int (nI va)) (C := RX5) (T := TX5) (N := 9) hx hb hts i_X5 hown hK.1 hP 0 rfl rfl 3 (by decide) f_15 (fun _ h9 => h9) rfl dX5_hasSameAtBoth_42 ?_
        refine lv_iload hx hb dX5_hasSameAtBoth_45 (lv_at hl 0 rfl) ?_
        refine lv_iload_n hx hb dX5_hasSameAtBoth_47 rfl (lv_at hl 4 rfl) ?_
        refine m_add hx hb dX5_hasSameAtBoth_48 ?_
        refine lv_iload hx hb dX5_hasSameAtBoth_49 (lv_at hl 5 rfl) ?_
        refine m_rdV (As := [.int (nI va), .int (nI ((st r) + k)), .int (nI pl)]) (rest := [.int (nI (sgN z g (va * 20 + ((st r) + line)) ahead))]) (wc := [(oc, .inr (0, [.ref a1, .ref a2, .int (nI nl), .int (nI nv)])), (a1, aN cI 640 g), (a2, aN cI 80 z)]) hcf (k_X0_signAt (l := l) (D := D) (cI := cI) (cZ := cZ) (v := va) (ln := (st r) + k) (k := pl) (o := oc) (a1 := a1) (a2 := a2) (nl := nl) (nv := nv) (g := g) (z := z) (hnl := hnl) (hnv := hnv) (hz := hz) (hg := hg) (hv := hva) (hln := by omega) (hk := by omega)) (cwV 3 hts gX5_hasSameAtBoth_X0_signAt rfl rfl rfl yd_X0_signAt ⟨Nat.le_of_ble_eq_true rfl, Nat.le_of_ble_eq_true rfl⟩) (m_preV hK hP hD [2, 3, 4] (by decide) rfl rfl rfl) rfl hl.1 rfl (Nat.le_of_ble_eq_true rfl) dX5_hasSameAtBoth_51 ⟨Nat.zero_le _, Nat.zero_le _⟩ ?_
        refine m_cmp_eq (tgt := 59) hx hb dX5_hasSameAtBoth_54 (by decide) (Nat.lt_of_le_of_lt (sgN_le hg _ _) (by decide)) (Nat.lt_of_le_of_lt (sgN_le hg _ _) (by decide)) (fun c_54 => ?_) (fun c_54 => ?_)
        · refine lv_iinc (v := nI (r + 1)) (lv' := [(5, .int (nI (r + 1))), (6, .int (nI (st r))), (0, .ref o5), (1, .int (nI line)), (2, .int (nI ahead)), (3, .int (nI k)), (4, .int (nI pl))]) hx hb dX5_hasSameAtBoth_59 hl (k := 6) rfl ((nI_succ _).symm) (by decide) rfl (fun ls hl => ?_)
          refine lv_goto (tgt := 3) hx hb dX5_hasSameAtBoth_62 (by decide) ?_
          exact ih_3 (r + 1) (by omega) (by omega) (lt_s hall c_54)  ls (lv_sub hl [2, 3, 4, 5, 6, 0] rfl)
        · refine lv_iconst (v := nI 0) hx hb dX5_hasSameAtBoth_57 (by decide) ?_
          rw [hQ]
          exact m_zrd hx hb hr hlocks (bb_zero (alT_f hst r (by omega) (decide_eq_false c_54))) dX5_hasSameAtBoth_58
  exact loop_3 (tc + 1) 0 (by omega) (by omega) (fun j hj => absurd hj (Nat.not_lt_zero j))  ls (lv_sub hl [1, 2, 3, 4, 5, 0] rfl)

theorem yd_X5_stoodAhead : yX5_stoodAhead.cls = RX5 ∧ yX5_stoodAhead.cls ≠ "java/lang/invoke/MethodHandle" ∧ yX5_stoodAhead.cls ≠ "java/lang/invoke/VarHandle" ∧ (parseMethodDescriptor yX5_stoodAhead.desc).map (fun d => d.parameters.length) = some 2 := by decide +kernel
set_option maxHeartbeats 4000000 in
set_option maxRecDepth 100000 in
theorem k_X5_stoodAhead (l : Launch) (D : va_G) (cI cZ : ClassId) (o5 oc o s5 va tc ts tn td : Nat) (sv : Int32) (st : Nat → Nat) (a1 a2 nl nv : Nat) (z g : Nat → Nat) (n k pl : Nat) (hnl : nl ≤ 20) (hnv : nv ≤ 4) (hz : ∀ j, z j ≤ 8) (hg : ∀ j, g j ≤ 126) (hst : stOK st ts tc 20) (htc : tc ≤ 20) (htn : ∀ j, j < tc → st j + n ≤ nl) (hva : va < nv) (hk : k < n) (hn : n ≤ 20) (h0 : 0 < tc) (hpl : pl < 8) (hps : pl < szT z va ts k) : Met l yX5_stoodAhead wsX5_stoodAhead ({ frames := 2, cells := 0, slots := 0, locals := 50 }) (mPc [.ref o5, .int (nI k), .int (nI pl)] D cI cZ [(o5, .inr (5, [.ref oc, .ref o, .ref s5, .int (nI va), .int (nI tc), .int (nI ts), .int (nI tn), .int (nI td), .int sv])), (s5, aN cI 20 st), (oc, .inr (0, [.ref a1, .ref a2, .int (nI nl), .int (nI nv)])), (a1, aN cI 640 g), (a2, aN cI 80 z)]) (QcRead (bI (ahB z g va ts k pl))) 0 0 (fun _ => False) := by
  refine Met.ofW (cc := cX5_stoodAhead) (maxL := 6) (ret := (some .boolean)) (by decide) rfl ?_
  intro p e s m args below meth c s₁ BB hml hv
  obtain ⟨hargs, hP, hD0, hK⟩ := hv
  have hx := BB.exec
  have hb := BB.bytes
  have hr := BB.returns
  have hts := atoms_spec (ws := wsX5_stoodAhead) BB.pre
  have hown : s.vm.findClass RX5 = some m.cls := findClass_of_methodNamed BB.named
  have hlocks := BB.notSynchronized
  have hcf : CallFix p m c cX5_stoodAhead 6 s args wsX5_stoodAhead RX5 := ⟨hx, hb, hml, hown, hts⟩
  have hD := hD0
  rw [hargs, lg_entry_eq, ← hargs]
  have hl := lv_entry ([.ref o5, .int (nI k), .int (nI pl)]) (n := 6) (Nat.le_of_ble_eq_true rfl)
  generalize (lg_sl ([.ref o5, .int (nI k), .int (nI pl)]) ++ List.replicate (6 - (lg_sl ([.ref o5, .int (nI k), .int (nI pl)])).length) Slot.unset).toArray = ls at hl ⊢
  have hl : lv_has ls 6 [(0, .ref o5), (1, .int (nI k)), (2, .int (nI pl))] := hl
  obtain ⟨Q, hQ⟩ : ∃ Q, Q = MQ below (QcRead (bI (ahB z g va ts k pl))) args s 0 0 (fun _ => False) := ⟨_, rfl⟩
  rw [← hQ]
  refine lv_iconst (v := nI 0) hx hb dX5_stoodAhead_0 (by decide) ?_
  refine lv_istore_n (lv' := [(3, .int (nI 0)), (0, .ref o5), (1, .int (nI k)), (2, .int (nI pl))]) hx hb dX5_stoodAhead_1 rfl hl (by decide) rfl (fun ls hl => ?_)
  have loop_2 : ∀ (fu : Nat) (line : Nat) (hfu : k + 1 - line < fu)  (hli : line ≤ k + 1) (hall : ∀ i a, i < line → (i < k ∨ (i = k ∧ a < pl)) → a < szT z va ts i → saB z g va ts i a k pl = false) (ls : Array Slot) (hl : lv_has ls 6 [(0, .ref o5), (1, .int (nI k)), (2, .int (nI pl)), (3, .int (nI line))]), W p l e (headSpec wsX5_stoodAhead { frames := 2, cells := 0, slots := 0, locals := 50 }).room s m args below meth c s.heap [] 0 0 Q (F0 m 2 ls []) := by
    intro fu
    induction fu with
    | zero => intro line hfu; exact absurd hfu (Nat.not_lt_zero _)
    | succ fu ih_2 =>
      intro line hfu hli hall ls hl
      refine lv_iload_n hx hb dX5_stoodAhead_2 rfl (lv_at hl 3 rfl) ?_
      refine lv_iload_n hx hb dX5_stoodAhead_3 rfl (lv_at hl 1 rfl) ?_
      refine m_cmp_gt (tgt := 59) hx hb dX5_stoodAhead_4 (by decide) (by omega) (by omega) (fun c_4 => ?_) (fun c_4 => ?_)
      · refine lv_iconst (v := nI 0) hx hb dX5_stoodAhead_59 (by decide) ?_
        rw [hQ]
        exact m_zrd hx hb hr hlocks (bb_zero (ahB_f (by omega) (fun i a h1 h2 => hall i a (by omega) h1 h2))) dX5_stoodAhead_60
      · have cut_21 : ∀ (en : Nat)  (hen : en ≤ 8) (hen1 : line < k → en = szT z va ts line) (hen2 : line = k → en = pl) (ls : Array Slot) (hl : lv_has ls 6 [(0, .ref o5), (1, .int (nI k)), (2, .int (nI pl)), (3, .int (nI line))]), W p l e (headSpec wsX5_stoodAhead { frames := 2, cells := 0, slots := 0, locals := 50 }).room s m args below meth c s.heap [] 0 0 Q (F0 m 21 ls [.int (nI en)]) := by
          intro en hen hen1 hen2 ls hl
          refine lv_istore (lv' := [(4, .int (nI en)), (0, .ref o5), (1, .int (nI k)), (2, .int (nI pl)), (3, .int (nI line))]) hx hb dX5_stoodAhead_21 hl (by decide) rfl (fun ls hl => ?_)
          refine lv_iconst (v := nI 0) hx hb dX5_stoodAhead_23 (by decide) ?_
          refine lv_istore (lv' := [(5, .int (nI 0)), (4, .int (nI en)), (0, .ref o5), (1, .int (nI k)), (2, .int (nI pl)), (3, .int (nI line))]) hx hb dX5_stoodAhead_24 hl (by decide) rfl (fun ls hl => ?_)
          have loop_26 : ∀ (fu : Nat) (ah : Nat) (hfu : en - ah < fu)  (hah1 : ah ≤ en) (hin : ∀ a, a < ah → saB z g va ts line a k pl = false) (ls : Array Slot) (hl : lv_has ls 6 [(0, .ref o5), (1, .int (nI k)), (2, .int (nI pl)), (3, .int (nI line)), (4, .int (nI en)), (5, .int (nI ah))]), W p l e (headSpec wsX5_stoodAhead { frames := 2, cells := 0, slots := 0, locals := 50 }).room s m args below meth c s.heap [] 0 0 Q (F0 m 26 ls []) := by
            intro fu
            induction fu with
            | zero => intro ah hfu; exact absurd hfu (Nat.not_lt_zero _)
            | succ fu ih_26 =>
              intro ah hfu hah1 hin ls hl
              refine lv_iload hx hb dX5_stoodAhead_26 (lv_at hl 5 rfl) ?_
              refine lv_iload hx hb dX5_stoodAhead_28 (lv_at hl 4 rfl) ?_
              refine m_cmp_ge (tgt := 53) hx hb dX5_stoodAhead_30 (by decide) (by omega) (by omega) (fun c_30 => ?_) (fun c_30 => ?_)
              · refine lv_iinc (v := nI (line + 1)) (lv' := [(3, .int (nI (line + 1))), (0, .ref o5), (1, .int (nI k)), (2, .int (nI pl)), (4, .int (nI en)), (5, .int (nI ah))]) hx hb dX5_stoodAhead_53 hl (k := 3) rfl ((nI_succ _).symm) (by decide) rfl (fun ls hl => ?_)
                refine lv_goto (tgt := 2) hx hb dX5_stoodAhead_56 (by decide) ?_
                have X7 : ∀ i a, i < line + 1 → (i < k ∨ (i = k ∧ a < pl)) → a < szT z va ts i → saB z g va ts i a k pl = false := by
                  intro i a h1 h2 h3
                  by_cases e9 : i = line
                  · subst e9
                    rcases Nat.lt_or_ge i k with q | q
                    · have h9 := hen1 q
                      exact hin a (by omega)
                    · have h9 := hen2 (by omega)
                      exact hin a (by omega)
                  · exact hall i a (by omega) h2 h3
                exact ih_2 (line + 1) (by omega) (by omega) X7  ls (lv_sub hl [1, 2, 3, 0] rfl)
              · refine lv_aload_n hx hb dX5_stoodAhead_33 rfl (lv_at hl 0 rfl) ?_
                refine lv_iload_n hx hb dX5_stoodAhead_34 rfl (lv_at hl 3 rfl) ?_
                refine lv_iload hx hb dX5_stoodAhead_35 (lv_at hl 5 rfl) ?_
                refine lv_iload_n hx hb dX5_stoodAhead_37 rfl (lv_at hl 1 rfl) ?_
                refine lv_iload_n hx hb dX5_stoodAhead_38 rfl (lv_at hl 2 rfl) ?_
                refine m_rdV (As := [.int (nI line), .int (nI ah), .int (nI k), .int (nI pl)]) (rest := []) (wc := [(o5, .inr (5, [.ref oc, .ref o, .ref s5, .int (nI va), .int (nI tc), .int (nI ts), .int (nI tn), .int (nI td), .int sv])), (s5, aN cI 20 st), (oc, .inr (0, [.ref a1, .ref a2, .int (nI nl), .int (nI nv)])), (a1, aN cI 640 g), (a2, aN cI 80 z)]) hcf (k_X5_hasSameAtBoth (l := l) (D := D) (cI := cI) (cZ := cZ) (line := line) (ahead := ah) (k := k) (pl := pl) (o5 := o5) (oc := oc) (o := o) (s5 := s5) (va := va) (tc := tc) (ts := ts) (tn := tn) (td := td) (sv := sv) (st := st) (a1 := a1) (a2 := a2) (nl := nl) (nv := nv) (g := g) (z := z) (n := n) (hnl := hnl) (hnv := hnv) (hz := hz) (hg := hg) (hst := hst) (htc := htc) (htn := htn) (hva := hva) (hk := hk) (hli := by omega) (hpl := hpl) (hah := by omega)) (cwV 4 hts gX5_stoodAhead_X5_hasSameAtBoth rfl rfl rfl yd_X5_hasSameAtBoth ⟨Nat.le_of_ble_eq_true rfl, Nat.le_of_ble_eq_true rfl⟩) (m_preV hK hP hD [0, 1, 2, 3, 4] (by decide) rfl rfl rfl) rfl hl.1 rfl (Nat.le_of_ble_eq_true rfl) dX5_stoodAhead_39 ⟨Nat.zero_le _, Nat.zero_le _⟩ ?_
                refine m_ifB_eq (tgt := 47) hx hb dX5_stoodAhead_42 (by decide) (fun c_42 => ?_) (fun c_42 => ?_)
                · refine lv_iinc (v := nI (ah + 1)) (lv' := [(5, .int (nI (ah + 1))), (0, .ref o5), (1, .int (nI k)), (2, .int (nI pl)), (3, .int (nI line)), (4, .int (nI en))]) hx hb dX5_stoodAhead_47 hl (k := 5) rfl ((nI_succ _).symm) (by decide) rfl (fun ls hl => ?_)
                  refine lv_goto (tgt := 26) hx hb dX5_stoodAhead_50 (by decide) ?_
                  exact ih_26 (ah + 1) (by omega) (by omega) (lt_s hin c_42)  ls (lv_sub hl [1, 2, 3, 4, 5, 0] rfl)
                · refine lv_iconst (v := nI 1) hx hb dX5_stoodAhead_45 (by decide) ?_
                  rw [hQ]
                  have X6 : (line < k ∨ (line = k ∧ ah < pl)) ∧ ah < szT z va ts line := by
                    rcases Nat.lt_or_ge line k with q | q
                    · have h9 := hen1 q
                      exact ⟨Or.inl q, by omega⟩
                    · have e9 : line = k := by omega
                      have h9 := hen2 e9
                      exact ⟨Or.inr ⟨e9, by omega⟩, by rw [e9]; omega⟩
                  exact m_zrd hx hb hr hlocks (bb_one (ahB_t (line := line) (ahead := ah) X6.1 (by omega) X6.2 c_42)) dX5_stoodAhead_46
          exact loop_26 (en + 1) 0 (by omega) (by omega) (fun a ha => absurd ha (Nat.not_lt_zero a))  ls (lv_sub hl [2, 3, 4, 5, 1, 0] rfl)
        refine lv_iload_n hx hb dX5_stoodAhead_7 rfl (lv_at hl 3 rfl) ?_
        refine lv_iload_n hx hb dX5_stoodAhead_8 rfl (lv_at hl 1 rfl) ?_
        refine m_cmp_ge (tgt := 20) hx hb dX5_stoodAhead_9 (by decide) (by omega) (by omega) (fun c_9 => ?_) (fun c_9 => ?_)
        · refine lv_iload_n hx hb dX5_stoodAhead_20 rfl (lv_at hl 2 rfl) ?_
          exact cut_21 _ (by omega) (fun h => by omega) (fun _ => rfl)  ls (lv_sub hl [0, 1, 2, 3] rfl)
        · refine lv_aload_n hx hb dX5_stoodAhead_12 rfl (lv_at hl 0 rfl) ?_
          refine lv_iload_n hx hb dX5_stoodAhead_13 rfl (lv_at hl 3 rfl) ?_
          refine m_rdV (As := [.int (nI line)]) (rest := []) (wc := [(o5, .inr (5, [.ref oc, .ref o, .ref s5, .int (nI va), .int (nI tc), .int (nI ts), .int (nI tn), .int (nI td), .int sv])), (s5, aN cI 20 st), (oc, .inr (0, [.ref a1, .ref a2, .int (nI nl), .int (nI nv)])), (a1, aN cI 640 g), (a2, aN cI 80 z)]) hcf (k_X5_signsOfLine (l := l) (D := D) (cI := cI) (cZ := cZ) (k := line) (o5 := o5) (oc := oc) (o := o) (s5 := s5) (va := va) (tc := tc) (ts := ts) (tn := tn) (td := td) (sv := sv) (st := st) (a1 := a1) (a2 := a2) (nl := nl) (nv := nv) (g := g) (z := z) (n := n) (hnl := hnl) (hnv := hnv) (hst := hst) (htc := htc) (htn := htn) (hva := hva) (hk := by omega)) (cwV 1 hts gX5_stoodAhead_X5_signsOfLine rfl rfl rfl yd_X5_signsOfLine ⟨Nat.le_of_ble_eq_true rfl, Nat.le_of_ble_eq_true rfl⟩) (m_preV hK hP hD [0, 1, 2, 3, 4] (by decide) rfl rfl rfl) rfl hl.1 rfl (Nat.le_of_ble_eq_true rfl) dX5_stoodAhead_14 ⟨Nat.zero_le _, Nat.zero_le _⟩ ?_
          refine m_top (y := nI (szT z va ts line)) (by rw [szQ_p h0]) ?_
          refine lv_goto (tgt := 21) hx hb dX5_stoodAhead_17 (by decide) ?_
          exact cut_21 _ (hz _) (fun _ => rfl) (fun h => by omega)  ls (lv_sub hl [0, 1, 2, 3] rfl)
  exact loop_2 (k + 2) 0 (by omega) (by omega) (fun i a hi => absurd hi (Nat.not_lt_zero i))  ls (lv_sub hl [1, 2, 3, 0] rfl)

theorem yd_X5_countTold : yX5_countTold.cls = RX5 ∧ yX5_countTold.cls ≠ "java/lang/invoke/MethodHandle" ∧ yX5_countTold.cls ≠ "java/lang/invoke/VarHandle" ∧ (parseMethodDescriptor yX5_countTold.desc).map (fun d => d.parameters.length) = some 1 := by decide +kernel
set_option maxHeartbeats 4000000 in
set_option maxRecDepth 100000 in
theorem k_X5_countTold (l : Launch) (D : va_G) (cI cZ : ClassId) (o5 oc o s5 va tc ts tn td : Nat) (sv : Int32) (st : Nat → Nat) (a1 a2 nl nv : Nat) (z g : Nat → Nat) (n : Nat) (hnl : nl ≤ 20) (hnv : nv ≤ 4) (hz : ∀ j, z j ≤ 8) (hg : ∀ j, g j ≤ 126) (hst : stOK st ts tc 20) (htc : tc ≤ 20) (htn : ∀ j, j < tc → st j + n ≤ nl) (hva : va < nv) (hn : n ≤ 20) : Met l yX5_countTold wsX5_countTold ({ frames := 3, cells := 0, slots := 0, locals := 75 }) (mPc [.ref o5, .int (nI n)] D cI cZ [(o5, .inr (5, [.ref oc, .ref o, .ref s5, .int (nI va), .int (nI tc), .int (nI ts), .int (nI tn), .int (nI td), .int sv])), (s5, aN cI 20 st), (oc, .inr (0, [.ref a1, .ref a2, .int (nI nl), .int (nI nv)])), (a1, aN cI 640 g), (a2, aN cI 80 z)]) (mQv D (mA [(o5, .inr (5, [.ref oc, .ref o, .ref s5, .int (nI va), .int (nI tc), .int (nI ts), .int (nI tn), .int (nI td), .int sv])), (s5, aN cI 20 st), (oc, .inr (0, [.ref a1, .ref a2, .int (nI nl), .int (nI nv)])), (a1, aN cI 640 g), (a2, aN cI 80 z)]) (fun (u : Unit) => True) (fun (u : Unit) => [(o5, .inr (5, [.ref oc, .ref o, .ref s5, .int (nI va), .int (nI tc), .int (nI ts), .int (nI tn), .int (nI (tdN z g va ts n)), .int sv])), (s5, aN cI 20 st), (oc, .inr (0, [.ref a1, .ref a2, .int (nI nl), .int (nI nv)])), (a1, aN cI 640 g), (a2, aN cI 80 z)])) 0 0 (mA [(o5, .inr (5, [.ref oc, .ref o, .ref s5, .int (nI va), .int (nI tc), .int (nI ts), .int (nI tn), .int (nI td), .int sv])), (s5, aN cI 20 st), (oc, .inr (0, [.ref a1, .ref a2, .int (nI nl), .int (nI nv)])), (a1, aN cI 640 g), (a2, aN cI 80 z)]) := by
  refine Met.ofW (cc := cX5_countTold) (maxL := 5) (ret := none) (by decide) rfl ?_
  intro p e s m args below meth c s₁ BB hml hv
  obtain ⟨hargs, hP, hD0, hK⟩ := hv
  have hx := BB.exec
  have hb := BB.bytes
  have hr := BB.returns
  have hts := atoms_spec (ws := wsX5_countTold) BB.pre
  have hown : s.vm.findClass RX5 = some m.cls := findClass_of_methodNamed BB.named
  have hlocks := BB.notSynchronized
  have hcf : CallFix p m c cX5_countTold 5 s args wsX5_countTold RX5 := ⟨hx, hb, hml, hown, hts⟩
  obtain ⟨A, hAe⟩ : ∃ A, A = mA [(o5, .inr (5, [.ref oc, .ref o, .ref s5, .int (nI va), .int (nI tc), .int (nI ts), .int (nI tn), .int (nI td), .int sv])), (s5, aN cI 20 st), (oc, .inr (0, [.ref a1, .ref a2, .int (nI nl), .int (nI nv)])), (a1, aN cI 640 g), (a2, aN cI 80 z)] := ⟨_, rfl⟩
  have hD : va_D A [(o5, .inr (5, [.ref oc, .ref o, .ref s5, .int (nI va), .int (nI tc), .int (nI ts), .int (nI tn), .int (nI td), .int sv])), (s5, aN cI 20 st), (oc, .inr (0, [.ref a1, .ref a2, .int (nI nl), .int (nI nv)])), (a1, aN cI 640 g), (a2, aN cI 80 z)] := ⟨hD0.1, fun k q h => by rw [hAe]; exact ⟨k, q.2, h⟩⟩
  have hS : va_S A s.heap s.heap [] := va_S.rf
  rw [← hAe]
  rw [hargs, lg_entry_eq, ← hargs]
  have hl := lv_entry ([.ref o5, .int (nI n)]) (n := 5) (Nat.le_of_ble_eq_true rfl)
  generalize (lg_sl ([.ref o5, .int (nI n)]) ++ List.replicate (5 - (lg_sl ([.ref o5, .int (nI n)])).length) Slot.unset).toArray = ls at hl ⊢
  have hl : lv_has ls 5 [(0, .ref o5), (1, .int (nI n))] := hl
  obtain ⟨Q, hQ⟩ : ∃ Q, Q = MQ below (mQv D A (fun (u : Unit) => True) (fun (u : Unit) => [(o5, .inr (5, [.ref oc, .ref o, .ref s5, .int (nI va), .int (nI tc), .int (nI ts), .int (nI tn), .int (nI (tdN z g va ts n)), .int sv])), (s5, aN cI 20 st), (oc, .inr (0, [.ref a1, .ref a2, .int (nI nl), .int (nI nv)])), (a1, aN cI 640 g), (a2, aN cI 80 z)])) args s 0 0 A := ⟨_, rfl⟩
  rw [← hQ]
  have i_X5 : ∀ w ∈ u_ws RX5 TX5 9, w ∈ wsX5_countTold := by decide +kernel
  have f_28 := hts (.fieldLink RX5 28 "SameAgain$Procedure" "toldCount" "I") (by decide +kernel)
  have hsz : ∀ q, szT z va ts q ≤ 8 := fun q => hz _
  have hszq : ∀ q, szQ z va ts tc q ≤ 8 := fun q => by unfold szQ; split; omega; exact hz _
  refine lv_aload_n hx hb dX5_countTold_0 rfl (lv_at hl 0 rfl) ?_
  refine lv_iconst (v := nI 0) hx hb dX5_countTold_1 (by decide) ?_
  refine va_put (D := D) (ci := 5) (v := .int (nI 0)) (ty := .int) (C := RX5) (T := TX5) (N := 9) hx hb hts i_X5 tyX5 tyX5_ok nmX5 hown hK.1 hP hD hS 0 rfl rfl 7 (by decide) f_28 (fun _ h9 => h9) rfl (by decide +kernel) rfl rfl (Nat.le_of_ble_eq_true rfl) dX5_countTold_2 (fun H locs hP hD hS => ?_)
  have hP : va_P D vwCl [(o5, .inr (5, [.ref oc, .ref o, .ref s5, .int (nI va), .int (nI tc), .int (nI ts), .int (nI tn), .int (nI 0), .int sv])), (s5, aN cI 20 st), (oc, .inr (0, [.ref a1, .ref a2, .int (nI nl), .int (nI nv)])), (a1, aN cI 640 g), (a2, aN cI 80 z)] H := hP
  have hD : va_D A [(o5, .inr (5, [.ref oc, .ref o, .ref s5, .int (nI va), .int (nI tc), .int (nI ts), .int (nI tn), .int (nI 0), .int sv])), (s5, aN cI 20 st), (oc, .inr (0, [.ref a1, .ref a2, .int (nI nl), .int (nI nv)])), (a1, aN cI 640 g), (a2, aN cI 80 z)] := hD
  refine lv_iconst (v := nI 0) hx hb dX5_countTold_5 (by decide) ?_
  refine lv_istore_n (lv' := [(2, .int (nI 0)), (0, .ref o5), (1, .int (nI n))]) hx hb dX5_countTold_6 rfl hl (by decide) rfl (fun ls hl => ?_)
  have loop_7 : ∀ (fu : Nat) (k t1 : Nat) (hfu : n - k < fu)  (hk : k ≤ n) (ht1 : t1 = fb_ct (tdB z g va ts) (8 * k)) (H : Heap) (locs : List Loc) (hP : va_P D vwCl [(o5, .inr (5, [.ref oc, .ref o, .ref s5, .int (nI va), .int (nI tc), .int (nI ts), .int (nI tn), .int (nI t1), .int sv])), (s5, aN cI 20 st), (oc, .inr (0, [.ref a1, .ref a2, .int (nI nl), .int (nI nv)])), (a1, aN cI 640 g), (a2, aN cI 80 z)] H) (hD : va_D A [(o5, .inr (5, [.ref oc, .ref o, .ref s5, .int (nI va), .int (nI tc), .int (nI ts), .int (nI tn), .int (nI t1), .int sv])), (s5, aN cI 20 st), (oc, .inr (0, [.ref a1, .ref a2, .int (nI nl), .int (nI nv)])), (a1, aN cI 640 g), (a2, aN cI 80 z)]) (hS : va_S A s.heap H locs) (ls : Array Slot) (hl : lv_has ls 5 [(0, .ref o5), (1, .int (nI n)), (2, .int (nI k))]), W p l e (headSpec wsX5_countTold { frames := 3, cells := 0, slots := 0, locals := 75 }).room s m args below meth c H locs 0 0 Q (F0 m 7 ls []) := by
    intro fu
    induction fu with
    | zero => intro k t1 hfu; exact absurd hfu (Nat.not_lt_zero _)
    | succ fu ih_7 =>
      intro k t1 hfu hk ht1 H locs hP hD hS ls hl
      refine lv_iload_n hx hb dX5_countTold_7 rfl (lv_at hl 2 rfl) ?_
      refine lv_iload_n hx hb dX5_countTold_8 rfl (lv_at hl 1 rfl) ?_
      refine m_cmp_ge (tgt := 69) hx hb dX5_countTold_9 (by decide) (by omega) (by omega) (fun c_9 => ?_) (fun c_9 => ?_)
      · rw [hQ]
        have e9 : k = n := by omega
        subst e9
        subst ht1
        exact m_vwr hx hb hr hlocks () (trivial) hP hS dX5_countTold_69
      · refine lv_aload_n hx hb dX5_countTold_12 rfl (lv_at hl 0 rfl) ?_
        refine lv_iload_n hx hb dX5_countTold_13 rfl (lv_at hl 2 rfl) ?_
        refine m_rdV (As := [.int (nI k)]) (rest := []) (wc := [(o5, .inr (5, [.ref oc, .ref o, .ref s5, .int (nI va), .int (nI tc), .int (nI ts), .int (nI tn), .int (nI t1), .int sv])), (s5, aN cI 20 st), (oc, .inr (0, [.ref a1, .ref a2, .int (nI nl), .int (nI nv)])), (a1, aN cI 640 g), (a2, aN cI 80 z)]) hcf (k_X5_signsOfLine (l := l) (D := D) (cI := cI) (cZ := cZ) (k := k) (o5 := o5) (oc := oc) (o := o) (s5 := s5) (va := va) (tc := tc) (ts := ts) (tn := tn) (td := t1) (sv := sv) (st := st) (a1 := a1) (a2 := a2) (nl := nl) (nv := nv) (g := g) (z := z) (n := n) (hnl := hnl) (hnv := hnv) (hst := hst) (htc := htc) (htn := htn) (hva := hva) (hk := by omega)) (cwV 1 hts gX5_countTold_X5_signsOfLine rfl rfl rfl yd_X5_signsOfLine ⟨Nat.le_of_ble_eq_true rfl, Nat.le_of_ble_eq_true rfl⟩) (m_preV hK hP hD [0, 1, 2, 3, 4] (by decide) rfl rfl rfl) rfl hl.1 rfl (Nat.le_of_ble_eq_true rfl) dX5_countTold_14 ⟨Nat.zero_le _, Nat.zero_le _⟩ ?_
        refine lv_istore_n (lv' := [(3, .int (nI (szQ z va ts tc k))), (0, .ref o5), (1, .int (nI n)), (2, .int (nI k))]) hx hb dX5_countTold_17 rfl hl (by decide) rfl (fun ls hl => ?_)
        refine lv_iconst (v := nI 0) hx hb dX5_countTold_18 (by decide) ?_
        refine lv_istore (lv' := [(4, .int (nI 0)), (3, .int (nI (szQ z va ts tc k))), (0, .ref o5), (1, .int (nI n)), (2, .int (nI k))]) hx hb dX5_countTold_19 hl (by decide) rfl (fun ls hl => ?_)
        have loop_21 : ∀ (fu : Nat) (pl t2 : Nat) (hfu : szQ z va ts tc k - pl < fu)  (hp9 : pl ≤ szQ z va ts tc k) (ht2 : t2 = fb_ct (tdB z g va ts) (8 * k + pl)) (H : Heap) (locs : List Loc) (hP : va_P D vwCl [(o5, .inr (5, [.ref oc, .ref o, .ref s5, .int (nI va), .int (nI tc), .int (nI ts), .int (nI tn), .int (nI t2), .int sv])), (s5, aN cI 20 st), (oc, .inr (0, [.ref a1, .ref a2, .int (nI nl), .int (nI nv)])), (a1, aN cI 640 g), (a2, aN cI 80 z)] H) (hD : va_D A [(o5, .inr (5, [.ref oc, .ref o, .ref s5, .int (nI va), .int (nI tc), .int (nI ts), .int (nI tn), .int (nI t2), .int sv])), (s5, aN cI 20 st), (oc, .inr (0, [.ref a1, .ref a2, .int (nI nl), .int (nI nv)])), (a1, aN cI 640 g), (a2, aN cI 80 z)]) (hS : va_S A s.heap H locs) (ls : Array Slot) (hl : lv_has ls 5 [(0, .ref o5), (1, .int (nI n)), (2, .int (nI k)), (3, .int (nI (szQ z va ts tc k))), (4, .int (nI pl))]), W p l e (headSpec wsX5_countTold { frames := 3, cells := 0, slots := 0, locals := 75 }).room s m args below meth c H locs 0 0 Q (F0 m 21 ls []) := by
          intro fu
          induction fu with
          | zero => intro pl t2 hfu; exact absurd hfu (Nat.not_lt_zero _)
          | succ fu ih_21 =>
            intro pl t2 hfu hp9 ht2 H locs hP hD hS ls hl
            refine lv_iload hx hb dX5_countTold_21 (lv_at hl 4 rfl) ?_
            refine lv_iload_n hx hb dX5_countTold_23 rfl (lv_at hl 3 rfl) ?_
            have hs8 := hszq k
            refine m_cmp_ge (tgt := 63) hx hb dX5_countTold_24 (by decide) (by omega) (by omega) (fun c_24 => ?_) (fun c_24 => ?_)
            · refine lv_iinc (v := nI (k + 1)) (lv' := [(2, .int (nI (k + 1))), (0, .ref o5), (1, .int (nI n)), (3, .int (nI (szQ z va ts tc k))), (4, .int (nI pl))]) hx hb dX5_countTold_63 hl (k := 2) rfl ((nI_succ _).symm) (by decide) rfl (fun ls hl => ?_)
              refine lv_goto (tgt := 7) hx hb dX5_countTold_66 (by decide) ?_
              exact ih_7 (k + 1) _ (by omega) (by omega) (by rw [ht2, show pl = szQ z va ts tc k by omega]; exact td_endQ hst (hsz k)) _ _ hP hD hS ls (lv_sub hl [1, 2, 0] rfl)
            · have h0 : 0 < tc := by
                apply Nat.pos_of_ne_zero
                intro q
                rw [szQ_0 q] at c_24
                exact absurd c_24 (Nat.not_lt_zero _)
              have hps : pl < szT z va ts k := by rw [← szQ_p h0]; exact c_24
              refine lv_aload_n hx hb dX5_countTold_27 rfl (lv_at hl 0 rfl) ?_
              refine lv_iload_n hx hb dX5_countTold_28 rfl (lv_at hl 2 rfl) ?_
              refine lv_iload hx hb dX5_countTold_29 (lv_at hl 4 rfl) ?_
              refine m_rdV (As := [.int (nI k), .int (nI pl)]) (rest := []) (wc := [(o5, .inr (5, [.ref oc, .ref o, .ref s5, .int (nI va), .int (nI tc), .int (nI ts), .int (nI tn), .int (nI t2), .int sv])), (s5, aN cI 20 st), (oc, .inr (0, [.ref a1, .ref a2, .int (nI nl), .int (nI nv)])), (a1, aN cI 640 g), (a2, aN cI 80 z)]) hcf (k_X5_differs (l := l) (D := D) (cI := cI) (cZ := cZ) (k := k) (pl := pl) (o5 := o5) (oc := oc) (o := o) (s5 := s5) (va := va) (tc := tc) (ts := ts) (tn := tn) (td := t2) (sv := sv) (st := st) (a1 := a1) (a2 := a2) (nl := nl) (nv := nv) (g := g) (z := z) (n := n) (hnl := hnl) (hnv := hnv) (hz := hz) (hg := hg) (hst := hst) (htc := htc) (htn := htn) (hva := hva) (hk := by omega) (h0 := by omega) (hpl := by omega)) (cwV 2 hts gX5_countTold_X5_differs rfl rfl rfl yd_X5_differs ⟨Nat.le_of_ble_eq_true rfl, Nat.le_of_ble_eq_true rfl⟩) (m_preV hK hP hD [0, 1, 2, 3, 4] (by decide) rfl rfl rfl) rfl hl.1 rfl (Nat.le_of_ble_eq_true rfl) dX5_countTold_31 ⟨Nat.zero_le _, Nat.zero_le _⟩ ?_
              refine m_ifB_eq (tgt := 57) hx hb dX5_countTold_34 (by decide) (fun c_34 => ?_) (fun c_34 => ?_)
              · refine lv_iinc (v := nI (pl + 1)) (lv' := [(4, .int (nI (pl + 1))), (0, .ref o5), (1, .int (nI n)), (2, .int (nI k)), (3, .int (nI (szQ z va ts tc k)))]) hx hb dX5_countTold_57 hl (k := 4) rfl ((nI_succ _).symm) (by decide) rfl (fun ls hl => ?_)
                refine lv_goto (tgt := 21) hx hb dX5_countTold_60 (by decide) ?_
                exact ih_21 (pl + 1) _ (by omega) (by omega) (by rw [ht2]; exact td_f (by omega) (by first | exact Or.inl c_34 | exact Or.inr c_44)) _ _ hP hD hS ls (lv_sub hl [1, 2, 3, 4, 0] rfl)
              · refine lv_aload_n hx hb dX5_countTold_37 rfl (lv_at hl 0 rfl) ?_
                refine lv_iload_n hx hb dX5_countTold_38 rfl (lv_at hl 2 rfl) ?_
                refine lv_iload hx hb dX5_countTold_39 (lv_at hl 4 rfl) ?_
                refine m_rdV (As := [.int (nI k), .int (nI pl)]) (rest := []) (wc := [(o5, .inr (5, [.ref oc, .ref o, .ref s5, .int (nI va), .int (nI tc), .int (nI ts), .int (nI tn), .int (nI t2), .int sv])), (s5, aN cI 20 st), (oc, .inr (0, [.ref a1, .ref a2, .int (nI nl), .int (nI nv)])), (a1, aN cI 640 g), (a2, aN cI 80 z)]) hcf (k_X5_stoodAhead (l := l) (D := D) (cI := cI) (cZ := cZ) (k := k) (pl := pl) (o5 := o5) (oc := oc) (o := o) (s5 := s5) (va := va) (tc := tc) (ts := ts) (tn := tn) (td := t2) (sv := sv) (st := st) (a1 := a1) (a2 := a2) (nl := nl) (nv := nv) (g := g) (z := z) (n := n) (hnl := hnl) (hnv := hnv) (hz := hz) (hg := hg) (hst := hst) (htc := htc) (htn := htn) (hva := hva) (hk := by omega) (hn := hn) (h0 := by omega) (hpl := by omega) (hps := hps)) (cwV 2 hts gX5_countTold_X5_stoodAhead rfl rfl rfl yd_X5_stoodAhead ⟨Nat.le_of_ble_eq_true rfl, Nat.le_of_ble_eq_true rfl⟩) (m_preV hK hP hD [0, 1, 2, 3, 4] (by decide) rfl rfl rfl) rfl hl.1 rfl (Nat.le_of_ble_eq_true rfl) dX5_countTold_41 ⟨Nat.zero_le _, Nat.zero_le _⟩ ?_
                refine m_ifB_ne (tgt := 57) hx hb dX5_countTold_44 (by decide) (fun c_44 => ?_) (fun c_44 => ?_)
                · refine lv_iinc (v := nI (pl + 1)) (lv' := [(4, .int (nI (pl + 1))), (0, .ref o5), (1, .int (nI n)), (2, .int (nI k)), (3, .int (nI (szQ z va ts tc k)))]) hx hb dX5_countTold_57 hl (k := 4) rfl ((nI_succ _).symm) (by decide) rfl (fun ls hl => ?_)
                  refine lv_goto (tgt := 21) hx hb dX5_countTold_60 (by decide) ?_
                  exact ih_21 (pl + 1) _ (by omega) (by omega) (by rw [ht2]; exact td_f (by omega) (by first | exact Or.inl c_34 | exact Or.inr c_44)) _ _ hP hD hS ls (lv_sub hl [1, 2, 3, 4, 0] rfl)
                · refine lv_aload_n hx hb dX5_countTold_47 rfl (lv_at hl 0 rfl) ?_
                  refine lv_dup hx hb dX5_countTold_48 rfl ?_
                  refine va_get (D := D) (ci := 5) (v := .int (nI t2)) (C := RX5) (T := TX5) (N := 9) hx hb hts i_X5 hown hK.1 hP 0 rfl rfl 7 (by decide) f_28 (fun _ h9 => h9) rfl dX5_countTold_49 ?_
                  refine lv_iconst (v := nI 1) hx hb dX5_countTold_52 (by decide) ?_
                  refine m_add hx hb dX5_countTold_53 ?_
                  refine va_put (D := D) (ci := 5) (v := .int (nI (t2 + 1))) (ty := .int) (C := RX5) (T := TX5) (N := 9) hx hb hts i_X5 tyX5 tyX5_ok nmX5 hown hK.1 hP hD hS 0 rfl rfl 7 (by decide) f_28 (fun _ h9 => h9) rfl (by decide +kernel) rfl rfl (Nat.le_of_ble_eq_true rfl) dX5_countTold_54 (fun H locs hP hD hS => ?_)
                  have hP : va_P D vwCl [(o5, .inr (5, [.ref oc, .ref o, .ref s5, .int (nI va), .int (nI tc), .int (nI ts), .int (nI tn), .int (nI (t2 + 1)), .int sv])), (s5, aN cI 20 st), (oc, .inr (0, [.ref a1, .ref a2, .int (nI nl), .int (nI nv)])), (a1, aN cI 640 g), (a2, aN cI 80 z)] H := hP
                  have hD : va_D A [(o5, .inr (5, [.ref oc, .ref o, .ref s5, .int (nI va), .int (nI tc), .int (nI ts), .int (nI tn), .int (nI (t2 + 1)), .int sv])), (s5, aN cI 20 st), (oc, .inr (0, [.ref a1, .ref a2, .int (nI nl), .int (nI nv)])), (a1, aN cI 640 g), (a2, aN cI 80 z)] := hD
                  refine lv_iinc (v := nI (pl + 1)) (lv' := [(4, .int (nI (pl + 1))), (0, .ref o5), (1, .int (nI n)), (2, .int (nI k)), (3, .int (nI (szQ z va ts tc k)))]) hx hb dX5_countTold_57 hl (k := 4) rfl ((nI_succ _).symm) (by decide) rfl (fun ls hl => ?_)
                  refine lv_goto (tgt := 21) hx hb dX5_countTold_60 (by decide) ?_
                  exact ih_21 (pl + 1) _ (by omega) (by omega) (by rw [ht2]; exact td_t (by omega) hps c_34 c_44) _ _ hP hD hS ls (lv_sub hl [1, 2, 3, 4, 0] rfl)
        have hs8 := hszq k
        exact loop_21 (szQ z va ts tc k + 1) 0 t1 (by omega) (by omega) (by rw [ht1]; rfl) _ _ hP hD hS ls (lv_sub hl [2, 3, 4, 1, 0] rfl)
  exact loop_7 (n + 1) 0 0 (by omega) (by omega) rfl _ _ hP hD hS ls (lv_sub hl [1, 2, 0] rfl)

theorem tk_sub {gr n : Nat} : ∀ {k t : Nat}, (tkF gr n k).1.testBit t = true → gr.testBit t = true
  | 0, t, h => by have h2 : (0 : Nat).testBit t = true := h
                  rw [Nat.zero_testBit] at h2; cases h2
  | k + 1, t, h => by
    by_cases q : gr.testBit k = true ∧ (tkF gr n k).2.1 ≤ k
    · rw [tkF_t q.1 q.2] at h
      simp only at h
      rw [fb_bit_set, Bool.or_eq_true] at h
      rcases h with h | h
      · exact tk_sub h
      · rw [of_decide_eq_true h]; exact q.1
    · rw [tkF_f q] at h
      exact tk_sub h
theorem tk_free {gr n : Nat} : ∀ {k : Nat}, (tkF gr n k).2.2.2 = 0 → (tkF gr n k).2.1 = 0
  | 0, _ => rfl
  | k + 1, h => by
    by_cases q : gr.testBit k = true ∧ (tkF gr n k).2.1 ≤ k
    · rw [tkF_t q.1 q.2] at h
      cases h
    · rw [tkF_f q] at h ⊢
      exact tk_free h
theorem tk_pos {gr n t : Nat} (ht : gr.testBit t = true) : ∀ {k : Nat}, t < k → 0 < (tkF gr n k).2.2.2
  | 0, h => absurd h (Nat.not_lt_zero t)
  | k + 1, h => by
    by_cases q : gr.testBit k = true ∧ (tkF gr n k).2.1 ≤ k
    · rw [tkF_t q.1 q.2]
      exact Nat.succ_pos _
    · rw [tkF_f q]
      by_cases e : t = k
      · subst e
        apply Nat.pos_of_ne_zero
        intro e0
        refine q ⟨ht, ?_⟩
        rw [tk_free e0]
        exact Nat.zero_le _
      · exact tk_pos ht (by omega)

/-- what must be told of a group's starts -/
def toN (z g : Nat → Nat) (v nl : Nat) (rc : Nat → Nat) (start n : Nat) : Nat := tdN z g v (tkF (slN rc nl start n) n 20).1 n

theorem yd_X5_pullOut : yX5_pullOut.cls = RX5 ∧ yX5_pullOut.cls ≠ "java/lang/invoke/MethodHandle" ∧ yX5_pullOut.cls ≠ "java/lang/invoke/VarHandle" ∧ (parseMethodDescriptor yX5_pullOut.desc).map (fun d => d.parameters.length) = some 3 := by decide +kernel
set_option maxHeartbeats 4000000 in
set_option maxRecDepth 100000 in
theorem k_X5_pullOut (l : Launch) (D : va_G) (cI cZ : ClassId) (o5 s5 va tc ts tn td : Nat) (sv : Int32) (st : Nat → Nat) (o q0 q1 ra oc a1 a2 ll lo lt n1 n2 nl nv : Nat) (pt rc z g : Nat → Nat) (v start n : Nat) (hnl : nl ≤ 20) (hnv : nv ≤ 4) (hz : ∀ j, z j ≤ 8) (hg : ∀ j, g j ≤ 126) (hrc : ∀ j, rc j ≤ 20) (hv : v < nv) (h1 : start ≤ 20) (hn1 : 1 ≤ n) (hn : n ≤ 20) (hgp : ∀ t, (slN rc nl start n).testBit t = true → t + n ≤ nl) : Met l yX5_pullOut wsX5_pullOut ({ frames := 4, cells := 0, slots := 0, locals := 99 }) (mPc [.ref o5, .int (nI v), .int (nI start), .int (nI n)] D cI cZ [(o5, .inr (5, [.ref oc, .ref o, .ref s5, .int (nI va), .int (nI tc), .int (nI ts), .int (nI tn), .int (nI td), .int sv])), (s5, aN cI 20 st), (o, .inr (2, [.ref oc, .ref q0, .ref ra, .int (nI ll), .int (nI lo), .int (nI lt)])), (q0, .inr (3, [.ref q1, .int (nI n1), .int (nI n2)])), (q1, aN cI 26 pt), (ra, aN cI 400 rc), (oc, .inr (0, [.ref a1, .ref a2, .int (nI nl), .int (nI nv)])), (a1, aN cI 640 g), (a2, aN cI 80 z)]) (mQv D (mA [(o5, .inr (5, [.ref oc, .ref o, .ref s5, .int (nI va), .int (nI tc), .int (nI ts), .int (nI tn), .int (nI td), .int sv])), (s5, aN cI 20 st), (o, .inr (2, [.ref oc, .ref q0, .ref ra, .int (nI ll), .int (nI lo), .int (nI lt)])), (q0, .inr (3, [.ref q1, .int (nI n1), .int (nI n2)])), (q1, aN cI 26 pt), (ra, aN cI 400 rc), (oc, .inr (0, [.ref a1, .ref a2, .int (nI nl), .int (nI nv)])), (a1, aN cI 640 g), (a2, aN cI 80 z)]) (fun (u : (Nat → Nat)) => stOK u (tkF (slN rc nl start n) n 20).1 (tkF (slN rc nl start n) n 20).2.2.2 20) (fun (u : (Nat → Nat)) => [(o5, .inr (5, [.ref oc, .ref o, .ref s5, .int (nI v), .int (nI ((tkF (slN rc nl start n) n 20).2.2.2)), .int (nI ((tkF (slN rc nl start n) n 20).1)), .int (nI ((tkF (slN rc nl start n) n 20).2.2.1)), .int (nI (toN z g v nl rc start n)), .int (svI (tkF (slN rc nl start n) n 20).2.2.2 n (toN z g v nl rc start n))])), (s5, aN cI 20 u), (o, .inr (2, [.ref oc, .ref q0, .ref ra, .int (nI ll), .int (nI lo), .int (nI lt)])), (q0, .inr (3, [.ref q1, .int (nI n1), .int (nI n2)])), (q1, aN cI 26 pt), (ra, aN cI 400 rc), (oc, .inr (0, [.ref a1, .ref a2, .int (nI nl), .int (nI nv)])), (a1, aN cI 640 g), (a2, aN cI 80 z)])) 0 0 (mA [(o5, .inr (5, [.ref oc, .ref o, .ref s5, .int (nI va), .int (nI tc), .int (nI ts), .int (nI tn), .int (nI td), .int sv])), (s5, aN cI 20 st), (o, .inr (2, [.ref oc, .ref q0, .ref ra, .int (nI ll), .int (nI lo), .int (nI lt)])), (q0, .inr (3, [.ref q1, .int (nI n1), .int (nI n2)])), (q1, aN cI 26 pt), (ra, aN cI 400 rc), (oc, .inr (0, [.ref a1, .ref a2, .int (nI nl), .int (nI nv)])), (a1, aN cI 640 g), (a2, aN cI 80 z)]) := by
  refine Met.ofW (cc := cX5_pullOut) (maxL := 4) (ret := none) (by decide) rfl ?_
  intro p e s m args below meth c s₁ BB hml hv
  obtain ⟨hargs, hP, hD0, hK⟩ := hv
  have hx := BB.exec
  have hb := BB.bytes
  have hr := BB.returns
  have hts := atoms_spec (ws := wsX5_pullOut) BB.pre
  have hown : s.vm.findClass RX5 = some m.cls := findClass_of_methodNamed BB.named
  have hlocks := BB.notSynchronized
  have hcf : CallFix p m c cX5_pullOut 4 s args wsX5_pullOut RX5 := ⟨hx, hb, hml, hown, hts⟩
  obtain ⟨A, hAe⟩ : ∃ A, A = mA [(o5, .inr (5, [.ref oc, .ref o, .ref s5, .int (nI va), .int (nI tc), .int (nI ts), .int (nI tn), .int (nI td), .int sv])), (s5, aN cI 20 st), (o, .inr (2, [.ref oc, .ref q0, .ref ra, .int (nI ll), .int (nI lo), .int (nI lt)])), (q0, .inr (3, [.ref q1, .int (nI n1), .int (nI n2)])), (q1, aN cI 26 pt), (ra, aN cI 400 rc), (oc, .inr (0, [.ref a1, .ref a2, .int (nI nl), .int (nI nv)])), (a1, aN cI 640 g), (a2, aN cI 80 z)] := ⟨_, rfl⟩
  have hD : va_D A [(o5, .inr (5, [.ref oc, .ref o, .ref s5, .int (nI va), .int (nI tc), .int (nI ts), .int (nI tn), .int (nI td), .int sv])), (s5, aN cI 20 st), (o, .inr (2, [.ref oc, .ref q0, .ref ra, .int (nI ll), .int (nI lo), .int (nI lt)])), (q0, .inr (3, [.ref q1, .int (nI n1), .int (nI n2)])), (q1, aN cI 26 pt), (ra, aN cI 400 rc), (oc, .inr (0, [.ref a1, .ref a2, .int (nI nl), .int (nI nv)])), (a1, aN cI 640 g), (a2, aN cI 80 z)] := ⟨hD0.1, fun k q h => by rw [hAe]; exact ⟨k, q.2, h⟩⟩
  have hS : va_S A s.heap s.heap [] := va_S.rf
  rw [← hAe]
  rw [hargs, lg_entry_eq, ← hargs]
  have hl := lv_entry ([.ref o5, .int (nI v), .int (nI start), .int (nI n)]) (n := 4) (Nat.le_of_ble_eq_true rfl)
  generalize (lg_sl ([.ref o5, .int (nI v), .int (nI start), .int (nI n)]) ++ List.replicate (4 - (lg_sl ([.ref o5, .int (nI v), .int (nI start), .int (nI n)])).length) Slot.unset).toArray = ls at hl ⊢
  have hl : lv_has ls 4 [(0, .ref o5), (1, .int (nI v)), (2, .int (nI start)), (3, .int (nI n))] := hl
  obtain ⟨Q, hQ⟩ : ∃ Q, Q = MQ below (mQv D A (fun (u : (Nat → Nat)) => stOK u (tkF (slN rc nl start n) n 20).1 (tkF (slN rc nl start n) n 20).2.2.2 20) (fun (u : (Nat → Nat)) => [(o5, .inr (5, [.ref oc, .ref o, .ref s5, .int (nI v), .int (nI ((tkF (slN rc nl start n) n 20).2.2.2)), .int (nI ((tkF (slN rc nl start n) n 20).1)), .int (nI ((tkF (slN rc nl start n) n 20).2.2.1)), .int (nI (toN z g v nl rc start n)), .int (svI (tkF (slN rc nl start n) n 20).2.2.2 n (toN z g v nl rc start n))])), (s5, aN cI 20 u), (o, .inr (2, [.ref oc, .ref q0, .ref ra, .int (nI ll), .int (nI lo), .int (nI lt)])), (q0, .inr (3, [.ref q1, .int (nI n1), .int (nI n2)])), (q1, aN cI 26 pt), (ra, aN cI 400 rc), (oc, .inr (0, [.ref a1, .ref a2, .int (nI nl), .int (nI nv)])), (a1, aN cI 640 g), (a2, aN cI 80 z)])) args s 0 0 A := ⟨_, rfl⟩
  rw [← hQ]
  have i_X5 : ∀ w ∈ u_ws RX5 TX5 9, w ∈ wsX5_pullOut := by decide +kernel
  have f_15 := hts (.fieldLink RX5 15 "SameAgain$Procedure" "versionAt" "I") (by decide +kernel)
  have f_38 := hts (.fieldLink RX5 38 "SameAgain$Procedure" "likeness" "LSameAgain$Likeness;") (by decide +kernel)
  have f_19 := hts (.fieldLink RX5 19 "SameAgain$Procedure" "takenCount" "I") (by decide +kernel)
  have f_28 := hts (.fieldLink RX5 28 "SameAgain$Procedure" "toldCount" "I") (by decide +kernel)
  have f_31 := hts (.fieldLink RX5 31 "SameAgain$Procedure" "saved" "I") (by decide +kernel)
  have hgr : (slN rc nl start n) < 2 ^ 20 := slN_lt hnl
  have hgp2 : ∀ t, (slN rc nl start n).testBit t = true → t + n ≤ 20 := fun t h => Nat.le_trans (hgp t h) hnl
  have hti := tkI_ok hgp2 20
  refine lv_aload_n hx hb dX5_pullOut_0 rfl (lv_at hl 0 rfl) ?_
  refine lv_iload_n hx hb dX5_pullOut_1 rfl (lv_at hl 1 rfl) ?_
  refine va_put (D := D) (ci := 5) (v := .int (nI v)) (ty := .int) (C := RX5) (T := TX5) (N := 9) hx hb hts i_X5 tyX5 tyX5_ok nmX5 hown hK.1 hP hD hS 0 rfl rfl 3 (by decide) f_15 (fun _ h9 => h9) rfl (by decide +kernel) rfl rfl (Nat.le_of_ble_eq_true rfl) dX5_pullOut_2 (fun H locs hP hD hS => ?_)
  have hP : va_P D vwCl [(o5, .inr (5, [.ref oc, .ref o, .ref s5, .int (nI v), .int (nI tc), .int (nI ts), .int (nI tn), .int (nI td), .int sv])), (s5, aN cI 20 st), (o, .inr (2, [.ref oc, .ref q0, .ref ra, .int (nI ll), .int (nI lo), .int (nI lt)])), (q0, .inr (3, [.ref q1, .int (nI n1), .int (nI n2)])), (q1, aN cI 26 pt), (ra, aN cI 400 rc), (oc, .inr (0, [.ref a1, .ref a2, .int (nI nl), .int (nI nv)])), (a1, aN cI 640 g), (a2, aN cI 80 z)] H := hP
  have hD : va_D A [(o5, .inr (5, [.ref oc, .ref o, .ref s5, .int (nI v), .int (nI tc), .int (nI ts), .int (nI tn), .int (nI td), .int sv])), (s5, aN cI 20 st), (o, .inr (2, [.ref oc, .ref q0, .ref ra, .int (nI ll), .int (nI lo), .int (nI lt)])), (q0, .inr (3, [.ref q1, .int (nI n1), .int (nI n2)])), (q1, aN cI 26 pt), (ra, aN cI 400 rc), (oc, .inr (0, [.ref a1, .ref a2, .int (nI nl), .int (nI nv)])), (a1, aN cI 640 g), (a2, aN cI 80 z)] := hD
  refine lv_aload_n hx hb dX5_pullOut_5 rfl (lv_at hl 0 rfl) ?_
  refine lv_aload_n hx hb dX5_pullOut_6 rfl (lv_at hl 0 rfl) ?_
  refine va_get (D := D) (ci := 5) (v := .ref o) (C := RX5) (T := TX5) (N := 9) hx hb hts i_X5 hown hK.1 hP 0 rfl rfl 1 (by decide) f_38 (fun _ h9 => h9) rfl dX5_pullOut_7 ?_
  refine lv_iload_n hx hb dX5_pullOut_10 rfl (lv_at hl 2 rfl) ?_
  refine lv_iload_n hx hb dX5_pullOut_11 rfl (lv_at hl 3 rfl) ?_
  refine m_rdV (As := [.int (nI start), .int (nI n)]) (rest := [.ref o5]) (wc := [(o, .inr (2, [.ref oc, .ref q0, .ref ra, .int (nI ll), .int (nI lo), .int (nI lt)])), (q0, .inr (3, [.ref q1, .int (nI n1), .int (nI n2)])), (q1, aN cI 26 pt), (ra, aN cI 400 rc), (oc, .inr (0, [.ref a1, .ref a2, .int (nI nl), .int (nI nv)])), (a1, aN cI 640 g), (a2, aN cI 80 z)]) hcf (k_X2_startsLike (l := l) (D := D) (cI := cI) (cZ := cZ) (start := start) (n := n) (o := o) (oc := oc) (q0 := q0) (ra := ra) (ll := ll) (lo := lo) (lt := lt) (q1 := q1) (n1 := n1) (n2 := n2) (pt := pt) (rc := rc) (a1 := a1) (a2 := a2) (nl := nl) (nv := nv) (g := g) (z := z) (hnl := hnl) (hnv := hnv) (hrc := hrc) (h1 := h1) (hn := by omega)) (cwV 2 hts gX5_pullOut_X2_startsLike rfl rfl rfl yd_X2_startsLike ⟨Nat.le_of_ble_eq_true rfl, Nat.le_of_ble_eq_true rfl⟩) (m_preV hK hP hD [2, 3, 4, 5, 6, 7, 8] (by decide) rfl rfl rfl) rfl hl.1 rfl (Nat.le_of_ble_eq_true rfl) dX5_pullOut_12 ⟨Nat.zero_le _, Nat.zero_le _⟩ ?_
  refine lv_iload_n hx hb dX5_pullOut_15 rfl (lv_at hl 3 rfl) ?_
  refine m_wvV (As := [.int (nI (slN rc nl start n)), .int (nI n)]) (rest := []) (wc := [(o5, .inr (5, [.ref oc, .ref o, .ref s5, .int (nI v), .int (nI tc), .int (nI ts), .int (nI tn), .int (nI td), .int sv])), (s5, aN cI 20 st)]) hcf (k_X5_take (l := l) (D := D) (cI := cI) (cZ := cZ) (gr := slN rc nl start n) (n := n) (o5 := o5) (oc := oc) (o := o) (s5 := s5) (va := v) (tc := tc) (ts := ts) (tn := tn) (td := td) (sv := sv) (st := st) (hgr := hgr) (hn1 := hn1) (hn := hn) (hgp := hgp2)) (cwV 2 hts gX5_pullOut_X5_take rfl rfl rfl yd_X5_take ⟨Nat.le_of_ble_eq_true rfl, Nat.le_of_ble_eq_true rfl⟩) hK hP hD hS [0, 1] (by decide) rfl rfl rfl rfl hl.1 rfl (Nat.le_of_ble_eq_true rfl) dX5_pullOut_16 ⟨Nat.zero_le _, Nat.zero_le _⟩ (fun _ => rfl) (fun (u : (Nat → Nat)) => [(o5, .inr (5, [.ref oc, .ref o, .ref s5, .int (nI v), .int (nI ((tkF (slN rc nl start n) n 20).2.2.2)), .int (nI ((tkF (slN rc nl start n) n 20).1)), .int (nI ((tkF (slN rc nl start n) n 20).2.2.1)), .int (nI td), .int sv])), (s5, aN cI 20 u), (o, .inr (2, [.ref oc, .ref q0, .ref ra, .int (nI ll), .int (nI lo), .int (nI lt)])), (q0, .inr (3, [.ref q1, .int (nI n1), .int (nI n2)])), (q1, aN cI 26 pt), (ra, aN cI 400 rc), (oc, .inr (0, [.ref a1, .ref a2, .int (nI nl), .int (nI nv)])), (a1, aN cI 640 g), (a2, aN cI 80 z)]) (fun _ => rfl) (fun u H locs hp_16 hP hD hS => ?_)
  obtain ⟨stu_16, rfl⟩ : ∃ z, z = u := ⟨_, rfl⟩
  have hP : va_P D vwCl [(o5, .inr (5, [.ref oc, .ref o, .ref s5, .int (nI v), .int (nI ((tkF (slN rc nl start n) n 20).2.2.2)), .int (nI ((tkF (slN rc nl start n) n 20).1)), .int (nI ((tkF (slN rc nl start n) n 20).2.2.1)), .int (nI td), .int sv])), (s5, aN cI 20 stu_16), (o, .inr (2, [.ref oc, .ref q0, .ref ra, .int (nI ll), .int (nI lo), .int (nI lt)])), (q0, .inr (3, [.ref q1, .int (nI n1), .int (nI n2)])), (q1, aN cI 26 pt), (ra, aN cI 400 rc), (oc, .inr (0, [.ref a1, .ref a2, .int (nI nl), .int (nI nv)])), (a1, aN cI 640 g), (a2, aN cI 80 z)] H := hP
  have hD : va_D A [(o5, .inr (5, [.ref oc, .ref o, .ref s5, .int (nI v), .int (nI ((tkF (slN rc nl start n) n 20).2.2.2)), .int (nI ((tkF (slN rc nl start n) n 20).1)), .int (nI ((tkF (slN rc nl start n) n 20).2.2.1)), .int (nI td), .int sv])), (s5, aN cI 20 stu_16), (o, .inr (2, [.ref oc, .ref q0, .ref ra, .int (nI ll), .int (nI lo), .int (nI lt)])), (q0, .inr (3, [.ref q1, .int (nI n1), .int (nI n2)])), (q1, aN cI 26 pt), (ra, aN cI 400 rc), (oc, .inr (0, [.ref a1, .ref a2, .int (nI nl), .int (nI nv)])), (a1, aN cI 640 g), (a2, aN cI 80 z)] := hD
  try dsimp only at hp_16
  refine lv_aload_n hx hb dX5_pullOut_19 rfl (lv_at hl 0 rfl) ?_
  refine lv_iload_n hx hb dX5_pullOut_20 rfl (lv_at hl 3 rfl) ?_
  refine m_wvV (As := [.int (nI n)]) (rest := []) (wc := [(o5, .inr (5, [.ref oc, .ref o, .ref s5, .int (nI v), .int (nI ((tkF (slN rc nl start n) n 20).2.2.2)), .int (nI ((tkF (slN rc nl start n) n 20).1)), .int (nI ((tkF (slN rc nl start n) n 20).2.2.1)), .int (nI td), .int sv])), (s5, aN cI 20 stu_16), (oc, .inr (0, [.ref a1, .ref a2, .int (nI nl), .int (nI nv)])), (a1, aN cI 640 g), (a2, aN cI 80 z)]) hcf (k_X5_countTold (l := l) (D := D) (cI := cI) (cZ := cZ) (n := n) (o5 := o5) (oc := oc) (o := o) (s5 := s5) (va := v) (tc := (tkF (slN rc nl start n) n 20).2.2.2) (ts := (tkF (slN rc nl start n) n 20).1) (tn := (tkF (slN rc nl start n) n 20).2.2.1) (td := td) (sv := sv) (st := stu_16) (a1 := a1) (a2 := a2) (nl := nl) (nv := nv) (g := g) (z := z) (hnl := hnl) (hnv := hnv) (hz := hz) (hg := hg) (hst := hp_16) (htc := hti.2.2.1) (htn := fun j hj => hgp _ (tk_sub (hp_16.1 j hj).1)) (hva := hv) (hn := hn)) (cwV 1 hts gX5_pullOut_X5_countTold rfl rfl rfl yd_X5_countTold ⟨Nat.le_of_ble_eq_true rfl, Nat.le_of_ble_eq_true rfl⟩) hK hP hD hS [0, 1, 6, 7, 8] (by decide) rfl rfl rfl rfl hl.1 rfl (Nat.le_of_ble_eq_true rfl) dX5_pullOut_21 ⟨Nat.zero_le _, Nat.zero_le _⟩ (fun _ => rfl) (fun (u : Unit) => [(o5, .inr (5, [.ref oc, .ref o, .ref s5, .int (nI v), .int (nI ((tkF (slN rc nl start n) n 20).2.2.2)), .int (nI ((tkF (slN rc nl start n) n 20).1)), .int (nI ((tkF (slN rc nl start n) n 20).2.2.1)), .int (nI (tdN z g v ((tkF (slN rc nl start n) n 20).1) n)), .int sv])), (s5, aN cI 20 stu_16), (o, .inr (2, [.ref oc, .ref q0, .ref ra, .int (nI ll), .int (nI lo), .int (nI lt)])), (q0, .inr (3, [.ref q1, .int (nI n1), .int (nI n2)])), (q1, aN cI 26 pt), (ra, aN cI 400 rc), (oc, .inr (0, [.ref a1, .ref a2, .int (nI nl), .int (nI nv)])), (a1, aN cI 640 g), (a2, aN cI 80 z)]) (fun _ => rfl) (fun u H locs hp_21 hP hD hS => ?_)
  have hP : va_P D vwCl [(o5, .inr (5, [.ref oc, .ref o, .ref s5, .int (nI v), .int (nI ((tkF (slN rc nl start n) n 20).2.2.2)), .int (nI ((tkF (slN rc nl start n) n 20).1)), .int (nI ((tkF (slN rc nl start n) n 20).2.2.1)), .int (nI (tdN z g v ((tkF (slN rc nl start n) n 20).1) n)), .int sv])), (s5, aN cI 20 stu_16), (o, .inr (2, [.ref oc, .ref q0, .ref ra, .int (nI ll), .int (nI lo), .int (nI lt)])), (q0, .inr (3, [.ref q1, .int (nI n1), .int (nI n2)])), (q1, aN cI 26 pt), (ra, aN cI 400 rc), (oc, .inr (0, [.ref a1, .ref a2, .int (nI nl), .int (nI nv)])), (a1, aN cI 640 g), (a2, aN cI 80 z)] H := hP
  have hD : va_D A [(o5, .inr (5, [.ref oc, .ref o, .ref s5, .int (nI v), .int (nI ((tkF (slN rc nl start n) n 20).2.2.2)), .int (nI ((tkF (slN rc nl start n) n 20).1)), .int (nI ((tkF (slN rc nl start n) n 20).2.2.1)), .int (nI (tdN z g v ((tkF (slN rc nl start n) n 20).1) n)), .int sv])), (s5, aN cI 20 stu_16), (o, .inr (2, [.ref oc, .ref q0, .ref ra, .int (nI ll), .int (nI lo), .int (nI lt)])), (q0, .inr (3, [.ref q1, .int (nI n1), .int (nI n2)])), (q1, aN cI 26 pt), (ra, aN cI 400 rc), (oc, .inr (0, [.ref a1, .ref a2, .int (nI nl), .int (nI nv)])), (a1, aN cI 640 g), (a2, aN cI 80 z)] := hD
  refine lv_aload_n hx hb dX5_pullOut_24 rfl (lv_at hl 0 rfl) ?_
  refine lv_aload_n hx hb dX5_pullOut_25 rfl (lv_at hl 0 rfl) ?_
  refine va_get (D := D) (ci := 5) (v := .int (nI ((tkF (slN rc nl start n) n 20).2.2.2))) (C := RX5) (T := TX5) (N := 9) hx hb hts i_X5 hown hK.1 hP 0 rfl rfl 4 (by decide) f_19 (fun _ h9 => h9) rfl dX5_pullOut_26 ?_
  refine lv_iload_n hx hb dX5_pullOut_29 rfl (lv_at hl 3 rfl) ?_
  refine m_mul hx hb dX5_pullOut_30 ?_
  refine lv_iload_n hx hb dX5_pullOut_31 rfl (lv_at hl 3 rfl) ?_
  refine lv_iconst (v := nI 1) hx hb dX5_pullOut_32 (by decide) ?_
  refine m_add hx hb dX5_pullOut_33 ?_
  refine lv_isub hx hb dX5_pullOut_34 ?_
  refine lv_aload_n hx hb dX5_pullOut_35 rfl (lv_at hl 0 rfl) ?_
  refine va_get (D := D) (ci := 5) (v := .int (nI ((tkF (slN rc nl start n) n 20).2.2.2))) (C := RX5) (T := TX5) (N := 9) hx hb hts i_X5 hown hK.1 hP 0 rfl rfl 4 (by decide) f_19 (fun _ h9 => h9) rfl dX5_pullOut_36 ?_
  refine lv_isub hx hb dX5_pullOut_39 ?_
  refine lv_aload_n hx hb dX5_pullOut_40 rfl (lv_at hl 0 rfl) ?_
  refine va_get (D := D) (ci := 5) (v := .int (nI (tdN z g v ((tkF (slN rc nl start n) n 20).1) n))) (C := RX5) (T := TX5) (N := 9) hx hb hts i_X5 hown hK.1 hP 0 rfl rfl 7 (by decide) f_28 (fun _ h9 => h9) rfl dX5_pullOut_41 ?_
  refine lv_isub hx hb dX5_pullOut_44 ?_
  refine va_put (D := D) (ci := 5) (v := .int ((((nI (((tkF (slN rc nl start n) n 20).2.2.2) * n)) - (nI (n + 1))) - (nI ((tkF (slN rc nl start n) n 20).2.2.2))) - (nI (tdN z g v ((tkF (slN rc nl start n) n 20).1) n)))) (ty := .int) (C := RX5) (T := TX5) (N := 9) hx hb hts i_X5 tyX5 tyX5_ok nmX5 hown hK.1 hP hD hS 0 rfl rfl 8 (by decide) f_31 (fun _ h9 => h9) rfl (by decide +kernel) rfl rfl (Nat.le_of_ble_eq_true rfl) dX5_pullOut_45 (fun H locs hP hD hS => ?_)
  have hP : va_P D vwCl [(o5, .inr (5, [.ref oc, .ref o, .ref s5, .int (nI v), .int (nI ((tkF (slN rc nl start n) n 20).2.2.2)), .int (nI ((tkF (slN rc nl start n) n 20).1)), .int (nI ((tkF (slN rc nl start n) n 20).2.2.1)), .int (nI (tdN z g v ((tkF (slN rc nl start n) n 20).1) n)), .int ((((nI (((tkF (slN rc nl start n) n 20).2.2.2) * n)) - (nI (n + 1))) - (nI ((tkF (slN rc nl start n) n 20).2.2.2))) - (nI (tdN z g v ((tkF (slN rc nl start n) n 20).1) n)))])), (s5, aN cI 20 stu_16), (o, .inr (2, [.ref oc, .ref q0, .ref ra, .int (nI ll), .int (nI lo), .int (nI lt)])), (q0, .inr (3, [.ref q1, .int (nI n1), .int (nI n2)])), (q1, aN cI 26 pt), (ra, aN cI 400 rc), (oc, .inr (0, [.ref a1, .ref a2, .int (nI nl), .int (nI nv)])), (a1, aN cI 640 g), (a2, aN cI 80 z)] H := hP
  have hD : va_D A [(o5, .inr (5, [.ref oc, .ref o, .ref s5, .int (nI v), .int (nI ((tkF (slN rc nl start n) n 20).2.2.2)), .int (nI ((tkF (slN rc nl start n) n 20).1)), .int (nI ((tkF (slN rc nl start n) n 20).2.2.1)), .int (nI (tdN z g v ((tkF (slN rc nl start n) n 20).1) n)), .int ((((nI (((tkF (slN rc nl start n) n 20).2.2.2) * n)) - (nI (n + 1))) - (nI ((tkF (slN rc nl start n) n 20).2.2.2))) - (nI (tdN z g v ((tkF (slN rc nl start n) n 20).1) n)))])), (s5, aN cI 20 stu_16), (o, .inr (2, [.ref oc, .ref q0, .ref ra, .int (nI ll), .int (nI lo), .int (nI lt)])), (q0, .inr (3, [.ref q1, .int (nI n1), .int (nI n2)])), (q1, aN cI 26 pt), (ra, aN cI 400 rc), (oc, .inr (0, [.ref a1, .ref a2, .int (nI nl), .int (nI nv)])), (a1, aN cI 640 g), (a2, aN cI 80 z)] := hD
  rw [hQ]
  exact m_vwr hx hb hr hlocks _ (hp_16) hP hS dX5_pullOut_48
