section MROW2
variable {p : Program} {l : Launch} {e : Env} {R : Room} {s : State} {m : MethodId} {args : Array Value} {below : List Frame} {meth : Method} {c : Code} {H : Heap} {locs : List Loc} {cells slots : Nat} {Q : State → Prop}
variable {cc : ByteArray} {pc : Nat} {ls : Array Slot} {rest : List Value} {D : va_G} {cI cZ : ClassId} {A : Nat → Prop} {ws : va_W} {H0 : Heap}
theorem m_zst (hx : p.tables.exec = Jvm.exec) (hb : c.code = cc) (hK : mK D cI cZ s) (hP : va_P D vwCl ws H) (hD : va_D A ws) (hS : va_S A H0 H locs) (q0 : Nat) {a n t : Nat} {z : Nat → Nat} (ha : ws[q0]? = some (a, aN cZ n z)) (hn : n < 2 ^ 31) (ht : t < n) (hd : decode cc pc = .ok (.bastore, 1)) {ws' : va_W} (hset : ws.set q0 (a, aN cZ n (upN z t 1)) = ws') (k : ∀ (H1 : Heap) (locs1 : List Loc), va_P D vwCl ws' H1 → va_D A ws' → va_S A H0 H1 locs1 → W p l e R s m args below meth c H1 locs1 cells slots Q (F0 m (pc + 1) ls rest)) : W p l e R s m args below meth c H locs cells slots Q (F0 m (pc) ls (.int (nI 1) :: .int (nI t) :: .ref a :: rest)) := by
  subst hset
  refine va_zast hx hb hK.1 hP hD hS q0 1 ha rfl (vp_in_nI ht hn) hd (fun H1 locs1 h1 h2 h3 => ?_)
  rw [nI_clamp (Nat.lt_trans ht hn), show vp_nar .boolean (nI 1) = nI 1 from by decide, upN_upd] at h1 h2
  exact k H1 locs1 h1 h2 h3
end MROW2
/-- the model's images: the code laid into the place of image n -/
def imF (im : Nat → Nat) (nl nv : Nat) (z g : Nat → Nat) (n : Nat) : Nat → Nat := cpN g (cpN z (upN (upN im (722 * n) nl) (722 * n + 1) nv) 0 (722 * n + 2) 80) 0 (722 * n + 82) 640
def imM (im ik : Nat → Nat) (nl nv : Nat) (z g : Nat → Nat) (n : Int32) : (Nat → Nat) × (Nat → Nat) := if ixB n 2 then (imF im nl nv z g (cN n), upN ik (cN n) 1) else (im, ik)
def reM (im ik : Nat → Nat) (nl nv : Nat) (z g : Nat → Nat) (n : Int32) : Nat × Nat × (Nat → Nat) × (Nat → Nat) := if ixB n 2 then (if ik (cN n) = 0 then (nl, nv, z, g) else (im (722 * cN n), im (722 * cN n + 1), cpN im z (722 * cN n + 2) 0 80, cpN im g (722 * cN n + 82) 0 640)) else (nl, nv, z, g)
def reR (ik : Nat → Nat) (n : Int32) : Int32 := if ixB n 2 then (if ik (cN n) = 0 then -3 else 1) else -2

theorem yd_X8_image : yX8_image.cls = RX8 ∧ yX8_image.cls ≠ "java/lang/invoke/MethodHandle" ∧ yX8_image.cls ≠ "java/lang/invoke/VarHandle" ∧ (parseMethodDescriptor yX8_image.desc).map (fun d => d.parameters.length) = some 1 := by decide +kernel
set_option maxHeartbeats 4000000 in
set_option maxRecDepth 100000 in
theorem k_X8_image (l : Launch) (D : va_G) (cI cZ : ClassId) (mo ps mpa nl nv msz mcd mbe mba : Nat) (ol : Int32) (op os svn ms1 ms2 ms3 ms4 mfa mim mik : Nat) (z g im ik : Nat → Nat) (n : Int32) (hnl : nl ≤ 20) (hnv : nv ≤ 4) (hz : ∀ j, z j ≤ 8) (hg : ∀ j, g j ≤ 126) : Met l yX8_image wsX8_image ({ frames := 1, cells := 0, slots := 0, locals := 22 }) (mPc [.ref mo, .int n] D cI cZ [(mo, .inr (8, [.int (nI ps), .ref mpa, .int (nI nl), .int (nI nv), .ref msz, .ref mcd, .ref mbe, .ref mba, .int ol, .int (nI op), .int (nI os), .int (nI svn), .ref ms1, .ref ms2, .ref ms3, .ref ms4, .ref mfa, .ref mim, .ref mik])), (msz, aN cI 80 z), (mcd, aN cI 640 g), (mim, aN cI 1444 im), (mik, aN cZ 2 ik)]) (mQi D (mA [(mo, .inr (8, [.int (nI ps), .ref mpa, .int (nI nl), .int (nI nv), .ref msz, .ref mcd, .ref mbe, .ref mba, .int ol, .int (nI op), .int (nI os), .int (nI svn), .ref ms1, .ref ms2, .ref ms3, .ref ms4, .ref mfa, .ref mim, .ref mik])), (msz, aN cI 80 z), (mcd, aN cI 640 g), (mim, aN cI 1444 im), (mik, aN cZ 2 ik)]) (fun (r : Int32) (u : (Nat → Nat) × (Nat → Nat)) => r = paR (ixB n 2) 1 ∧ (u.1, u.2) = imM im ik nl nv z g n) (fun (u : (Nat → Nat) × (Nat → Nat)) => [(mo, .inr (8, [.int (nI ps), .ref mpa, .int (nI nl), .int (nI nv), .ref msz, .ref mcd, .ref mbe, .ref mba, .int ol, .int (nI op), .int (nI os), .int (nI svn), .ref ms1, .ref ms2, .ref ms3, .ref ms4, .ref mfa, .ref mim, .ref mik])), (msz, aN cI 80 z), (mcd, aN cI 640 g), (mim, aN cI 1444 u.1), (mik, aN cZ 2 u.2)])) 0 0 (mA [(mo, .inr (8, [.int (nI ps), .ref mpa, .int (nI nl), .int (nI nv), .ref msz, .ref mcd, .ref mbe, .ref mba, .int ol, .int (nI op), .int (nI os), .int (nI svn), .ref ms1, .ref ms2, .ref ms3, .ref ms4, .ref mfa, .ref mim, .ref mik])), (msz, aN cI 80 z), (mcd, aN cI 640 g), (mim, aN cI 1444 im), (mik, aN cZ 2 ik)]) := by
  refine Met.ofW (cc := cX8_image) (maxL := 4) (ret := (some .int)) (by decide) rfl ?_
  intro p e s m args below meth c s₁ BB hml hv
  obtain ⟨hargs, hP, hD0, hK⟩ := hv
  have hx := BB.exec
  have hb := BB.bytes
  have hr := BB.returns
  have hts := atoms_spec (ws := wsX8_image) BB.pre
  have hown : s.vm.findClass RX8 = some m.cls := findClass_of_methodNamed BB.named
  have hlocks := BB.notSynchronized
  have hcf : CallFix p m c cX8_image 4 s args wsX8_image RX8 := ⟨hx, hb, hml, hown, hts⟩
  obtain ⟨A, hAe⟩ : ∃ A, A = mA [(mo, .inr (8, [.int (nI ps), .ref mpa, .int (nI nl), .int (nI nv), .ref msz, .ref mcd, .ref mbe, .ref mba, .int ol, .int (nI op), .int (nI os), .int (nI svn), .ref ms1, .ref ms2, .ref ms3, .ref ms4, .ref mfa, .ref mim, .ref mik])), (msz, aN cI 80 z), (mcd, aN cI 640 g), (mim, aN cI 1444 im), (mik, aN cZ 2 ik)] := ⟨_, rfl⟩
  have hD : va_D A [(mo, .inr (8, [.int (nI ps), .ref mpa, .int (nI nl), .int (nI nv), .ref msz, .ref mcd, .ref mbe, .ref mba, .int ol, .int (nI op), .int (nI os), .int (nI svn), .ref ms1, .ref ms2, .ref ms3, .ref ms4, .ref mfa, .ref mim, .ref mik])), (msz, aN cI 80 z), (mcd, aN cI 640 g), (mim, aN cI 1444 im), (mik, aN cZ 2 ik)] := ⟨hD0.1, fun k q h => by rw [hAe]; exact ⟨k, q.2, h⟩⟩
  have hS : va_S A s.heap s.heap [] := va_S.rf
  rw [← hAe]
  rw [hargs, lg_entry_eq, ← hargs]
  have hl := lv_entry ([.ref mo, .int n]) (n := 4) (Nat.le_of_ble_eq_true rfl)
  generalize (lg_sl ([.ref mo, .int n]) ++ List.replicate (4 - (lg_sl ([.ref mo, .int n])).length) Slot.unset).toArray = ls at hl ⊢
  have hl : lv_has ls 4 [(0, .ref mo), (1, .int n)] := hl
  obtain ⟨Q, hQ⟩ : ∃ Q, Q = MQ below (mQi D A (fun (r : Int32) (u : (Nat → Nat) × (Nat → Nat)) => r = paR (ixB n 2) 1 ∧ (u.1, u.2) = imM im ik nl nv z g n) (fun (u : (Nat → Nat) × (Nat → Nat)) => [(mo, .inr (8, [.int (nI ps), .ref mpa, .int (nI nl), .int (nI nv), .ref msz, .ref mcd, .ref mbe, .ref mba, .int ol, .int (nI op), .int (nI os), .int (nI svn), .ref ms1, .ref ms2, .ref ms3, .ref ms4, .ref mfa, .ref mim, .ref mik])), (msz, aN cI 80 z), (mcd, aN cI 640 g), (mim, aN cI 1444 u.1), (mik, aN cZ 2 u.2)])) args s 0 0 A := ⟨_, rfl⟩
  rw [← hQ]
  have i_X8 : ∀ w ∈ u_ws RX8 TX8 19, w ∈ wsX8_image := by decide +kernel
  have f_44 := hts (.fieldLink RX8 44 "SameAgainModel" "image" "[I") (by decide +kernel)
  have f_58 := hts (.fieldLink RX8 58 "SameAgainModel" "lines" "I") (by decide +kernel)
  have f_51 := hts (.fieldLink RX8 51 "SameAgainModel" "versions" "I") (by decide +kernel)
  have f_47 := hts (.fieldLink RX8 47 "SameAgainModel" "isKept" "[Z") (by decide +kernel)
  have f_16 := hts (.fieldLink RX8 16 "SameAgainModel" "code" "[I") (by decide +kernel)
  have f_13 := hts (.fieldLink RX8 13 "SameAgainModel" "sizes" "[I") (by decide +kernel)
  refine lv_iload_n hx hb dX8_image_0 rfl (lv_at hl 1 rfl) ?_
  refine lv_iconst (v := nI 0) hx hb dX8_image_1 (by decide) ?_
  refine lv_iconst (v := nI 1) hx hb dX8_image_2 (by decide) ?_
  refine m_rdS (As := [.int n, .int (nI 0), .int (nI 1)]) (rest := []) (wc := []) hcf (k_X8_in (l := l) (D := D) (cI := cI) (cZ := cZ) (x := n) (lo := nI 0) (hi := nI 1) ) (va_cwS 3 hts gX8_image_X8_in rfl rfl rfl yd_X8_in.2 ⟨Nat.le_of_ble_eq_true rfl, Nat.le_of_ble_eq_true rfl⟩) (m_preS hK hP hD [] (by decide) rfl) rfl hl.1 rfl (Nat.le_of_ble_eq_true rfl) dX8_image_3 ⟨Nat.zero_le _, Nat.zero_le _⟩ ?_
  refine m_top (y := bI (ixB n 2)) (by rw [inB_ix0 (by decide)]) ?_
  refine m_ifB_ne (tgt := 12) hx hb dX8_image_6 (by decide) (fun c_6 => ?_) (fun c_6 => ?_)
  · obtain ⟨e_n, i_n⟩ := ixB_cN (by decide) c_6
    have hl : lv_has ls 4 [(0, .ref mo), (1, .int (nI (cN n)))] := by rw [← e_n]; exact hl
    refine lv_sipush (v := nI 722) hx hb dX8_image_12 (by decide) ?_
    refine lv_iload_n hx hb dX8_image_15 rfl (lv_at hl 1 rfl) ?_
    refine m_mul hx hb dX8_image_16 ?_
    refine lv_istore_n (lv' := [(2, .int (nI (722 * (cN n)))), (0, .ref mo), (1, .int (nI (cN n)))]) hx hb dX8_image_17 rfl hl (by decide) rfl (fun ls hl => ?_)
    refine lv_aload_n hx hb dX8_image_18 rfl (lv_at hl 1 rfl) ?_
    refine va_get (D := D) (ci := 8) (v := .ref mim) (C := RX8) (T := TX8) (N := 19) hx hb hts i_X8 hown hK.1 hP 0 rfl rfl 17 (by decide) f_44 (fun _ h9 => h9) rfl dX8_image_19 ?_
    refine lv_iload_n hx hb dX8_image_22 rfl (lv_at hl 0 rfl) ?_
    refine lv_aload_n hx hb dX8_image_23 rfl (lv_at hl 1 rfl) ?_
    refine va_get (D := D) (ci := 8) (v := .int (nI nl)) (C := RX8) (T := TX8) (N := 19) hx hb hts i_X8 hown hK.1 hP 0 rfl rfl 2 (by decide) f_58 (fun _ h9 => h9) rfl dX8_image_24 ?_
    refine m_ast hx hb hK hP hD hS 3 rfl (by decide) (by omega) dX8_image_27 (ws' := [(mo, .inr (8, [.int (nI ps), .ref mpa, .int (nI nl), .int (nI nv), .ref msz, .ref mcd, .ref mbe, .ref mba, .int ol, .int (nI op), .int (nI os), .int (nI svn), .ref ms1, .ref ms2, .ref ms3, .ref ms4, .ref mfa, .ref mim, .ref mik])), (msz, aN cI 80 z), (mcd, aN cI 640 g), (mim, aN cI 1444 (upN im (722 * (cN n)) nl)), (mik, aN cZ 2 ik)]) rfl (fun H locs hP hD hS => ?_)
    refine lv_aload_n hx hb dX8_image_28 rfl (lv_at hl 1 rfl) ?_
    refine va_get (D := D) (ci := 8) (v := .ref mim) (C := RX8) (T := TX8) (N := 19) hx hb hts i_X8 hown hK.1 hP 0 rfl rfl 17 (by decide) f_44 (fun _ h9 => h9) rfl dX8_image_29 ?_
    refine lv_iload_n hx hb dX8_image_32 rfl (lv_at hl 0 rfl) ?_
    refine lv_iconst (v := nI 1) hx hb dX8_image_33 (by decide) ?_
    refine m_add hx hb dX8_image_34 ?_
    refine lv_aload_n hx hb dX8_image_35 rfl (lv_at hl 1 rfl) ?_
    refine va_get (D := D) (ci := 8) (v := .int (nI nv)) (C := RX8) (T := TX8) (N := 19) hx hb hts i_X8 hown hK.1 hP 0 rfl rfl 3 (by decide) f_51 (fun _ h9 => h9) rfl dX8_image_36 ?_
    refine m_ast hx hb hK hP hD hS 3 rfl (by decide) (by omega) dX8_image_39 (ws' := [(mo, .inr (8, [.int (nI ps), .ref mpa, .int (nI nl), .int (nI nv), .ref msz, .ref mcd, .ref mbe, .ref mba, .int ol, .int (nI op), .int (nI os), .int (nI svn), .ref ms1, .ref ms2, .ref ms3, .ref ms4, .ref mfa, .ref mim, .ref mik])), (msz, aN cI 80 z), (mcd, aN cI 640 g), (mim, aN cI 1444 (upN (upN im (722 * (cN n)) nl) ((722 * (cN n)) + 1) nv)), (mik, aN cZ 2 ik)]) rfl (fun H locs hP hD hS => ?_)
    refine lv_iconst (v := nI 0) hx hb dX8_image_40 (by decide) ?_
    refine lv_istore_n (lv' := [(3, .int (nI 0)), (2, .int (nI (722 * (cN n)))), (0, .ref mo), (1, .int (nI (cN n)))]) hx hb dX8_image_41 rfl hl (by decide) rfl (fun ls hl => ?_)
    have loop_42 : ∀ (fu : Nat) (k : Nat) (m1 : Nat → Nat) (hfu : 80 - k < fu)  (hk : k ≤ 80) (hm1 : m1 = cpN z (upN (upN im (722 * cN n) nl) (722 * cN n + 1) nv) 0 (722 * cN n + 2) k) (H : Heap) (locs : List Loc) (hP : va_P D vwCl [(mo, .inr (8, [.int (nI ps), .ref mpa, .int (nI nl), .int (nI nv), .ref msz, .ref mcd, .ref mbe, .ref mba, .int ol, .int (nI op), .int (nI os), .int (nI svn), .ref ms1, .ref ms2, .ref ms3, .ref ms4, .ref mfa, .ref mim, .ref mik])), (msz, aN cI 80 z), (mcd, aN cI 640 g), (mim, aN cI 1444 m1), (mik, aN cZ 2 ik)] H) (hD : va_D A [(mo, .inr (8, [.int (nI ps), .ref mpa, .int (nI nl), .int (nI nv), .ref msz, .ref mcd, .ref mbe, .ref mba, .int ol, .int (nI op), .int (nI os), .int (nI svn), .ref ms1, .ref ms2, .ref ms3, .ref ms4, .ref mfa, .ref mim, .ref mik])), (msz, aN cI 80 z), (mcd, aN cI 640 g), (mim, aN cI 1444 m1), (mik, aN cZ 2 ik)]) (hS : va_S A s.heap H locs) (ls : Array Slot) (hl : lv_has ls 4 [(0, .ref mo), (1, .int (nI (cN n))), (2, .int (nI (722 * cN n))), (3, .int (nI k))]), W p l e (headSpec wsX8_image { frames := 1, cells := 0, slots := 0, locals := 22 }).room s m args below meth c H locs 0 0 Q (F0 m 42 ls []) := by
      intro fu
      induction fu with
      | zero => intro k m1 hfu; exact absurd hfu (Nat.not_lt_zero _)
      | succ fu ih_42 =>
        intro k m1 hfu hk hm1 H locs hP hD hS ls hl
        refine lv_iload_n hx hb dX8_image_42 rfl (lv_at hl 3 rfl) ?_
        refine lv_bipush (v := nI 80) hx hb dX8_image_43 (by decide) ?_
        refine m_cmp_ge (tgt := 70) hx hb dX8_image_45 (by decide) (by omega) (by omega) (fun c_45 => ?_) (fun c_45 => ?_)
        · refine lv_iconst (v := nI 0) hx hb dX8_image_70 (by decide) ?_
          refine lv_istore_n (lv' := [(3, .int (nI 0)), (0, .ref mo), (1, .int (nI (cN n))), (2, .int (nI (722 * cN n)))]) hx hb dX8_image_71 rfl hl (by decide) rfl (fun ls hl => ?_)
          have loop_72 : ∀ (fu : Nat) (k2 : Nat) (m2 : Nat → Nat) (hfu : 640 - k2 < fu)  (hk2 : k2 ≤ 640) (hm2 : m2 = cpN g (cpN z (upN (upN im (722 * cN n) nl) (722 * cN n + 1) nv) 0 (722 * cN n + 2) 80) 0 (722 * cN n + 82) k2) (H : Heap) (locs : List Loc) (hP : va_P D vwCl [(mo, .inr (8, [.int (nI ps), .ref mpa, .int (nI nl), .int (nI nv), .ref msz, .ref mcd, .ref mbe, .ref mba, .int ol, .int (nI op), .int (nI os), .int (nI svn), .ref ms1, .ref ms2, .ref ms3, .ref ms4, .ref mfa, .ref mim, .ref mik])), (msz, aN cI 80 z), (mcd, aN cI 640 g), (mim, aN cI 1444 m2), (mik, aN cZ 2 ik)] H) (hD : va_D A [(mo, .inr (8, [.int (nI ps), .ref mpa, .int (nI nl), .int (nI nv), .ref msz, .ref mcd, .ref mbe, .ref mba, .int ol, .int (nI op), .int (nI os), .int (nI svn), .ref ms1, .ref ms2, .ref ms3, .ref ms4, .ref mfa, .ref mim, .ref mik])), (msz, aN cI 80 z), (mcd, aN cI 640 g), (mim, aN cI 1444 m2), (mik, aN cZ 2 ik)]) (hS : va_S A s.heap H locs) (ls : Array Slot) (hl : lv_has ls 4 [(0, .ref mo), (1, .int (nI (cN n))), (2, .int (nI (722 * cN n))), (3, .int (nI k2))]), W p l e (headSpec wsX8_image { frames := 1, cells := 0, slots := 0, locals := 22 }).room s m args below meth c H locs 0 0 Q (F0 m 72 ls []) := by
            intro fu
            induction fu with
            | zero => intro k2 m2 hfu; exact absurd hfu (Nat.not_lt_zero _)
            | succ fu ih_72 =>
              intro k2 m2 hfu hk2 hm2 H locs hP hD hS ls hl
              refine lv_iload_n hx hb dX8_image_72 rfl (lv_at hl 3 rfl) ?_
              refine lv_sipush (v := nI 640) hx hb dX8_image_73 (by decide) ?_
              refine m_cmp_ge (tgt := 102) hx hb dX8_image_76 (by decide) (by omega) (by omega) (fun c_76 => ?_) (fun c_76 => ?_)
              · refine lv_aload_n hx hb dX8_image_102 rfl (lv_at hl 0 rfl) ?_
                refine va_get (D := D) (ci := 8) (v := .ref mik) (C := RX8) (T := TX8) (N := 19) hx hb hts i_X8 hown hK.1 hP 0 rfl rfl 18 (by decide) f_47 (fun _ h9 => h9) rfl dX8_image_103 ?_
                refine lv_iload_n hx hb dX8_image_106 rfl (lv_at hl 1 rfl) ?_
                refine lv_iconst (v := nI 1) hx hb dX8_image_107 (by decide) ?_
                refine m_zst hx hb hK hP hD hS 4 rfl (by decide) (by omega) dX8_image_108 (ws' := [(mo, .inr (8, [.int (nI ps), .ref mpa, .int (nI nl), .int (nI nv), .ref msz, .ref mcd, .ref mbe, .ref mba, .int ol, .int (nI op), .int (nI os), .int (nI svn), .ref ms1, .ref ms2, .ref ms3, .ref ms4, .ref mfa, .ref mim, .ref mik])), (msz, aN cI 80 z), (mcd, aN cI 640 g), (mim, aN cI 1444 m2), (mik, aN cZ 2 (upN ik (cN n) 1))]) rfl (fun H locs hP hD hS => ?_)
                refine lv_iconst (v := nI 1) hx hb dX8_image_109 (by decide) ?_
                rw [hQ]
                have e9 : k2 = 640 := by omega
                exact m_iwr hx hb hr hlocks (m2, upN ik (cN n) 1) (⟨by rw [paR_t c_6]; rfl, by unfold imM; rw [if_pos c_6, hm2, e9]; rfl⟩) hP hS dX8_image_110
              · refine lv_aload_n hx hb dX8_image_79 rfl (lv_at hl 0 rfl) ?_
                refine va_get (D := D) (ci := 8) (v := .ref mim) (C := RX8) (T := TX8) (N := 19) hx hb hts i_X8 hown hK.1 hP 0 rfl rfl 17 (by decide) f_44 (fun _ h9 => h9) rfl dX8_image_80 ?_
                refine lv_iload_n hx hb dX8_image_83 rfl (lv_at hl 2 rfl) ?_
                refine lv_bipush (v := nI 82) hx hb dX8_image_84 (by decide) ?_
                refine m_add hx hb dX8_image_86 ?_
                refine lv_iload_n hx hb dX8_image_87 rfl (lv_at hl 3 rfl) ?_
                refine m_add hx hb dX8_image_88 ?_
                refine lv_aload_n hx hb dX8_image_89 rfl (lv_at hl 0 rfl) ?_
                refine va_get (D := D) (ci := 8) (v := .ref mcd) (C := RX8) (T := TX8) (N := 19) hx hb hts i_X8 hown hK.1 hP 0 rfl rfl 5 (by decide) f_16 (fun _ h9 => h9) rfl dX8_image_90 ?_
                refine lv_iload_n hx hb dX8_image_93 rfl (lv_at hl 3 rfl) ?_
                refine m_ald hx hb hK hP 2 rfl (by decide) (by omega) dX8_image_94 ?_
                have hv_94 := hg k2
                refine m_ast hx hb hK hP hD hS 3 rfl (by decide) (by omega) dX8_image_95 (ws' := [(mo, .inr (8, [.int (nI ps), .ref mpa, .int (nI nl), .int (nI nv), .ref msz, .ref mcd, .ref mbe, .ref mba, .int ol, .int (nI op), .int (nI os), .int (nI svn), .ref ms1, .ref ms2, .ref ms3, .ref ms4, .ref mfa, .ref mim, .ref mik])), (msz, aN cI 80 z), (mcd, aN cI 640 g), (mim, aN cI 1444 (upN m2 (((722 * cN n) + 82) + k2) (g k2))), (mik, aN cZ 2 ik)]) rfl (fun H locs hP hD hS => ?_)
                refine lv_iinc (v := nI (k2 + 1)) (lv' := [(3, .int (nI (k2 + 1))), (0, .ref mo), (1, .int (nI (cN n))), (2, .int (nI (722 * cN n)))]) hx hb dX8_image_96 hl (k := 3) rfl ((nI_succ _).symm) (by decide) rfl (fun ls hl => ?_)
                refine lv_goto (tgt := 72) hx hb dX8_image_99 (by decide) ?_
                exact ih_72 (k2 + 1) _ (by omega) (by omega) (by rw [hm2, ← cp_s g _ 0 (722 * cN n + 82) k2, Nat.zero_add]) _ _ hP hD hS ls (lv_sub hl [1, 2, 3, 0] rfl)
          exact loop_72 641 0 _ (by omega) (by omega) (by rw [cp_0, hm1, show k = 80 by omega]) _ _ hP hD hS ls (lv_sub hl [1, 2, 3, 0] rfl)
        · refine lv_aload_n hx hb dX8_image_48 rfl (lv_at hl 0 rfl) ?_
          refine va_get (D := D) (ci := 8) (v := .ref mim) (C := RX8) (T := TX8) (N := 19) hx hb hts i_X8 hown hK.1 hP 0 rfl rfl 17 (by decide) f_44 (fun _ h9 => h9) rfl dX8_image_49 ?_
          refine lv_iload_n hx hb dX8_image_52 rfl (lv_at hl 2 rfl) ?_
          refine lv_iconst (v := nI 2) hx hb dX8_image_53 (by decide) ?_
          refine m_add hx hb dX8_image_54 ?_
          refine lv_iload_n hx hb dX8_image_55 rfl (lv_at hl 3 rfl) ?_
          refine m_add hx hb dX8_image_56 ?_
          refine lv_aload_n hx hb dX8_image_57 rfl (lv_at hl 0 rfl) ?_
          refine va_get (D := D) (ci := 8) (v := .ref msz) (C := RX8) (T := TX8) (N := 19) hx hb hts i_X8 hown hK.1 hP 0 rfl rfl 4 (by decide) f_13 (fun _ h9 => h9) rfl dX8_image_58 ?_
          refine lv_iload_n hx hb dX8_image_61 rfl (lv_at hl 3 rfl) ?_
          refine m_ald hx hb hK hP 1 rfl (by decide) (by omega) dX8_image_62 ?_
          have hv_62 := hz k
          refine m_ast hx hb hK hP hD hS 3 rfl (by decide) (by omega) dX8_image_63 (ws' := [(mo, .inr (8, [.int (nI ps), .ref mpa, .int (nI nl), .int (nI nv), .ref msz, .ref mcd, .ref mbe, .ref mba, .int ol, .int (nI op), .int (nI os), .int (nI svn), .ref ms1, .ref ms2, .ref ms3, .ref ms4, .ref mfa, .ref mim, .ref mik])), (msz, aN cI 80 z), (mcd, aN cI 640 g), (mim, aN cI 1444 (upN m1 (((722 * cN n) + 2) + k) (z k))), (mik, aN cZ 2 ik)]) rfl (fun H locs hP hD hS => ?_)
          refine lv_iinc (v := nI (k + 1)) (lv' := [(3, .int (nI (k + 1))), (0, .ref mo), (1, .int (nI (cN n))), (2, .int (nI (722 * cN n)))]) hx hb dX8_image_64 hl (k := 3) rfl ((nI_succ _).symm) (by decide) rfl (fun ls hl => ?_)
          refine lv_goto (tgt := 42) hx hb dX8_image_67 (by decide) ?_
          exact ih_42 (k + 1) _ (by omega) (by omega) (by rw [hm1, ← cp_s, Nat.zero_add]) _ _ hP hD hS ls (lv_sub hl [1, 2, 3, 0] rfl)
    exact loop_42 81 0 _ (by omega) (by omega) (cp_0 _ _ _ _).symm _ _ hP hD hS ls (lv_sub hl [2, 3, 1, 0] rfl)
  · refine lv_bipush (v := (-2)) hx hb dX8_image_9 (by decide) ?_
    rw [hQ]
    exact m_iwr hx hb hr hlocks (im, ik) (⟨by rw [paR_f c_6], by unfold imM; rw [if_neg (by rw [c_6]; decide)]⟩) hP hS dX8_image_11

theorem yd_X8_restore : yX8_restore.cls = RX8 ∧ yX8_restore.cls ≠ "java/lang/invoke/MethodHandle" ∧ yX8_restore.cls ≠ "java/lang/invoke/VarHandle" ∧ (parseMethodDescriptor yX8_restore.desc).map (fun d => d.parameters.length) = some 1 := by decide +kernel
set_option maxHeartbeats 4000000 in
set_option maxRecDepth 100000 in
theorem k_X8_restore (l : Launch) (D : va_G) (cI cZ : ClassId) (mo ps mpa nl nv msz mcd mbe mba : Nat) (ol : Int32) (op os svn ms1 ms2 ms3 ms4 mfa mim mik : Nat) (z g im ik : Nat → Nat) (n : Int32) (hnl : nl ≤ 20) (hnv : nv ≤ 4) (hik : ∀ j, ik j ≤ 1) : Met l yX8_restore wsX8_restore ({ frames := 1, cells := 0, slots := 0, locals := 22 }) (mPc [.ref mo, .int n] D cI cZ [(mo, .inr (8, [.int (nI ps), .ref mpa, .int (nI nl), .int (nI nv), .ref msz, .ref mcd, .ref mbe, .ref mba, .int ol, .int (nI op), .int (nI os), .int (nI svn), .ref ms1, .ref ms2, .ref ms3, .ref ms4, .ref mfa, .ref mim, .ref mik])), (msz, aN cI 80 z), (mcd, aN cI 640 g), (mim, aN cI 1444 im), (mik, aN cZ 2 ik)]) (mQi D (mA [(mo, .inr (8, [.int (nI ps), .ref mpa, .int (nI nl), .int (nI nv), .ref msz, .ref mcd, .ref mbe, .ref mba, .int ol, .int (nI op), .int (nI os), .int (nI svn), .ref ms1, .ref ms2, .ref ms3, .ref ms4, .ref mfa, .ref mim, .ref mik])), (msz, aN cI 80 z), (mcd, aN cI 640 g), (mim, aN cI 1444 im), (mik, aN cZ 2 ik)]) (fun (r : Int32) (u : Nat × Nat × (Nat → Nat) × (Nat → Nat)) => r = reR ik n ∧ (u.1, u.2.1, u.2.2.1, u.2.2.2) = reM im ik nl nv z g n) (fun (u : Nat × Nat × (Nat → Nat) × (Nat → Nat)) => [(mo, .inr (8, [.int (nI ps), .ref mpa, .int (nI u.1), .int (nI u.2.1), .ref msz, .ref mcd, .ref mbe, .ref mba, .int ol, .int (nI op), .int (nI os), .int (nI svn), .ref ms1, .ref ms2, .ref ms3, .ref ms4, .ref mfa, .ref mim, .ref mik])), (msz, aN cI 80 u.2.2.1), (mcd, aN cI 640 u.2.2.2), (mim, aN cI 1444 im), (mik, aN cZ 2 ik)])) 0 0 (mA [(mo, .inr (8, [.int (nI ps), .ref mpa, .int (nI nl), .int (nI nv), .ref msz, .ref mcd, .ref mbe, .ref mba, .int ol, .int (nI op), .int (nI os), .int (nI svn), .ref ms1, .ref ms2, .ref ms3, .ref ms4, .ref mfa, .ref mim, .ref mik])), (msz, aN cI 80 z), (mcd, aN cI 640 g), (mim, aN cI 1444 im), (mik, aN cZ 2 ik)]) := by
  refine Met.ofW (cc := cX8_restore) (maxL := 4) (ret := (some .int)) (by decide) rfl ?_
  intro p e s m args below meth c s₁ BB hml hv
  obtain ⟨hargs, hP, hD0, hK⟩ := hv
  have hx := BB.exec
  have hb := BB.bytes
  have hr := BB.returns
  have hts := atoms_spec (ws := wsX8_restore) BB.pre
  have hown : s.vm.findClass RX8 = some m.cls := findClass_of_methodNamed BB.named
  have hlocks := BB.notSynchronized
  have hcf : CallFix p m c cX8_restore 4 s args wsX8_restore RX8 := ⟨hx, hb, hml, hown, hts⟩
  obtain ⟨A, hAe⟩ : ∃ A, A = mA [(mo, .inr (8, [.int (nI ps), .ref mpa, .int (nI nl), .int (nI nv), .ref msz, .ref mcd, .ref mbe, .ref mba, .int ol, .int (nI op), .int (nI os), .int (nI svn), .ref ms1, .ref ms2, .ref ms3, .ref ms4, .ref mfa, .ref mim, .ref mik])), (msz, aN cI 80 z), (mcd, aN cI 640 g), (mim, aN cI 1444 im), (mik, aN cZ 2 ik)] := ⟨_, rfl⟩
  have hD : va_D A [(mo, .inr (8, [.int (nI ps), .ref mpa, .int (nI nl), .int (nI nv), .ref msz, .ref mcd, .ref mbe, .ref mba, .int ol, .int (nI op), .int (nI os), .int (nI svn), .ref ms1, .ref ms2, .ref ms3, .ref ms4, .ref mfa, .ref mim, .ref mik])), (msz, aN cI 80 z), (mcd, aN cI 640 g), (mim, aN cI 1444 im), (mik, aN cZ 2 ik)] := ⟨hD0.1, fun k q h => by rw [hAe]; exact ⟨k, q.2, h⟩⟩
  have hS : va_S A s.heap s.heap [] := va_S.rf
  rw [← hAe]
  rw [hargs, lg_entry_eq, ← hargs]
  have hl := lv_entry ([.ref mo, .int n]) (n := 4) (Nat.le_of_ble_eq_true rfl)
  generalize (lg_sl ([.ref mo, .int n]) ++ List.replicate (4 - (lg_sl ([.ref mo, .int n])).length) Slot.unset).toArray = ls at hl ⊢
  have hl : lv_has ls 4 [(0, .ref mo), (1, .int n)] := hl
  obtain ⟨Q, hQ⟩ : ∃ Q, Q = MQ below (mQi D A (fun (r : Int32) (u : Nat × Nat × (Nat → Nat) × (Nat → Nat)) => r = reR ik n ∧ (u.1, u.2.1, u.2.2.1, u.2.2.2) = reM im ik nl nv z g n) (fun (u : Nat × Nat × (Nat → Nat) × (Nat → Nat)) => [(mo, .inr (8, [.int (nI ps), .ref mpa, .int (nI u.1), .int (nI u.2.1), .ref msz, .ref mcd, .ref mbe, .ref mba, .int ol, .int (nI op), .int (nI os), .int (nI svn), .ref ms1, .ref ms2, .ref ms3, .ref ms4, .ref mfa, .ref mim, .ref mik])), (msz, aN cI 80 u.2.2.1), (mcd, aN cI 640 u.2.2.2), (mim, aN cI 1444 im), (mik, aN cZ 2 ik)])) args s 0 0 A := ⟨_, rfl⟩
  rw [← hQ]
  have i_X8 : ∀ w ∈ u_ws RX8 TX8 19, w ∈ wsX8_restore := by decide +kernel
  have f_47 := hts (.fieldLink RX8 47 "SameAgainModel" "isKept" "[Z") (by decide +kernel)
  have f_44 := hts (.fieldLink RX8 44 "SameAgainModel" "image" "[I") (by decide +kernel)
  have f_58 := hts (.fieldLink RX8 58 "SameAgainModel" "lines" "I") (by decide +kernel)
  have f_51 := hts (.fieldLink RX8 51 "SameAgainModel" "versions" "I") (by decide +kernel)
  have f_16 := hts (.fieldLink RX8 16 "SameAgainModel" "code" "[I") (by decide +kernel)
  have f_13 := hts (.fieldLink RX8 13 "SameAgainModel" "sizes" "[I") (by decide +kernel)
  refine lv_iload_n hx hb dX8_restore_0 rfl (lv_at hl 1 rfl) ?_
  refine lv_iconst (v := nI 0) hx hb dX8_restore_1 (by decide) ?_
  refine lv_iconst (v := nI 1) hx hb dX8_restore_2 (by decide) ?_
  refine m_rdS (As := [.int n, .int (nI 0), .int (nI 1)]) (rest := []) (wc := []) hcf (k_X8_in (l := l) (D := D) (cI := cI) (cZ := cZ) (x := n) (lo := nI 0) (hi := nI 1) ) (va_cwS 3 hts gX8_restore_X8_in rfl rfl rfl yd_X8_in.2 ⟨Nat.le_of_ble_eq_true rfl, Nat.le_of_ble_eq_true rfl⟩) (m_preS hK hP hD [] (by decide) rfl) rfl hl.1 rfl (Nat.le_of_ble_eq_true rfl) dX8_restore_3 ⟨Nat.zero_le _, Nat.zero_le _⟩ ?_
  refine m_top (y := bI (ixB n 2)) (by rw [inB_ix0 (by decide)]) ?_
  refine m_ifB_ne (tgt := 12) hx hb dX8_restore_6 (by decide) (fun c_6 => ?_) (fun c_6 => ?_)
  · obtain ⟨e_n, i_n⟩ := ixB_cN (by decide) c_6
    have hik9 := hik (cN n)
    have hl : lv_has ls 4 [(0, .ref mo), (1, .int (nI (cN n)))] := by rw [← e_n]; exact hl
    refine lv_aload_n hx hb dX8_restore_12 rfl (lv_at hl 0 rfl) ?_
    refine va_get (D := D) (ci := 8) (v := .ref mik) (C := RX8) (T := TX8) (N := 19) hx hb hts i_X8 hown hK.1 hP 0 rfl rfl 18 (by decide) f_47 (fun _ h9 => h9) rfl dX8_restore_13 ?_
    refine lv_iload_n hx hb dX8_restore_16 rfl (lv_at hl 1 rfl) ?_
    refine m_zld hx hb hK hP 4 rfl (by decide) (by omega) dX8_restore_17 ?_
    refine m_if_ne (tgt := 24) hx hb dX8_restore_18 (by decide) (by omega) (fun c_18 => ?_) (fun c_18 => ?_)
    · refine lv_sipush (v := nI 722) hx hb dX8_restore_24 (by decide) ?_
      refine lv_iload_n hx hb dX8_restore_27 rfl (lv_at hl 1 rfl) ?_
      refine m_mul hx hb dX8_restore_28 ?_
      refine lv_istore_n (lv' := [(2, .int (nI (722 * (cN n)))), (0, .ref mo), (1, .int (nI (cN n)))]) hx hb dX8_restore_29 rfl hl (by decide) rfl (fun ls hl => ?_)
      refine lv_aload_n hx hb dX8_restore_30 rfl (lv_at hl 1 rfl) ?_
      refine lv_aload_n hx hb dX8_restore_31 rfl (lv_at hl 1 rfl) ?_
      refine va_get (D := D) (ci := 8) (v := .ref mim) (C := RX8) (T := TX8) (N := 19) hx hb hts i_X8 hown hK.1 hP 0 rfl rfl 17 (by decide) f_44 (fun _ h9 => h9) rfl dX8_restore_32 ?_
      refine lv_iload_n hx hb dX8_restore_35 rfl (lv_at hl 0 rfl) ?_
      refine m_ald hx hb hK hP 3 rfl (by decide) (by omega) dX8_restore_36 ?_
      refine va_put (D := D) (ci := 8) (v := .int (nI (im (722 * (cN n))))) (ty := .int) (C := RX8) (T := TX8) (N := 19) hx hb hts i_X8 tyX8 tyX8_ok nmX8 hown hK.1 hP hD hS 0 rfl rfl 2 (by decide) f_58 (fun _ h9 => h9) rfl (by decide +kernel) rfl rfl (Nat.le_of_ble_eq_true rfl) dX8_restore_37 (fun H locs hP hD hS => ?_)
      have hP : va_P D vwCl [(mo, .inr (8, [.int (nI ps), .ref mpa, .int (nI (im (722 * (cN n)))), .int (nI nv), .ref msz, .ref mcd, .ref mbe, .ref mba, .int ol, .int (nI op), .int (nI os), .int (nI svn), .ref ms1, .ref ms2, .ref ms3, .ref ms4, .ref mfa, .ref mim, .ref mik])), (msz, aN cI 80 z), (mcd, aN cI 640 g), (mim, aN cI 1444 im), (mik, aN cZ 2 ik)] H := hP
      have hD : va_D A [(mo, .inr (8, [.int (nI ps), .ref mpa, .int (nI (im (722 * (cN n)))), .int (nI nv), .ref msz, .ref mcd, .ref mbe, .ref mba, .int ol, .int (nI op), .int (nI os), .int (nI svn), .ref ms1, .ref ms2, .ref ms3, .ref ms4, .ref mfa, .ref mim, .ref mik])), (msz, aN cI 80 z), (mcd, aN cI 640 g), (mim, aN cI 1444 im), (mik, aN cZ 2 ik)] := hD
      refine lv_aload_n hx hb dX8_restore_40 rfl (lv_at hl 1 rfl) ?_
      refine lv_aload_n hx hb dX8_restore_41 rfl (lv_at hl 1 rfl) ?_
      refine va_get (D := D) (ci := 8) (v := .ref mim) (C := RX8) (T := TX8) (N := 19) hx hb hts i_X8 hown hK.1 hP 0 rfl rfl 17 (by decide) f_44 (fun _ h9 => h9) rfl dX8_restore_42 ?_
      refine lv_iload_n hx hb dX8_restore_45 rfl (lv_at hl 0 rfl) ?_
      refine lv_iconst (v := nI 1) hx hb dX8_restore_46 (by decide) ?_
      refine m_add hx hb dX8_restore_47 ?_
      refine m_ald hx hb hK hP 3 rfl (by decide) (by omega) dX8_restore_48 ?_
      refine va_put (D := D) (ci := 8) (v := .int (nI (im ((722 * (cN n)) + 1)))) (ty := .int) (C := RX8) (T := TX8) (N := 19) hx hb hts i_X8 tyX8 tyX8_ok nmX8 hown hK.1 hP hD hS 0 rfl rfl 3 (by decide) f_51 (fun _ h9 => h9) rfl (by decide +kernel) rfl rfl (Nat.le_of_ble_eq_true rfl) dX8_restore_49 (fun H locs hP hD hS => ?_)
      have hP : va_P D vwCl [(mo, .inr (8, [.int (nI ps), .ref mpa, .int (nI (im (722 * (cN n)))), .int (nI (im ((722 * (cN n)) + 1))), .ref msz, .ref mcd, .ref mbe, .ref mba, .int ol, .int (nI op), .int (nI os), .int (nI svn), .ref ms1, .ref ms2, .ref ms3, .ref ms4, .ref mfa, .ref mim, .ref mik])), (msz, aN cI 80 z), (mcd, aN cI 640 g), (mim, aN cI 1444 im), (mik, aN cZ 2 ik)] H := hP
      have hD : va_D A [(mo, .inr (8, [.int (nI ps), .ref mpa, .int (nI (im (722 * (cN n)))), .int (nI (im ((722 * (cN n)) + 1))), .ref msz, .ref mcd, .ref mbe, .ref mba, .int ol, .int (nI op), .int (nI os), .int (nI svn), .ref ms1, .ref ms2, .ref ms3, .ref ms4, .ref mfa, .ref mim, .ref mik])), (msz, aN cI 80 z), (mcd, aN cI 640 g), (mim, aN cI 1444 im), (mik, aN cZ 2 ik)] := hD
      refine lv_iconst (v := nI 0) hx hb dX8_restore_52 (by decide) ?_
      refine lv_istore_n (lv' := [(3, .int (nI 0)), (2, .int (nI (722 * (cN n)))), (0, .ref mo), (1, .int (nI (cN n)))]) hx hb dX8_restore_53 rfl hl (by decide) rfl (fun ls hl => ?_)
      have loop_54 : ∀ (fu : Nat) (k : Nat) (z1 : Nat → Nat) (hfu : 80 - k < fu)  (hk : k ≤ 80) (hz1 : z1 = cpN im z (722 * cN n + 2) 0 k) (H : Heap) (locs : List Loc) (hP : va_P D vwCl [(mo, .inr (8, [.int (nI ps), .ref mpa, .int (nI (im (722 * cN n))), .int (nI (im (722 * cN n + 1))), .ref msz, .ref mcd, .ref mbe, .ref mba, .int ol, .int (nI op), .int (nI os), .int (nI svn), .ref ms1, .ref ms2, .ref ms3, .ref ms4, .ref mfa, .ref mim, .ref mik])), (msz, aN cI 80 z1), (mcd, aN cI 640 g), (mim, aN cI 1444 im), (mik, aN cZ 2 ik)] H) (hD : va_D A [(mo, .inr (8, [.int (nI ps), .ref mpa, .int (nI (im (722 * cN n))), .int (nI (im (722 * cN n + 1))), .ref msz, .ref mcd, .ref mbe, .ref mba, .int ol, .int (nI op), .int (nI os), .int (nI svn), .ref ms1, .ref ms2, .ref ms3, .ref ms4, .ref mfa, .ref mim, .ref mik])), (msz, aN cI 80 z1), (mcd, aN cI 640 g), (mim, aN cI 1444 im), (mik, aN cZ 2 ik)]) (hS : va_S A s.heap H locs) (ls : Array Slot) (hl : lv_has ls 4 [(0, .ref mo), (1, .int (nI (cN n))), (2, .int (nI (722 * cN n))), (3, .int (nI k))]), W p l e (headSpec wsX8_restore { frames := 1, cells := 0, slots := 0, locals := 22 }).room s m args below meth c H locs 0 0 Q (F0 m 54 ls []) := by
        intro fu
        induction fu with
        | zero => intro k z1 hfu; exact absurd hfu (Nat.not_lt_zero _)
        | succ fu ih_54 =>
          intro k z1 hfu hk hz1 H locs hP hD hS ls hl
          refine lv_iload_n hx hb dX8_restore_54 rfl (lv_at hl 3 rfl) ?_
          refine lv_bipush (v := nI 80) hx hb dX8_restore_55 (by decide) ?_
          refine m_cmp_ge (tgt := 82) hx hb dX8_restore_57 (by decide) (by omega) (by omega) (fun c_57 => ?_) (fun c_57 => ?_)
          · refine lv_iconst (v := nI 0) hx hb dX8_restore_82 (by decide) ?_
            refine lv_istore_n (lv' := [(3, .int (nI 0)), (0, .ref mo), (1, .int (nI (cN n))), (2, .int (nI (722 * cN n)))]) hx hb dX8_restore_83 rfl hl (by decide) rfl (fun ls hl => ?_)
            have loop_84 : ∀ (fu : Nat) (k2 : Nat) (g1 : Nat → Nat) (hfu : 640 - k2 < fu)  (hk2 : k2 ≤ 640) (hg1 : g1 = cpN im g (722 * cN n + 82) 0 k2) (H : Heap) (locs : List Loc) (hP : va_P D vwCl [(mo, .inr (8, [.int (nI ps), .ref mpa, .int (nI (im (722 * cN n))), .int (nI (im (722 * cN n + 1))), .ref msz, .ref mcd, .ref mbe, .ref mba, .int ol, .int (nI op), .int (nI os), .int (nI svn), .ref ms1, .ref ms2, .ref ms3, .ref ms4, .ref mfa, .ref mim, .ref mik])), (msz, aN cI 80 (cpN im z (722 * cN n + 2) 0 80)), (mcd, aN cI 640 g1), (mim, aN cI 1444 im), (mik, aN cZ 2 ik)] H) (hD : va_D A [(mo, .inr (8, [.int (nI ps), .ref mpa, .int (nI (im (722 * cN n))), .int (nI (im (722 * cN n + 1))), .ref msz, .ref mcd, .ref mbe, .ref mba, .int ol, .int (nI op), .int (nI os), .int (nI svn), .ref ms1, .ref ms2, .ref ms3, .ref ms4, .ref mfa, .ref mim, .ref mik])), (msz, aN cI 80 (cpN im z (722 * cN n + 2) 0 80)), (mcd, aN cI 640 g1), (mim, aN cI 1444 im), (mik, aN cZ 2 ik)]) (hS : va_S A s.heap H locs) (ls : Array Slot) (hl : lv_has ls 4 [(0, .ref mo), (1, .int (nI (cN n))), (2, .int (nI (722 * cN n))), (3, .int (nI k2))]), W p l e (headSpec wsX8_restore { frames := 1, cells := 0, slots := 0, locals := 22 }).room s m args below meth c H locs 0 0 Q (F0 m 84 ls []) := by
              intro fu
              induction fu with
              | zero => intro k2 g1 hfu; exact absurd hfu (Nat.not_lt_zero _)
              | succ fu ih_84 =>
                intro k2 g1 hfu hk2 hg1 H locs hP hD hS ls hl
                refine lv_iload_n hx hb dX8_restore_84 rfl (lv_at hl 3 rfl) ?_
                refine lv_sipush (v := nI 640) hx hb dX8_restore_85 (by decide) ?_
                refine m_cmp_ge (tgt := 114) hx hb dX8_restore_88 (by decide) (by omega) (by omega) (fun c_88 => ?_) (fun c_88 => ?_)
                · refine lv_iconst (v := nI 1) hx hb dX8_restore_114 (by decide) ?_
                  rw [hQ]
                  have e9 : k2 = 640 := by omega
                  exact m_iwr hx hb hr hlocks (im (722 * cN n), im (722 * cN n + 1), cpN im z (722 * cN n + 2) 0 80, g1) (⟨by unfold reR; rw [if_pos c_6, if_neg c_18]; rfl, by unfold reM; rw [if_pos c_6, if_neg c_18, hg1, e9]⟩) hP hS dX8_restore_115
                · refine lv_aload_n hx hb dX8_restore_91 rfl (lv_at hl 0 rfl) ?_
                  refine va_get (D := D) (ci := 8) (v := .ref mcd) (C := RX8) (T := TX8) (N := 19) hx hb hts i_X8 hown hK.1 hP 0 rfl rfl 5 (by decide) f_16 (fun _ h9 => h9) rfl dX8_restore_92 ?_
                  refine lv_iload_n hx hb dX8_restore_95 rfl (lv_at hl 3 rfl) ?_
                  refine lv_aload_n hx hb dX8_restore_96 rfl (lv_at hl 0 rfl) ?_
                  refine va_get (D := D) (ci := 8) (v := .ref mim) (C := RX8) (T := TX8) (N := 19) hx hb hts i_X8 hown hK.1 hP 0 rfl rfl 17 (by decide) f_44 (fun _ h9 => h9) rfl dX8_restore_97 ?_
                  refine lv_iload_n hx hb dX8_restore_100 rfl (lv_at hl 2 rfl) ?_
                  refine lv_bipush (v := nI 82) hx hb dX8_restore_101 (by decide) ?_
                  refine m_add hx hb dX8_restore_103 ?_
                  refine lv_iload_n hx hb dX8_restore_104 rfl (lv_at hl 3 rfl) ?_
                  refine m_add hx hb dX8_restore_105 ?_
                  refine m_ald hx hb hK hP 3 rfl (by decide) (by omega) dX8_restore_106 ?_
                  refine m_ast hx hb hK hP hD hS 2 rfl (by decide) (by omega) dX8_restore_107 (ws' := [(mo, .inr (8, [.int (nI ps), .ref mpa, .int (nI (im (722 * cN n))), .int (nI (im (722 * cN n + 1))), .ref msz, .ref mcd, .ref mbe, .ref mba, .int ol, .int (nI op), .int (nI os), .int (nI svn), .ref ms1, .ref ms2, .ref ms3, .ref ms4, .ref mfa, .ref mim, .ref mik])), (msz, aN cI 80 (cpN im z (722 * cN n + 2) 0 80)), (mcd, aN cI 640 (upN g1 k2 (im (((722 * cN n) + 82) + k2)))), (mim, aN cI 1444 im), (mik, aN cZ 2 ik)]) rfl (fun H locs hP hD hS => ?_)
                  refine lv_iinc (v := nI (k2 + 1)) (lv' := [(3, .int (nI (k2 + 1))), (0, .ref mo), (1, .int (nI (cN n))), (2, .int (nI (722 * cN n)))]) hx hb dX8_restore_108 hl (k := 3) rfl ((nI_succ _).symm) (by decide) rfl (fun ls hl => ?_)
                  refine lv_goto (tgt := 84) hx hb dX8_restore_111 (by decide) ?_
                  exact ih_84 (k2 + 1) _ (by omega) (by omega) (by rw [hg1, ← cp_s, Nat.zero_add]) _ _ hP hD hS ls (lv_sub hl [1, 2, 3, 0] rfl)
            have e8 : k = 80 := by omega
            rw [hz1, e8] at hP hD
            exact loop_84 641 0 _ (by omega) (by omega) (cp_0 _ _ _ _).symm _ _ hP hD hS ls (lv_sub hl [1, 2, 3, 0] rfl)
          · refine lv_aload_n hx hb dX8_restore_60 rfl (lv_at hl 0 rfl) ?_
            refine va_get (D := D) (ci := 8) (v := .ref msz) (C := RX8) (T := TX8) (N := 19) hx hb hts i_X8 hown hK.1 hP 0 rfl rfl 4 (by decide) f_13 (fun _ h9 => h9) rfl dX8_restore_61 ?_
            refine lv_iload_n hx hb dX8_restore_64 rfl (lv_at hl 3 rfl) ?_
            refine lv_aload_n hx hb dX8_restore_65 rfl (lv_at hl 0 rfl) ?_
            refine va_get (D := D) (ci := 8) (v := .ref mim) (C := RX8) (T := TX8) (N := 19) hx hb hts i_X8 hown hK.1 hP 0 rfl rfl 17 (by decide) f_44 (fun _ h9 => h9) rfl dX8_restore_66 ?_
            refine lv_iload_n hx hb dX8_restore_69 rfl (lv_at hl 2 rfl) ?_
            refine lv_iconst (v := nI 2) hx hb dX8_restore_70 (by decide) ?_
            refine m_add hx hb dX8_restore_71 ?_
            refine lv_iload_n hx hb dX8_restore_72 rfl (lv_at hl 3 rfl) ?_
            refine m_add hx hb dX8_restore_73 ?_
            refine m_ald hx hb hK hP 3 rfl (by decide) (by omega) dX8_restore_74 ?_
            refine m_ast hx hb hK hP hD hS 1 rfl (by decide) (by omega) dX8_restore_75 (ws' := [(mo, .inr (8, [.int (nI ps), .ref mpa, .int (nI (im (722 * cN n))), .int (nI (im (722 * cN n + 1))), .ref msz, .ref mcd, .ref mbe, .ref mba, .int ol, .int (nI op), .int (nI os), .int (nI svn), .ref ms1, .ref ms2, .ref ms3, .ref ms4, .ref mfa, .ref mim, .ref mik])), (msz, aN cI 80 (upN z1 k (im (((722 * cN n) + 2) + k)))), (mcd, aN cI 640 g), (mim, aN cI 1444 im), (mik, aN cZ 2 ik)]) rfl (fun H locs hP hD hS => ?_)
            refine lv_iinc (v := nI (k + 1)) (lv' := [(3, .int (nI (k + 1))), (0, .ref mo), (1, .int (nI (cN n))), (2, .int (nI (722 * cN n)))]) hx hb dX8_restore_76 hl (k := 3) rfl ((nI_succ _).symm) (by decide) rfl (fun ls hl => ?_)
            refine lv_goto (tgt := 54) hx hb dX8_restore_79 (by decide) ?_
            exact ih_54 (k + 1) _ (by omega) (by omega) (by rw [hz1, ← cp_s, Nat.zero_add]) _ _ hP hD hS ls (lv_sub hl [1, 2, 3, 0] rfl)
      exact loop_54 81 0 _ (by omega) (by omega) (cp_0 _ _ _ _).symm _ _ hP hD hS ls (lv_sub hl [2, 3, 1, 0] rfl)
    · refine lv_bipush (v := (-3)) hx hb dX8_restore_21 (by decide) ?_
      rw [hQ]
      exact m_iwr hx hb hr hlocks (nl, nv, z, g) (⟨by unfold reR; rw [if_pos c_6, if_pos c_18], by unfold reM; rw [if_pos c_6, if_pos c_18]⟩) hP hS dX8_restore_23
  · refine lv_bipush (v := (-2)) hx hb dX8_restore_9 (by decide) ?_
    rw [hQ]
    exact m_iwr hx hb hr hlocks (nl, nv, z, g) (⟨by unfold reR; rw [if_neg (by rw [c_6]; decide)], by unfold reM; rw [if_neg (by rw [c_6]; decide)]⟩) hP hS dX8_restore_11
