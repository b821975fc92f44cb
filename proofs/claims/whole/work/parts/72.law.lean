theorem and31 (x : Int32) : ∃ k, k < 32 ∧ x &&& nI 31 = nI k := by
  refine ⟨(x &&& nI 31).toBitVec.toNat, ?_, ?_⟩
  · have h1 : (x &&& nI 31).toBitVec = x.toBitVec &&& (nI 31).toBitVec := rfl
    rw [h1, BitVec.toNat_and]
    have h2 : (nI 31).toBitVec.toNat = 31 := by decide
    rw [h2]
    exact Nat.lt_of_le_of_lt Nat.and_le_right (by decide)
  · apply Int32.toBitVec_inj.mp
    show (x &&& nI 31).toBitVec = BitVec.ofNat 32 (x &&& nI 31).toBitVec.toNat
    exact BitVec.eq_of_toNat_eq (by rw [BitVec.toNat_ofNat, Nat.mod_eq_of_lt (BitVec.isLt _)])
def R_law : String := "SameAgainLaw"
def lw_P (b : Addr) (xs : List Int32) (args : Array Value) (s : State) : Prop := args = #[.ref b] ∧ s.IntsAt b xs ∧ xs.length ≤ 3584 ∧ (Jvm.Cond.and given_1 narrow_1).before args s = true
def lw_Q (_ : Array Value) (s : State) (o : Outcome) (t : State) : Prop := o = .returned (some (.int 1)) ∧ Framed s o t [] 36 7006
def lw_Z (below : List Frame) (a : Array Value) (s : State) : State → Prop := fun t => ∃ o, t.status = .running ∧ Ended t below o ∧ lw_Q a s o t
/-- the law's own end, with 1 on the stack, nothing written that was there before, its room as the claim has it -/
theorem lw_ret {p : Program} {l : Launch} {e : Env} {s : State} {m : MethodId} {below : List Frame} {meth : Method} {c : Code} {b : Nat} (hx : p.tables.exec = Jvm.exec) (hb : c.code = code) (hr : meth.sig.returnType = ret) (hlocks : meth.locks = false) {pc : Nat} {H : Heap} {ls : Array Slot} (hdg : decode code pc = .ok (.ireturn, 1)) : W p l e room_1 s m #[Value.ref b] below meth c H [] 36 7006 (lw_Z below #[Value.ref b] s) (F0 m pc ls [.int 1]) := by
  intro T hT X
  obtain ⟨fs, hret, hrun, hended, hW, hframe⟩ := X.leave (v := some (.int 1)) (hlocks := hlocks) (fun h => by rw [hr] at h; cases h)
  have hmeth' : T.vm.method? m = some meth := X.method'
  refine ⟨T.setFrames fs, ?_, .returned (some (.int 1)), hrun, hended, rfl, ⟨_, rfl⟩, hW, hframe⟩
  jvm_step X.here [X.here.top, hx, hb, hdg, hmeth', hr, ret, narrow_b1]
  (try refine ⟨rfl, ?_⟩); (try refine ⟨rfl, ?_⟩)
  first | (intro acts; rw [hret _ acts rfl rfl rfl]) | rw [hret _ _ rfl rfl rfl]
  exact Steps.refl _
/-- what holds at the law's entry: the machine, the code, the tables' words (any of lw_tbl by 'hts w (by decide +kernel)'), the script of L ints xs at the cell b, what the Statement gives of the start (any of its parts by flat_of_before) -/
def lw_At (p : Program) (s : State) (m : MethodId) (meth : Method) (c : Code) (b L : Nat) (xs : Nat → Int32) : Prop :=
  p.tables.exec = Jvm.exec ∧ c.code = code ∧ meth.sig.returnType = ret ∧ c.maxLocals = 4 ∧ s.vm.findClass R_law = some m.cls ∧ (∀ w ∈ lw_tbl, w.before #[Value.ref b] s = true) ∧ va_X b L xs s s.heap ∧ b < s.heap.size ∧ meth.locks = false ∧ (Jvm.Cond.and given_1 narrow_1).before #[Value.ref b] s = true
set_option maxHeartbeats 4000000 in
set_option maxRecDepth 100000 in
theorem law_loop (p : Program) (l : Launch) (e : Env) (s : State) (m : MethodId) (below : List Frame) (meth : Method) (c : Code) (Q : State → Prop) (A : Nat → Prop) (D : va_G) (cI cZ : ClassId) (b : Nat) (x oc oz oy pa o o5 o4 o6 o1 a1 a2 b1 b2 d1 d2 q0 q1 ra s5 p4 l4 dc mo mpa msz mcd mbe mba ms1 ms2 ms3 ms4 mfa mim mik : Nat) (L : Nat) (xs : Nat → Int32) (C : lCtx p s m c A D cI cZ b L xs) (hQ : Q = lw_Z below #[Value.ref b] s) (hr : meth.sig.returnType = ret) (hlocks : meth.locks = false) (hA : ∀ q, A q → s.heap.size ≤ q) : ∀ (fu i : Nat), i ≤ L → L - i < fu → lAt p l e s m below meth c Q A D cI cZ b x oc oz oy pa o o5 o4 o6 o1 a1 a2 b1 b2 d1 d2 q0 q1 ra s5 p4 l4 dc mo mpa msz mcd mbe mba ms1 ms2 ms3 ms4 mfa mim mik i 18 := by
  intro fu
  induction fu with
  | zero => intro i _ h; exact absurd h (Nat.not_lt_zero _)
  | succ fu ih =>
    intro i hiL hfu
    obtain ⟨hx, hb, hml, hown, hts, hK, hX, hbl, hbA, hL⟩ := id C
    have hN : i + 7 ≤ L → lAt p l e s m below meth c Q A D cI cZ b x oc oz oy pa o o5 o4 o6 o1 a1 a2 b1 b2 d1 d2 q0 q1 ra s5 p4 l4 dc mo mpa msz mcd mbe mba ms1 ms2 ms3 ms4 mfa mim mik i 1071 := by
      intro h7
      unfold lAt
      intro k0 k1 ps nl nv nlz nvz nly nvy ll lo lt n1 n2 va tc ts tn td ct bs bt bl sp sn op os svn sv pd z g zz gz zy gy pt rc st sa li cs be ba s1 s2 s3 s4 fr im ik hp hc hk hpt hrc hsa hli hbe hba hop hos hcs hfr H locs hP hD hS ls hl
      refine lv_iinc (v := nI (i + 7)) (lv' := [(3, .int (nI (i + 7))), (0, .ref b), (1, .ref x), (2, .ref mo)]) hx hb dL_law_1071 hl (k := 3) rfl (nI_add i 7) (by decide) rfl (fun ls hl => ?_)
      refine lv_goto (tgt := 18) hx hb dL_law_1074 (by decide) ?_
      exact ih (i + 7) h7 (by omega) k0 k1 ps nl nv nlz nvz nly nvy ll lo lt n1 n2 va tc ts tn td ct bs bt bl sp sn op os svn sv pd z g zz gz zy gy pt rc st sa li cs be ba s1 s2 s3 s4 fr im ik hp hc hk hpt hrc hsa hli hbe hba hop hos hcs hfr H locs hP hD hS ls (lv_sub hl [1, 2, 3, 0] rfl)
    unfold lAt
    intro k0 k1 ps nl nv nlz nvz nly nvy ll lo lt n1 n2 va tc ts tn td ct bs bt bl sp sn op os svn sv pd z g zz gz zy gy pt rc st sa li cs be ba s1 s2 s3 s4 fr im ik hp hc hk hpt hrc hsa hli hbe hba hop hos hcs hfr H locs hP hD hS ls hl
    refine lv_iload_n hx hb dL_law_18 rfl (lv_at hl 3 rfl) ?_
    refine lv_aload_n hx hb dL_law_19 rfl (lv_at hl 0 rfl) ?_
    refine va_slen hx hb hX hbl hbA hS dL_law_20 ?_
    refine lv_bipush (v := nI 7) hx hb dL_law_21 (by decide) ?_
    refine lv_isub hx hb dL_law_23 ?_
    have e1 : (Int32.ofNat L).toInt = L := nI_toInt (n := L) (by omega)
    have e2 : (nI 7).toInt = 7 := nI_toInt (n := 7) (by decide)
    have e3 : (nI i).toInt = i := nI_toInt (n := i) (by omega)
    have e4 : (Int32.ofNat L - nI 7).toInt = (Int32.ofNat L).toInt - (nI 7).toInt := fb_subI (by omega) (by omega)
    refine lv_icmp_gt (tgt := 1077) hx hb dL_law_24 (by decide) (fun c_24 => ?_) (fun c_24 => ?_)
    · refine lv_iconst (v := 1) hx hb dL_law_1077 (by decide) ?_
      refine va_forget (fun q hq => hA _ (hS.2.2 q hq)) ?_
      rw [hQ]
      exact lw_ret hx hb hr hlocks dL_law_1078
    · have h7 : i + 7 ≤ L := by
        rw [fa_lt, e4, e1, e2, e3] at c_24
        omega
      refine lv_aload_n hx hb dL_law_27 rfl (lv_at hl 0 rfl) ?_
      refine lv_iload_n hx hb dL_law_28 rfl (lv_at hl 3 rfl) ?_
      refine va_sld hx hb hX hbl hbA hS (vp_in_nI (show i < L by omega) (by omega)) dL_law_29 ?_
      refine lv_bipush (v := nI 31) hx hb dL_law_30 (by decide) ?_
      refine lv_iand hx hb dL_law_32 ?_
      obtain ⟨kx, hkx, ekx⟩ := and31 (xs (nI i).toNatClampNeg)
      refine m_top (y := nI kx) ekx ?_
      rcases (show kx = 0 ∨ kx = 1 ∨ kx = 2 ∨ kx = 3 ∨ kx = 4 ∨ kx = 5 ∨ kx = 6 ∨ kx = 7 ∨ kx = 8 ∨ kx = 9 ∨ kx = 10 ∨ kx = 11 ∨ kx = 12 ∨ kx = 13 ∨ kx = 14 ∨ kx = 15 ∨ kx = 16 ∨ kx = 17 ∨ kx = 18 ∨ kx = 19 ∨ kx = 20 ∨ kx = 21 ∨ kx = 22 ∨ 23 ≤ kx by omega) with rfl | rfl | rfl | rfl | rfl | rfl | rfl | rfl | rfl | rfl | rfl | rfl | rfl | rfl | rfl | rfl | rfl | rfl | rfl | rfl | rfl | rfl | rfl | h23
      · refine lv_tableIn (off := 107) (tgt := 140) hx hb dL_law_33 (by decide) (by decide) (by decide) (by decide) ?_
        exact law_c0 p l e s m below meth c Q A D cI cZ b x oc oz oy pa o o5 o4 o6 o1 a1 a2 b1 b2 d1 d2 q0 q1 ra s5 p4 l4 dc mo mpa msz mcd mbe mba ms1 ms2 ms3 ms4 mfa mim mik i L xs C h7 (hN h7) k0 k1 ps nl nv nlz nvz nly nvy ll lo lt n1 n2 va tc ts tn td ct bs bt bl sp sn op os svn sv pd z g zz gz zy gy pt rc st sa li cs be ba s1 s2 s3 s4 fr im ik hp hc hk hpt hrc hsa hli hbe hba hop hos hcs hfr H locs hP hD hS ls hl
      · refine lv_tableIn (off := 130) (tgt := 163) hx hb dL_law_33 (by decide) (by decide) (by decide) (by decide) ?_
        exact law_c1 p l e s m below meth c Q A D cI cZ b x oc oz oy pa o o5 o4 o6 o1 a1 a2 b1 b2 d1 d2 q0 q1 ra s5 p4 l4 dc mo mpa msz mcd mbe mba ms1 ms2 ms3 ms4 mfa mim mik i L xs C h7 (hN h7) k0 k1 ps nl nv nlz nvz nly nvy ll lo lt n1 n2 va tc ts tn td ct bs bt bl sp sn op os svn sv pd z g zz gz zy gy pt rc st sa li cs be ba s1 s2 s3 s4 fr im ik hp hc hk hpt hrc hsa hli hbe hba hop hos hcs hfr H locs hP hD hS ls hl
      · refine lv_tableIn (off := 143) (tgt := 176) hx hb dL_law_33 (by decide) (by decide) (by decide) (by decide) ?_
        exact law_c2 p l e s m below meth c Q A D cI cZ b x oc oz oy pa o o5 o4 o6 o1 a1 a2 b1 b2 d1 d2 q0 q1 ra s5 p4 l4 dc mo mpa msz mcd mbe mba ms1 ms2 ms3 ms4 mfa mim mik i L xs C h7 (hN h7) k0 k1 ps nl nv nlz nvz nly nvy ll lo lt n1 n2 va tc ts tn td ct bs bt bl sp sn op os svn sv pd z g zz gz zy gy pt rc st sa li cs be ba s1 s2 s3 s4 fr im ik hp hc hk hpt hrc hsa hli hbe hba hop hos hcs hfr H locs hP hD hS ls hl
      · refine lv_tableIn (off := 156) (tgt := 189) hx hb dL_law_33 (by decide) (by decide) (by decide) (by decide) ?_
        exact law_c3 p l e s m below meth c Q A D cI cZ b x oc oz oy pa o o5 o4 o6 o1 a1 a2 b1 b2 d1 d2 q0 q1 ra s5 p4 l4 dc mo mpa msz mcd mbe mba ms1 ms2 ms3 ms4 mfa mim mik i L xs C h7 (hN h7) k0 k1 ps nl nv nlz nvz nly nvy ll lo lt n1 n2 va tc ts tn td ct bs bt bl sp sn op os svn sv pd z g zz gz zy gy pt rc st sa li cs be ba s1 s2 s3 s4 fr im ik hp hc hk hpt hrc hsa hli hbe hba hop hos hcs hfr H locs hP hD hS ls hl
      · refine lv_tableIn (off := 179) (tgt := 212) hx hb dL_law_33 (by decide) (by decide) (by decide) (by decide) ?_
        exact law_c4 p l e s m below meth c Q A D cI cZ b x oc oz oy pa o o5 o4 o6 o1 a1 a2 b1 b2 d1 d2 q0 q1 ra s5 p4 l4 dc mo mpa msz mcd mbe mba ms1 ms2 ms3 ms4 mfa mim mik i L xs C h7 (hN h7) k0 k1 ps nl nv nlz nvz nly nvy ll lo lt n1 n2 va tc ts tn td ct bs bt bl sp sn op os svn sv pd z g zz gz zy gy pt rc st sa li cs be ba s1 s2 s3 s4 fr im ik hp hc hk hpt hrc hsa hli hbe hba hop hos hcs hfr H locs hP hD hS ls hl
      · refine lv_tableIn (off := 192) (tgt := 225) hx hb dL_law_33 (by decide) (by decide) (by decide) (by decide) ?_
        exact law_c5 p l e s m below meth c Q A D cI cZ b x oc oz oy pa o o5 o4 o6 o1 a1 a2 b1 b2 d1 d2 q0 q1 ra s5 p4 l4 dc mo mpa msz mcd mbe mba ms1 ms2 ms3 ms4 mfa mim mik i L xs C h7 (hN h7) k0 k1 ps nl nv nlz nvz nly nvy ll lo lt n1 n2 va tc ts tn td ct bs bt bl sp sn op os svn sv pd z g zz gz zy gy pt rc st sa li cs be ba s1 s2 s3 s4 fr im ik hp hc hk hpt hrc hsa hli hbe hba hop hos hcs hfr H locs hP hD hS ls hl
      · refine lv_tableIn (off := 235) (tgt := 268) hx hb dL_law_33 (by decide) (by decide) (by decide) (by decide) ?_
        exact law_c6 p l e s m below meth c Q A D cI cZ b x oc oz oy pa o o5 o4 o6 o1 a1 a2 b1 b2 d1 d2 q0 q1 ra s5 p4 l4 dc mo mpa msz mcd mbe mba ms1 ms2 ms3 ms4 mfa mim mik i L xs C h7 (hN h7) k0 k1 ps nl nv nlz nvz nly nvy ll lo lt n1 n2 va tc ts tn td ct bs bt bl sp sn op os svn sv pd z g zz gz zy gy pt rc st sa li cs be ba s1 s2 s3 s4 fr im ik hp hc hk hpt hrc hsa hli hbe hba hop hos hcs hfr H locs hP hD hS ls hl
      · refine lv_tableIn (off := 298) (tgt := 331) hx hb dL_law_33 (by decide) (by decide) (by decide) (by decide) ?_
        exact law_c7 p l e s m below meth c Q A D cI cZ b x oc oz oy pa o o5 o4 o6 o1 a1 a2 b1 b2 d1 d2 q0 q1 ra s5 p4 l4 dc mo mpa msz mcd mbe mba ms1 ms2 ms3 ms4 mfa mim mik i L xs C h7 (hN h7) k0 k1 ps nl nv nlz nvz nly nvy ll lo lt n1 n2 va tc ts tn td ct bs bt bl sp sn op os svn sv pd z g zz gz zy gy pt rc st sa li cs be ba s1 s2 s3 s4 fr im ik hp hc hk hpt hrc hsa hli hbe hba hop hos hcs hfr H locs hP hD hS ls hl
      · refine lv_tableIn (off := 341) (tgt := 374) hx hb dL_law_33 (by decide) (by decide) (by decide) (by decide) ?_
        exact law_c8 p l e s m below meth c Q A D cI cZ b x oc oz oy pa o o5 o4 o6 o1 a1 a2 b1 b2 d1 d2 q0 q1 ra s5 p4 l4 dc mo mpa msz mcd mbe mba ms1 ms2 ms3 ms4 mfa mim mik i L xs C h7 (hN h7) k0 k1 ps nl nv nlz nvz nly nvy ll lo lt n1 n2 va tc ts tn td ct bs bt bl sp sn op os svn sv pd z g zz gz zy gy pt rc st sa li cs be ba s1 s2 s3 s4 fr im ik hp hc hk hpt hrc hsa hli hbe hba hop hos hcs hfr H locs hP hD hS ls hl
      · refine lv_tableIn (off := 394) (tgt := 427) hx hb dL_law_33 (by decide) (by decide) (by decide) (by decide) ?_
        exact law_c9 p l e s m below meth c Q A D cI cZ b x oc oz oy pa o o5 o4 o6 o1 a1 a2 b1 b2 d1 d2 q0 q1 ra s5 p4 l4 dc mo mpa msz mcd mbe mba ms1 ms2 ms3 ms4 mfa mim mik i L xs C h7 (hN h7) k0 k1 ps nl nv nlz nvz nly nvy ll lo lt n1 n2 va tc ts tn td ct bs bt bl sp sn op os svn sv pd z g zz gz zy gy pt rc st sa li cs be ba s1 s2 s3 s4 fr im ik hp hc hk hpt hrc hsa hli hbe hba hop hos hcs hfr H locs hP hD hS ls hl
      · refine lv_tableIn (off := 447) (tgt := 480) hx hb dL_law_33 (by decide) (by decide) (by decide) (by decide) ?_
        exact law_c10 p l e s m below meth c Q A D cI cZ b x oc oz oy pa o o5 o4 o6 o1 a1 a2 b1 b2 d1 d2 q0 q1 ra s5 p4 l4 dc mo mpa msz mcd mbe mba ms1 ms2 ms3 ms4 mfa mim mik i L xs C h7 (hN h7) k0 k1 ps nl nv nlz nvz nly nvy ll lo lt n1 n2 va tc ts tn td ct bs bt bl sp sn op os svn sv pd z g zz gz zy gy pt rc st sa li cs be ba s1 s2 s3 s4 fr im ik hp hc hk hpt hrc hsa hli hbe hba hop hos hcs hfr H locs hP hD hS ls hl
      · refine lv_tableIn (off := 500) (tgt := 533) hx hb dL_law_33 (by decide) (by decide) (by decide) (by decide) ?_
        exact law_c11 p l e s m below meth c Q A D cI cZ b x oc oz oy pa o o5 o4 o6 o1 a1 a2 b1 b2 d1 d2 q0 q1 ra s5 p4 l4 dc mo mpa msz mcd mbe mba ms1 ms2 ms3 ms4 mfa mim mik i L xs C h7 (hN h7) k0 k1 ps nl nv nlz nvz nly nvy ll lo lt n1 n2 va tc ts tn td ct bs bt bl sp sn op os svn sv pd z g zz gz zy gy pt rc st sa li cs be ba s1 s2 s3 s4 fr im ik hp hc hk hpt hrc hsa hli hbe hba hop hos hcs hfr H locs hP hD hS ls hl
      · refine lv_tableIn (off := 563) (tgt := 596) hx hb dL_law_33 (by decide) (by decide) (by decide) (by decide) ?_
        exact law_c12 p l e s m below meth c Q A D cI cZ b x oc oz oy pa o o5 o4 o6 o1 a1 a2 b1 b2 d1 d2 q0 q1 ra s5 p4 l4 dc mo mpa msz mcd mbe mba ms1 ms2 ms3 ms4 mfa mim mik i L xs C h7 (hN h7) k0 k1 ps nl nv nlz nvz nly nvy ll lo lt n1 n2 va tc ts tn td ct bs bt bl sp sn op os svn sv pd z g zz gz zy gy pt rc st sa li cs be ba s1 s2 s3 s4 fr im ik hp hc hk hpt hrc hsa hli hbe hba hop hos hcs hfr H locs hP hD hS ls hl
      · refine lv_tableIn (off := 606) (tgt := 639) hx hb dL_law_33 (by decide) (by decide) (by decide) (by decide) ?_
        exact law_c13 p l e s m below meth c Q A D cI cZ b x oc oz oy pa o o5 o4 o6 o1 a1 a2 b1 b2 d1 d2 q0 q1 ra s5 p4 l4 dc mo mpa msz mcd mbe mba ms1 ms2 ms3 ms4 mfa mim mik i L xs C h7 (hN h7) k0 k1 ps nl nv nlz nvz nly nvy ll lo lt n1 n2 va tc ts tn td ct bs bt bl sp sn op os svn sv pd z g zz gz zy gy pt rc st sa li cs be ba s1 s2 s3 s4 fr im ik hp hc hk hpt hrc hsa hli hbe hba hop hos hcs hfr H locs hP hD hS ls hl
      · refine lv_tableIn (off := 639) (tgt := 672) hx hb dL_law_33 (by decide) (by decide) (by decide) (by decide) ?_
        exact law_c14 p l e s m below meth c Q A D cI cZ b x oc oz oy pa o o5 o4 o6 o1 a1 a2 b1 b2 d1 d2 q0 q1 ra s5 p4 l4 dc mo mpa msz mcd mbe mba ms1 ms2 ms3 ms4 mfa mim mik i L xs C h7 (hN h7) k0 k1 ps nl nv nlz nvz nly nvy ll lo lt n1 n2 va tc ts tn td ct bs bt bl sp sn op os svn sv pd z g zz gz zy gy pt rc st sa li cs be ba s1 s2 s3 s4 fr im ik hp hc hk hpt hrc hsa hli hbe hba hop hos hcs hfr H locs hP hD hS ls hl
      · refine lv_tableIn (off := 702) (tgt := 735) hx hb dL_law_33 (by decide) (by decide) (by decide) (by decide) ?_
        exact law_c15 p l e s m below meth c Q A D cI cZ b x oc oz oy pa o o5 o4 o6 o1 a1 a2 b1 b2 d1 d2 q0 q1 ra s5 p4 l4 dc mo mpa msz mcd mbe mba ms1 ms2 ms3 ms4 mfa mim mik i L xs C h7 (hN h7) k0 k1 ps nl nv nlz nvz nly nvy ll lo lt n1 n2 va tc ts tn td ct bs bt bl sp sn op os svn sv pd z g zz gz zy gy pt rc st sa li cs be ba s1 s2 s3 s4 fr im ik hp hc hk hpt hrc hsa hli hbe hba hop hos hcs hfr H locs hP hD hS ls hl
      · refine lv_tableIn (off := 755) (tgt := 788) hx hb dL_law_33 (by decide) (by decide) (by decide) (by decide) ?_
        exact law_c16 p l e s m below meth c Q A D cI cZ b x oc oz oy pa o o5 o4 o6 o1 a1 a2 b1 b2 d1 d2 q0 q1 ra s5 p4 l4 dc mo mpa msz mcd mbe mba ms1 ms2 ms3 ms4 mfa mim mik i L xs C h7 (hN h7) k0 k1 ps nl nv nlz nvz nly nvy ll lo lt n1 n2 va tc ts tn td ct bs bt bl sp sn op os svn sv pd z g zz gz zy gy pt rc st sa li cs be ba s1 s2 s3 s4 fr im ik hp hc hk hpt hrc hsa hli hbe hba hop hos hcs hfr H locs hP hD hS ls hl
      · refine lv_tableIn (off := 808) (tgt := 841) hx hb dL_law_33 (by decide) (by decide) (by decide) (by decide) ?_
        exact law_c17 p l e s m below meth c Q A D cI cZ b x oc oz oy pa o o5 o4 o6 o1 a1 a2 b1 b2 d1 d2 q0 q1 ra s5 p4 l4 dc mo mpa msz mcd mbe mba ms1 ms2 ms3 ms4 mfa mim mik i L xs C h7 (hN h7) k0 k1 ps nl nv nlz nvz nly nvy ll lo lt n1 n2 va tc ts tn td ct bs bt bl sp sn op os svn sv pd z g zz gz zy gy pt rc st sa li cs be ba s1 s2 s3 s4 fr im ik hp hc hk hpt hrc hsa hli hbe hba hop hos hcs hfr H locs hP hD hS ls hl
      · refine lv_tableIn (off := 883) (tgt := 916) hx hb dL_law_33 (by decide) (by decide) (by decide) (by decide) ?_
        exact law_c18 p l e s m below meth c Q A D cI cZ b x oc oz oy pa o o5 o4 o6 o1 a1 a2 b1 b2 d1 d2 q0 q1 ra s5 p4 l4 dc mo mpa msz mcd mbe mba ms1 ms2 ms3 ms4 mfa mim mik i L xs C h7 (hN h7) k0 k1 ps nl nv nlz nvz nly nvy ll lo lt n1 n2 va tc ts tn td ct bs bt bl sp sn op os svn sv pd z g zz gz zy gy pt rc st sa li cs be ba s1 s2 s3 s4 fr im ik hp hc hk hpt hrc hsa hli hbe hba hop hos hcs hfr H locs hP hD hS ls hl
      · refine lv_tableIn (off := 926) (tgt := 959) hx hb dL_law_33 (by decide) (by decide) (by decide) (by decide) ?_
        exact law_c19 p l e s m below meth c Q A D cI cZ b x oc oz oy pa o o5 o4 o6 o1 a1 a2 b1 b2 d1 d2 q0 q1 ra s5 p4 l4 dc mo mpa msz mcd mbe mba ms1 ms2 ms3 ms4 mfa mim mik i L xs C h7 (hN h7) k0 k1 ps nl nv nlz nvz nly nvy ll lo lt n1 n2 va tc ts tn td ct bs bt bl sp sn op os svn sv pd z g zz gz zy gy pt rc st sa li cs be ba s1 s2 s3 s4 fr im ik hp hc hk hpt hrc hsa hli hbe hba hop hos hcs hfr H locs hP hD hS ls hl
      · refine lv_tableIn (off := 969) (tgt := 1002) hx hb dL_law_33 (by decide) (by decide) (by decide) (by decide) ?_
        exact law_c20 p l e s m below meth c Q A D cI cZ b x oc oz oy pa o o5 o4 o6 o1 a1 a2 b1 b2 d1 d2 q0 q1 ra s5 p4 l4 dc mo mpa msz mcd mbe mba ms1 ms2 ms3 ms4 mfa mim mik i L xs C h7 (hN h7) k0 k1 ps nl nv nlz nvz nly nvy ll lo lt n1 n2 va tc ts tn td ct bs bt bl sp sn op os svn sv pd z g zz gz zy gy pt rc st sa li cs be ba s1 s2 s3 s4 fr im ik hp hc hk hpt hrc hsa hli hbe hba hop hos hcs hfr H locs hP hD hS ls hl
      · refine lv_tableIn (off := 992) (tgt := 1025) hx hb dL_law_33 (by decide) (by decide) (by decide) (by decide) ?_
        exact law_c21 p l e s m below meth c Q A D cI cZ b x oc oz oy pa o o5 o4 o6 o1 a1 a2 b1 b2 d1 d2 q0 q1 ra s5 p4 l4 dc mo mpa msz mcd mbe mba ms1 ms2 ms3 ms4 mfa mim mik i L xs C h7 (hN h7) k0 k1 ps nl nv nlz nvz nly nvy ll lo lt n1 n2 va tc ts tn td ct bs bt bl sp sn op os svn sv pd z g zz gz zy gy pt rc st sa li cs be ba s1 s2 s3 s4 fr im ik hp hc hk hpt hrc hsa hli hbe hba hop hos hcs hfr H locs hP hD hS ls hl
      · refine lv_tableIn (off := 1015) (tgt := 1048) hx hb dL_law_33 (by decide) (by decide) (by decide) (by decide) ?_
        exact law_c22 p l e s m below meth c Q A D cI cZ b x oc oz oy pa o o5 o4 o6 o1 a1 a2 b1 b2 d1 d2 q0 q1 ra s5 p4 l4 dc mo mpa msz mcd mbe mba ms1 ms2 ms3 ms4 mfa mim mik i L xs C h7 (hN h7) k0 k1 ps nl nv nlz nvz nly nvy ll lo lt n1 n2 va tc ts tn td ct bs bt bl sp sn op os svn sv pd z g zz gz zy gy pt rc st sa li cs be ba s1 s2 s3 s4 fr im ik hp hc hk hpt hrc hsa hli hbe hba hop hos hcs hfr H locs hP hD hS ls hl
      · refine lv_tableOut (tgt := 1071) hx hb dL_law_33 (Or.inr (by rw [nI_toInt (by omega)]; omega)) (by decide) ?_
        exact hN h7 k0 k1 ps nl nv nlz nvz nly nvy ll lo lt n1 n2 va tc ts tn td ct bs bt bl sp sn op os svn sv pd z g zz gz zy gy pt rc st sa li cs be ba s1 s2 s3 s4 fr im ik hp hc hk hpt hrc hsa hli hbe hba hop hos hcs hfr H locs hP hD hS ls hl
