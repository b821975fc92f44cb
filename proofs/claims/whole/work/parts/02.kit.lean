def nestF : List (String × Nat × String × String × String × String) := [("SameAgain$Slip", 59, "SameAgain$Likeness", "pairing", "LSameAgain$Pairing;", "SameAgain"), ("SameAgain", 208, "SameAgain$Likeness", "pairing", "LSameAgain$Pairing;", "SameAgain"), ("SameAgain", 130, "SameAgain$Likeness", "longestLength", "I", "SameAgain"), ("SameAgain", 133, "SameAgain$Likeness", "longestOne", "I", "SameAgain"), ("SameAgain", 136, "SameAgain$Likeness", "longestOther", "I", "SameAgain"), ("SameAgain", 164, "SameAgain$Procedure", "takenCount", "I", "SameAgain"), ("SameAgain", 167, "SameAgain$Procedure", "takenStarts", "I", "SameAgain"), ("SameAgain$Plan", 67, "SameAgain$Procedure", "takenLines", "I", "SameAgain"), ("SameAgain", 170, "SameAgain$Procedure", "toldCount", "I", "SameAgain"), ("SameAgain$Plan", 64, "SameAgain$Procedure", "saved", "I", "SameAgain"), ("SameAgain", 173, "SameAgain$Procedure", "saved", "I", "SameAgain"), ("SameAgain", 180, "SameAgain$Plan", "bestSaved", "I", "SameAgain"), ("SameAgain", 183, "SameAgain$Plan", "bestStart", "I", "SameAgain"), ("SameAgain", 186, "SameAgain$Plan", "bestLength", "I", "SameAgain"), ("SameAgain", 199, "SameAgain$Slip", "place", "I", "SameAgain"), ("SameAgain", 196, "SameAgain$Slip", "name", "I", "SameAgain")]
def nestM : List (String × Nat × MethodName × String) := [("SameAgain", 9, ⟨"SameAgain$Code", "<init>", "()V"⟩, "SameAgain"), ("SameAgain$Likeness", 11, ⟨"SameAgain$Pairing", "<init>", "()V"⟩, "SameAgain"), ("SameAgain$Likeness", 73, ⟨"SameAgain", "isName", "(I)Z"⟩, "SameAgain"), ("SameAgain$Pairing", 22, ⟨"SameAgain", "isName", "(I)Z"⟩, "SameAgain"), ("SameAgain$Likeness", 81, ⟨"SameAgain", "isNumber", "(I)Z"⟩, "SameAgain"), ("SameAgain$Slip", 52, ⟨"SameAgain", "isName", "(I)Z"⟩, "SameAgain"), ("SameAgain$Distance", 37, ⟨"SameAgain", "isName", "(I)Z"⟩, "SameAgain"), ("SameAgain$Distance", 41, ⟨"SameAgain", "isNumber", "(I)Z"⟩, "SameAgain")]
def NW (U : State) : Prop := (∀ q ∈ nestF, va_Nw (.fieldLinkNest q.1 q.2.1 q.2.2.1 q.2.2.2.1 q.2.2.2.2.1 q.2.2.2.2.2) U) ∧ (∀ q ∈ nestM, va_Nw (.methodLinkNest q.1 q.2.1 q.2.2.1 q.2.2.2) U)
theorem NW.warm {s U : State} (hW : s.WarmedH U.vm) (h : NW s) : NW U := ⟨fun q hq => va_Nw.warmF hW (h.1 q hq), fun q hq => va_Nw.warmM hW (h.2 q hq)⟩
theorem NW.same {u U : State} (e : u.vm = U.vm) (h : NW u) : NW U := ⟨fun q hq => va_Nw.same rfl e (h.1 q hq), fun q hq => va_Nw.same rfl e (h.2 q hq)⟩
/-- what a method knows of the tables: classes, int arrays, boolean arrays, nest mates -/
def mK (D : va_G) (cI cZ : ClassId) (U : State) : Prop := va_K D vwCl [(cI, .int), (cZ, .boolean)] U ∧ NW U
theorem mK.warm {D : va_G} {cI cZ : ClassId} {s U : State} (hW : s.WarmedH U.vm) (h : mK D cI cZ s) : mK D cI cZ U := ⟨va_K.moved hW.alike h.1, h.2.warm hW⟩
/-- a method's start: arguments, world, tables -/
def mPc (av : List Value) (D : va_G) (cI cZ : ClassId) (ws : va_W) : Array Value → State → Prop := fun v U => v = av.toArray ∧ va_P D vwCl ws U.heap ∧ va_D (fun _ => True) ws ∧ mK D cI cZ U
theorem mPc_blind {av : List Value} {D : va_G} {cI cZ : ClassId} {ws : va_W} : FrameBlind (mPc av D cI cZ ws) := fun a U g mk q => ⟨q.1, q.2.1, q.2.2.1, va_K.moved (u := U) (U := U.calling g mk a) (Vm.Alike.refl U.vm) q.2.2.2.1, q.2.2.2.2.same rfl⟩
/-- which cells a method may change: its world's -/
def mA (ws : va_W) : Nat → Prop := fun q => ∃ (k : Nat) (e : va_E), ws[k]? = some (q, e)
/-- a method's end, where it writes: an answer (or none), and its world behind it -/
def mQi {S : Type} (D : va_G) (A : Nat → Prop) (post : Int32 → S → Prop) (Wf : S → va_W) : Array Value → State → Outcome → State → Prop := fun _ st oc t => (∃ (r : Int32) (u : S), oc = .returned (some (.int r)) ∧ post r u ∧ va_P D vwCl (Wf u) t.heap) ∧ va_F A st t
def mQv {S : Type} (D : va_G) (A : Nat → Prop) (post : S → Prop) (Wf : S → va_W) : Array Value → State → Outcome → State → Prop := fun _ st oc t => (∃ (u : S), oc = .returned none ∧ post u ∧ va_P D vwCl (Wf u) t.heap) ∧ va_F A st t
theorem m_pick {ws wc : va_W} {isC : List Nat} (hC : isC.map (fun i => ws[i]?) = wc.map some) {k : Nat} {q : Nat × va_E} (hk : wc[k]? = some q) : ∃ i, isC[k]? = some i ∧ ws[i]? = some q := by
  have h1 : (wc.map some)[k]? = some (some q) := by rw [List.getElem?_map, hk]; rfl
  rw [← hC, List.getElem?_map] at h1
  cases hi : isC[k]? with
  | none => rw [hi] at h1; cases h1
  | some i => rw [hi] at h1; exact ⟨i, rfl, Option.some.inj h1⟩
theorem m_subP {D : va_G} {ws wc : va_W} {H : Heap} {isC : List Nat} (hP : va_P D vwCl ws H) (hC : isC.map (fun i => ws[i]?) = wc.map some) : va_P D vwCl wc H := by
  intro k q hk
  obtain ⟨i, -, hi⟩ := m_pick hC hk
  exact hP i q hi
/-- a world with some of its cells changed -/
def mput : va_W → List Nat → va_W → va_W
  | ws, i :: is, x :: xs => mput (ws.set i x) is xs
  | ws, _, _ => ws
theorem mput_len (ws : va_W) : ∀ (is : List Nat) (xs : va_W), (mput ws is xs).length = ws.length := by
  intro is
  induction is generalizing ws with
  | nil => intro xs; cases xs <;> rfl
  | cons i is ih =>
    intro xs
    cases xs with
    | nil => rfl
    | cons x xs => show (mput (ws.set i x) is xs).length = _; rw [ih, List.length_set]
theorem mput_out (ws : va_W) (k : Nat) : ∀ (is : List Nat) (xs : va_W), k ∉ is → (mput ws is xs)[k]? = ws[k]? := by
  intro is
  induction is generalizing ws with
  | nil => intro xs _; cases xs <;> rfl
  | cons i is ih =>
    intro xs hk
    cases xs with
    | nil => rfl
    | cons x xs =>
      show (mput (ws.set i x) is xs)[k]? = _
      have h1 : i ≠ k := fun h => hk (by rw [h]; exact List.mem_cons_self)
      rw [ih _ _ (fun h => hk (List.mem_cons_of_mem _ h)), List.getElem?_set_ne h1]
theorem mput_in (ws : va_W) : ∀ (is : List Nat) (xs : va_W), va_nd is = true → (∀ i ∈ is, i < ws.length) → is.length = xs.length → ∀ k, k ∈ is → ∃ j : Nat, is[j]? = some k ∧ (mput ws is xs)[k]? = xs[j]? := by
  intro is
  induction is generalizing ws with
  | nil => intro xs _ _ _ k hk; cases hk
  | cons i is ih =>
    intro xs hn hl he k hk
    cases xs with
    | nil => cases he
    | cons x xs =>
      have hn2 : i ∉ is ∧ va_nd is = true := by
        have h := va_nd_inj _ hn
        refine ⟨fun hm => ?_, ?_⟩
        · obtain ⟨j, hj⟩ := List.getElem?_of_mem hm
          have h0 := h 0 (j + 1) i rfl hj
          omega
        · simp only [va_nd, Bool.and_eq_true] at hn
          exact hn.2
      by_cases hki : k = i
      · subst hki
        refine ⟨0, rfl, ?_⟩
        show (mput (ws.set k x) is xs)[k]? = some x
        rw [mput_out _ _ _ _ hn2.1, List.getElem?_set_self (hl k List.mem_cons_self)]
      · have hk2 : k ∈ is := by
          rcases List.mem_cons.mp hk with h | h
          · exact absurd h hki
          · exact h
        obtain ⟨j, h1, h2⟩ := ih (ws.set i x) xs hn2.2 (fun a ha => by rw [List.length_set]; exact hl a (List.mem_cons_of_mem _ ha)) (by simpa using he) k hk2
        exact ⟨j + 1, h1, h2⟩
theorem m_join {D : va_G} {A0 : Nat → Prop} {ws wc w1 : va_W} {H H1 : Heap} {isC : List Nat} (hP : va_P D vwCl ws H) (hD : va_D A0 ws) (hn : va_nd isC = true) (hC : isC.map (fun i => ws[i]?) = wc.map some) (had : w1.map (·.1) = wc.map (·.1)) (h1 : va_P D vwCl w1 H1) (hk : ∀ q : Nat, q < H.size → ¬ mA wc q → H1[q]? = H[q]?) :
    va_P D vwCl (mput ws isC w1) H1 ∧ va_D A0 (mput ws isC w1) := by
  have hlc : isC.length = wc.length := by have := congrArg List.length hC; simpa using this
  have hl1 : w1.length = wc.length := by have := congrArg List.length had; simpa using this
  have hlt : ∀ i ∈ isC, i < ws.length := by
    intro i hi
    obtain ⟨k, hk⟩ := List.getElem?_of_mem hi
    have hkl : k < isC.length := (List.getElem?_eq_some_iff.mp hk).1
    have h2 : (isC.map (fun i => ws[i]?))[k]? = some (ws[i]?) := by rw [List.getElem?_map, hk]; rfl
    rw [hC, List.getElem?_map] at h2
    have h3 : k < wc.length := by omega
    rw [List.getElem?_eq_getElem h3] at h2
    have h4 : ws[i]? = some wc[k] := (Option.some.inj h2).symm
    exact (List.getElem?_eq_some_iff.mp h4).1
  have adr : ∀ (k : Nat) (q : Nat × va_E), (mput ws isC w1)[k]? = some q → ∃ q0 : Nat × va_E, ws[k]? = some q0 ∧ q0.1 = q.1 := by
    intro k q hq
    by_cases hki : k ∈ isC
    · obtain ⟨j, hj, he⟩ := mput_in ws isC w1 hn hlt (by omega) k hki
      rw [he] at hq
      have hjl : j < w1.length := (List.getElem?_eq_some_iff.mp hq).1
      have e1 : (w1.map (·.1))[j]? = some q.1 := by rw [List.getElem?_map, hq]; rfl
      rw [had, List.getElem?_map] at e1
      have hjc : j < wc.length := by omega
      rw [List.getElem?_eq_getElem hjc] at e1
      obtain ⟨i, hi1, hi2⟩ := m_pick hC (List.getElem?_eq_getElem hjc)
      rw [hj] at hi1
      cases hi1
      exact ⟨_, hi2, Option.some.inj e1⟩
    · rw [mput_out _ _ _ _ hki] at hq
      exact ⟨q, hq, rfl⟩
  refine ⟨fun k q hq => ?_, fun i j x y hx hy hxy => ?_, fun k q hq => ?_⟩
  · by_cases hki : k ∈ isC
    · obtain ⟨j, hj, he⟩ := mput_in ws isC w1 hn hlt (by omega) k hki
      rw [he] at hq
      exact h1 j q hq
    · rw [mput_out _ _ _ _ hki] at hq
      refine (hP k q hq).kept (hk q.1 ((hP k q hq).lt) (fun hm => ?_))
      obtain ⟨k2, e, h2⟩ := hm
      obtain ⟨i, hi1, hi2⟩ := m_pick hC h2
      have := hD.1 k i q (q.1, e) hq hi2 rfl
      subst this
      exact hki (List.mem_of_getElem? hi1)
  · obtain ⟨x0, hx0, ex⟩ := adr i x hx
    obtain ⟨y0, hy0, ey⟩ := adr j y hy
    exact hD.1 i j x0 y0 hx0 hy0 (by rw [ex, ey, hxy])
  · obtain ⟨q0, hq0, e0⟩ := adr k q hq
    rw [← e0]
    exact hD.2 k q0 hq0
theorem m_subD {A0 : Nat → Prop} {ws wc : va_W} {isC : List Nat} (hD : va_D A0 ws) (hn : va_nd isC = true) (hC : isC.map (fun i => ws[i]?) = wc.map some) : va_D (fun _ => True) wc := (hD.sub isC hn hC).weaken (fun _ _ _ _ => trivial)
section MRUN
variable {p : Program} {l : Launch} {e : Env} {R : Room} {s : State} {m : MethodId} {args : Array Value} {below : List Frame} {meth : Method} {c : Code} {H : Heap} {locs : List Loc} {cells slots : Nat} {Q : State → Prop}
variable {pc : Nat} {ls : Array Slot} {rest st0 : List Value} {A0 : Nat → Prop} {H0 : Heap} {D : va_G} {cI cZ : ClassId} {ws wc : va_W} {cc bytes : ByteArray} {nL maxL index n : Nat} {own C host : String} {y : MethodName} {ret : Option FieldType} {wsy Ts : List Cond} {rm : Room} {b : Addr} {As : List Value}
theorem m_preV (hK : mK D cI cZ s) (hP : va_P D vwCl ws H) (hD : va_D A0 ws) (isC : List Nat) (hn : va_nd isC = true) (hC : isC.map (fun i => ws[i]?) = wc.map some) {ci : Nat} {fs : List Value} {T : u_T} {N : Nat} (h0 : wc[0]? = some (b, .inr (ci, fs))) (hc : vwCl[ci]? = some (C, T, N)) : PreV s H C b (mPc (.ref b :: As) D cI cZ wc) As :=
  ⟨mPc_blind, va_recv hK.1 (m_subP hP hC) hc h0, fun U hU hW => ⟨rfl, by rw [hU]; exact m_subP hP hC, m_subD hD hn hC, hK.warm hW⟩⟩
theorem m_preS (hK : mK D cI cZ s) (hP : va_P D vwCl ws H) (hD : va_D A0 ws) (isC : List Nat) (hn : va_nd isC = true) (hC : isC.map (fun i => ws[i]?) = wc.map some) : PreS s H (mPc As D cI cZ wc) As :=
  ⟨mPc_blind, fun U hU hW => ⟨rfl, by rw [hU]; exact m_subP hP hC, m_subD hD hn hC, hK.warm hW⟩⟩
theorem m_ofRun {mc ms : Nat} {g : JFrame} {Qa : State → Outcome → State → Prop} {free : Addr → Prop} (h : va_Run p l e R s m args below meth c H locs cells slots mc ms g rest Qa free) : CallRun p l e R s m args below meth c H locs cells slots mc ms g rest Qa free := by
  intro T hT X
  obtain ⟨v, st₀, t, T', L, h0, X', hL, e1, -, hq, st⟩ := h T hT X
  exact ⟨v, st₀, t, T', L, h0, X', hL, e1, hq, st⟩
/-- a call of a method that only reads -/
theorem m_rdV {r : Int32} (S : CallFix p m c cc nL s args Ts own) (hM : Met l y wsy rm (mPc (.ref b :: As) D cI cZ wc) (QcRead r) 0 0 (fun _ => False)) (cw : CallW R s args own C index y bytes maxL ret wsy rm 0 0 n) (hp : PreV s H C b (mPc (.ref b :: As) D cI cZ wc) As) (hn : As.length = n) (hl : ls.size = nL) (hst : st0 = As.reverse ++ .ref b :: rest) (hW : (rest.map fun v => v.category).sum ≤ 8) (hdg : decode cc pc = .ok (.invokevirtual index, 3)) (hf : cells ≤ R.cells ∧ slots ≤ R.slots)
    (kk : W p l e R s m args below meth c H locs cells slots Q (F0 m (pc + 3) ls (.int r :: rest))) : W p l e R s m args below meth c H locs cells slots Q (F0 m pc ls st0) :=
  W.callR (W.runV (g := F0 m pc ls st0) S hM cw hp rfl hn hl hst (lv_room hW) hdg hf) kk
theorem m_rdS {r : Int32} (S : CallFix p m c cc nL s args Ts own) (hM : Met l y wsy rm (mPc As D cI cZ wc) (QcRead r) 0 0 (fun _ => False)) (cw : CallB R s args own index y bytes maxL ret wsy rm 0 0 n ∧ (Cond.static y).before args s = true) (hp : PreS s H (mPc As D cI cZ wc) As) (hn : As.length = n) (hl : ls.size = nL) (hst : st0 = As.reverse ++ rest) (hW : (rest.map fun v => v.category).sum ≤ 8) (hdg : decode cc pc = .ok (.invokestatic index, 3)) (hf : cells ≤ R.cells ∧ slots ≤ R.slots)
    (kk : W p l e R s m args below meth c H locs cells slots Q (F0 m (pc + 3) ls (.int r :: rest))) : W p l e R s m args below meth c H locs cells slots Q (F0 m pc ls st0) :=
  W.callR (W.runS (g := F0 m pc ls st0) S hM cw hp rfl hn hl hst (lv_room hW) hdg hf) kk
theorem m_rdSN {r : Int32} (S : CallFix p m c cc nL s args Ts own) (hM : Met l y wsy rm (mPc As D cI cZ wc) (QcRead r) 0 0 (fun _ => False)) (cw : va_CN R s args own index y host bytes maxL ret wsy rm 0 0 n ∧ (Cond.static y).before args s = true ∧ True) (hp : PreS s H (mPc As D cI cZ wc) As) (hn : As.length = n) (hl : ls.size = nL) (hst : st0 = As.reverse ++ rest) (hW : (rest.map fun v => v.category).sum ≤ 8) (hdg : decode cc pc = .ok (.invokestatic index, 3)) (hf : cells ≤ R.cells ∧ slots ≤ R.slots)
    (kk : W p l e R s m args below meth c H locs cells slots Q (F0 m (pc + 3) ls (.int r :: rest))) : W p l e R s m args below meth c H locs cells slots Q (F0 m pc ls st0) :=
  W.callR (m_ofRun (va_runSN (g := F0 m pc ls st0) S hM cw hp rfl hn hl hst (lv_room hW) hdg hf)) kk
theorem m_free {A0 : Nat → Prop} {ws wc : va_W} {isC : List Nat} (hD : va_D A0 ws) (hC : isC.map (fun i => ws[i]?) = wc.map some) : ∀ q, mA wc q → A0 q := by
  intro q ⟨k, e, h⟩
  obtain ⟨i, -, hi⟩ := m_pick hC h
  exact hD.2 i _ hi
/-- a call of a method that writes: the world behind it -/
theorem m_calli {S : Type} {post : Int32 → S → Prop} {Wf : S → va_W} {a : Array Value} (hr : va_Run p l e R s m args below meth c H locs cells slots 0 0 (F0 m pc ls st0) rest (mQi D (mA wc) post Wf a) (mA wc)) (hP : va_P D vwCl ws H) (hD : va_D A0 ws) (hS : va_S A0 H0 H locs) (isC : List Nat) (hn : va_nd isC = true) (hC : isC.map (fun i => ws[i]?) = wc.map some) (had : ∀ u, (Wf u).map (·.1) = wc.map (·.1)) (ws' : S → va_W) (hset : ∀ u, mput ws isC (Wf u) = ws' u)
    (kk : ∀ (r : Int32) (u : S) (H1 : Heap) (locs1 : List Loc), post r u → va_P D vwCl (ws' u) H1 → va_D A0 (ws' u) → va_S A0 H0 H1 locs1 → W p l e R s m args below meth c H1 locs1 cells slots Q (F0 m (pc + 3) ls (.int r :: rest))) : W p l e R s m args below meth c H locs cells slots Q (F0 m pc ls st0) := by
  intro T hT X
  obtain ⟨v, st₀, t, T', L, h0, X', hL, e1, e2, ⟨⟨r, u, hv, hp, hb⟩, hz, hk⟩, st⟩ := hr T hT X
  cases hv
  rw [h0] at hz hk
  have hfr := m_free hD hC
  obtain ⟨j1, j2⟩ := m_join hP hD hn hC (had u) hb hk
  rw [hset u] at j1 j2
  obtain ⟨t2, a1, b1⟩ := kk r u T'.heap (locs ++ L) hp (by rw [e1]; exact j1) j2
    ⟨Nat.le_trans hS.1 (by rw [e1]; exact hz), fun q h1 h2 => by rw [e1, hk q (Nat.lt_of_lt_of_le h1 hS.1) (fun z => h2 (hfr q z))]; exact hS.2.1 q h1 h2, fun q hq => by
      rcases List.mem_append.mp hq with h | h
      · exact hS.2.2 q h
      · exact hfr _ (hL q h)⟩ T' rfl X'
  exact ⟨t2, st t2 a1, b1⟩
theorem m_callv {S : Type} {post : S → Prop} {Wf : S → va_W} {a : Array Value} (hr : va_Run p l e R s m args below meth c H locs cells slots 0 0 (F0 m pc ls st0) rest (mQv D (mA wc) post Wf a) (mA wc)) (hP : va_P D vwCl ws H) (hD : va_D A0 ws) (hS : va_S A0 H0 H locs) (isC : List Nat) (hn : va_nd isC = true) (hC : isC.map (fun i => ws[i]?) = wc.map some) (had : ∀ u, (Wf u).map (·.1) = wc.map (·.1)) (ws' : S → va_W) (hset : ∀ u, mput ws isC (Wf u) = ws' u)
    (kk : ∀ (u : S) (H1 : Heap) (locs1 : List Loc), post u → va_P D vwCl (ws' u) H1 → va_D A0 (ws' u) → va_S A0 H0 H1 locs1 → W p l e R s m args below meth c H1 locs1 cells slots Q (F0 m (pc + 3) ls rest)) : W p l e R s m args below meth c H locs cells slots Q (F0 m pc ls st0) := by
  intro T hT X
  obtain ⟨v, st₀, t, T', L, h0, X', hL, e1, e2, ⟨⟨u, hv, hp, hb⟩, hz, hk⟩, st⟩ := hr T hT X
  cases hv
  rw [h0] at hz hk
  have hfr := m_free hD hC
  obtain ⟨j1, j2⟩ := m_join hP hD hn hC (had u) hb hk
  rw [hset u] at j1 j2
  obtain ⟨t2, a1, b1⟩ := kk u T'.heap (locs ++ L) hp (by rw [e1]; exact j1) j2
    ⟨Nat.le_trans hS.1 (by rw [e1]; exact hz), fun q h1 h2 => by rw [e1, hk q (Nat.lt_of_lt_of_le h1 hS.1) (fun z => h2 (hfr q z))]; exact hS.2.1 q h1 h2, fun q hq => by
      rcases List.mem_append.mp hq with h | h
      · exact hS.2.2 q h
      · exact hfr _ (hL q h)⟩ T' rfl X'
  exact ⟨t2, st t2 a1, b1⟩
theorem m_wrV {S : Type} {post : Int32 → S → Prop} {Wf : S → va_W} (F : CallFix p m c cc nL s args Ts own) (hM : Met l y wsy rm (mPc (.ref b :: As) D cI cZ wc) (mQi D (mA wc) post Wf) 0 0 (mA wc)) (cw : CallW R s args own C index y bytes maxL ret wsy rm 0 0 n) (hK : mK D cI cZ s) (hP : va_P D vwCl ws H) (hD : va_D A0 ws) (hS : va_S A0 H0 H locs) (isC : List Nat) (hnd : va_nd isC = true) (hC : isC.map (fun i => ws[i]?) = wc.map some) {ci : Nat} {fs : List Value} {T : u_T} {N : Nat} (h0 : wc[0]? = some (b, .inr (ci, fs))) (hc : vwCl[ci]? = some (C, T, N)) (hn : As.length = n) (hl : ls.size = nL) (hst : st0 = As.reverse ++ .ref b :: rest) (hW : (rest.map fun v => v.category).sum ≤ 8) (hdg : decode cc pc = .ok (.invokevirtual index, 3)) (hf : cells ≤ R.cells ∧ slots ≤ R.slots) (had : ∀ u, (Wf u).map (·.1) = wc.map (·.1)) (ws' : S → va_W) (hset : ∀ u, mput ws isC (Wf u) = ws' u)
    (kk : ∀ (r : Int32) (u : S) (H1 : Heap) (locs1 : List Loc), post r u → va_P D vwCl (ws' u) H1 → va_D A0 (ws' u) → va_S A0 H0 H1 locs1 → W p l e R s m args below meth c H1 locs1 cells slots Q (F0 m (pc + 3) ls (.int r :: rest))) : W p l e R s m args below meth c H locs cells slots Q (F0 m pc ls st0) :=
  m_calli (va_runV (g := F0 m pc ls st0) F hM cw (m_preV hK hP hD isC hnd hC h0 hc) rfl hn hl hst (lv_room hW) hdg hf) hP hD hS isC hnd hC had ws' hset kk
theorem m_wvV {S : Type} {post : S → Prop} {Wf : S → va_W} (F : CallFix p m c cc nL s args Ts own) (hM : Met l y wsy rm (mPc (.ref b :: As) D cI cZ wc) (mQv D (mA wc) post Wf) 0 0 (mA wc)) (cw : CallW R s args own C index y bytes maxL ret wsy rm 0 0 n) (hK : mK D cI cZ s) (hP : va_P D vwCl ws H) (hD : va_D A0 ws) (hS : va_S A0 H0 H locs) (isC : List Nat) (hnd : va_nd isC = true) (hC : isC.map (fun i => ws[i]?) = wc.map some) {ci : Nat} {fs : List Value} {T : u_T} {N : Nat} (h0 : wc[0]? = some (b, .inr (ci, fs))) (hc : vwCl[ci]? = some (C, T, N)) (hn : As.length = n) (hl : ls.size = nL) (hst : st0 = As.reverse ++ .ref b :: rest) (hW : (rest.map fun v => v.category).sum ≤ 8) (hdg : decode cc pc = .ok (.invokevirtual index, 3)) (hf : cells ≤ R.cells ∧ slots ≤ R.slots) (had : ∀ u, (Wf u).map (·.1) = wc.map (·.1)) (ws' : S → va_W) (hset : ∀ u, mput ws isC (Wf u) = ws' u)
    (kk : ∀ (u : S) (H1 : Heap) (locs1 : List Loc), post u → va_P D vwCl (ws' u) H1 → va_D A0 (ws' u) → va_S A0 H0 H1 locs1 → W p l e R s m args below meth c H1 locs1 cells slots Q (F0 m (pc + 3) ls rest)) : W p l e R s m args below meth c H locs cells slots Q (F0 m pc ls st0) :=
  m_callv (va_runV (g := F0 m pc ls st0) F hM cw (m_preV hK hP hD isC hnd hC h0 hc) rfl hn hl hst (lv_room hW) hdg hf) hP hD hS isC hnd hC had ws' hset kk
end MRUN
def bI (b : Bool) : Int32 := if b then 1 else 0
section MRET
variable {p : Program} {l : Launch} {e : Env} {R : Room} {s : State} {m : MethodId} {args : Array Value} {below : List Frame} {meth : Method} {c : Code} {H : Heap} {locs : List Loc} {cells slots : Nat}
variable {pc : Nat} {ls : Array Slot} {cc : ByteArray} {D : va_G}
theorem m_ird {v r : Int32} (hx : p.tables.exec = Jvm.exec) (hb : c.code = cc) (hr : meth.sig.returnType = some .int) (hlocks : meth.locks = false) (he : v = r) (hdg : decode cc pc = .ok (.ireturn, 1)) : W p l e R s m args below meth c s.heap [] cells slots (MQ below (QcRead r) args s cells slots (fun _ => False)) (F0 m pc ls [.int v]) :=
  W.iret hx hb hr (fun t ht _ => ⟨by rw [he], ht⟩) (fun q h => by cases h) hdg hlocks
theorem m_zrd {v : Int32} {b2 : Bool} (hx : p.tables.exec = Jvm.exec) (hb : c.code = cc) (hr : meth.sig.returnType = some .boolean) (hlocks : meth.locks = false) (he : v = bI b2) (hdg : decode cc pc = .ok (.ireturn, 1)) : W p l e R s m args below meth c s.heap [] cells slots (MQ below (QcRead (bI b2)) args s cells slots (fun _ => False)) (F0 m pc ls [.int v]) :=
  W.zret hx hb hr (by rw [he]; cases b2 <;> rfl) (fun t ht _ => ⟨by rw [he], ht⟩) (fun q h => by cases h) hdg hlocks
theorem m_iwr {S : Type} {post : Int32 → S → Prop} {Wf : S → va_W} {A : Nat → Prop} {v : Int32} (hx : p.tables.exec = Jvm.exec) (hb : c.code = cc) (hr : meth.sig.returnType = some .int) (hlocks : meth.locks = false) (u : S) (hp : post v u) (hP : va_P D vwCl (Wf u) H) (hS : va_S A s.heap H locs) (hdg : decode cc pc = .ok (.ireturn, 1)) : W p l e R s m args below meth c H locs cells slots (MQ below (mQi D A post Wf) args s cells slots A) (F0 m pc ls [.int v]) :=
  W.iret hx hb hr (fun t ht _ => ⟨⟨v, u, rfl, hp, by rw [ht]; exact hP⟩, hS.F ht⟩) hS.2.2 hdg hlocks
theorem m_zwr {S : Type} {post : Int32 → S → Prop} {Wf : S → va_W} {A : Nat → Prop} {v : Int32} (hx : p.tables.exec = Jvm.exec) (hb : c.code = cc) (hr : meth.sig.returnType = some .boolean) (hlocks : meth.locks = false) (u : S) (hv : v = 0 ∨ v = 1) (hp : post v u) (hP : va_P D vwCl (Wf u) H) (hS : va_S A s.heap H locs) (hdg : decode cc pc = .ok (.ireturn, 1)) : W p l e R s m args below meth c H locs cells slots (MQ below (mQi D A post Wf) args s cells slots A) (F0 m pc ls [.int v]) :=
  W.zret hx hb hr (by rcases hv with h | h <;> (rw [h]; rfl)) (fun t ht _ => ⟨⟨v, u, rfl, hp, by rw [ht]; exact hP⟩, hS.F ht⟩) hS.2.2 hdg hlocks
theorem m_vwr {S : Type} {post : S → Prop} {Wf : S → va_W} {A : Nat → Prop} (hx : p.tables.exec = Jvm.exec) (hb : c.code = cc) (hr : meth.sig.returnType = none) (hlocks : meth.locks = false) (u : S) (hp : post u) (hP : va_P D vwCl (Wf u) H) (hS : va_S A s.heap H locs) (hdg : decode cc pc = .ok (.return_, 1)) : W p l e R s m args below meth c H locs cells slots (MQ below (mQv D A post Wf) args s cells slots A) (F0 m pc ls []) :=
  W.vret hx hb hr (fun t ht _ => ⟨⟨u, rfl, hp, by rw [ht]; exact hP⟩, hS.F ht⟩) hS.2.2 hdg hlocks
end MRET
