section
-- ===== PART A: goes FIRST, ahead of the names: the tables' words, and 'selects' of the private methods out of them =====
/-- a private method of a class that the tables say can be made, by its rows of tables_1 -/
def lw_okq (q : MethodName × Nat) : Prop := (q.1.cls ≠ "java/lang/invoke/MethodHandle" ∧ q.1.cls ≠ "java/lang/invoke/VarHandle") ∧ Cond.instantiable q.1.cls q.2 ∈ tables_1 ∧ Cond.privateMethod q.1 ∈ tables_1 ∧ Cond.instanceMethod q.1 ∈ tables_1
theorem lw_p0 : lw_okq (⟨"SameAgain", "refusalIn", "(IZ)I"⟩, 12) := ⟨⟨by decide +kernel, by decide +kernel⟩, List.mem_of_getElem? (i := 14) (by decide +kernel), List.mem_of_getElem? (i := 321) (by decide +kernel), List.mem_of_getElem? (i := 322) (by decide +kernel)⟩
theorem lw_p1 : lw_okq (⟨"SameAgain$Likeness", "linesAlike", "(IIIII)I"⟩, 6) := ⟨⟨by decide +kernel, by decide +kernel⟩, List.mem_of_getElem? (i := 42) (by decide +kernel), List.mem_of_getElem? (i := 337) (by decide +kernel), List.mem_of_getElem? (i := 338) (by decide +kernel)⟩
theorem lw_p2 : lw_okq (⟨"SameAgain$Likeness", "lineFits", "(IIIII)Z"⟩, 6) := ⟨⟨by decide +kernel, by decide +kernel⟩, List.mem_of_getElem? (i := 42) (by decide +kernel), List.mem_of_getElem? (i := 345) (by decide +kernel), List.mem_of_getElem? (i := 346) (by decide +kernel)⟩
theorem lw_p3 : lw_okq (⟨"SameAgain$Likeness", "signFits", "(III)Z"⟩, 6) := ⟨⟨by decide +kernel, by decide +kernel⟩, List.mem_of_getElem? (i := 42) (by decide +kernel), List.mem_of_getElem? (i := 351) (by decide +kernel), List.mem_of_getElem? (i := 352) (by decide +kernel)⟩
theorem lw_p4 : lw_okq (⟨"SameAgain$Likeness", "setReach", "(III)V"⟩, 6) := ⟨⟨by decide +kernel, by decide +kernel⟩, List.mem_of_getElem? (i := 42) (by decide +kernel), List.mem_of_getElem? (i := 374) (by decide +kernel), List.mem_of_getElem? (i := 375) (by decide +kernel)⟩
theorem lw_p5 : lw_okq (⟨"SameAgain$Likeness", "reachOf", "(II)I"⟩, 6) := ⟨⟨by decide +kernel, by decide +kernel⟩, List.mem_of_getElem? (i := 42) (by decide +kernel), List.mem_of_getElem? (i := 383) (by decide +kernel), List.mem_of_getElem? (i := 384) (by decide +kernel)⟩
theorem lw_p6 : lw_okq (⟨"SameAgain$Procedure", "take", "(II)V"⟩, 9) := ⟨⟨by decide +kernel, by decide +kernel⟩, List.mem_of_getElem? (i := 88) (by decide +kernel), List.mem_of_getElem? (i := 434) (by decide +kernel), List.mem_of_getElem? (i := 435) (by decide +kernel)⟩
theorem lw_p7 : lw_okq (⟨"SameAgain$Procedure", "countTold", "(I)V"⟩, 9) := ⟨⟨by decide +kernel, by decide +kernel⟩, List.mem_of_getElem? (i := 88) (by decide +kernel), List.mem_of_getElem? (i := 438) (by decide +kernel), List.mem_of_getElem? (i := 439) (by decide +kernel)⟩
theorem lw_p8 : lw_okq (⟨"SameAgain$Procedure", "signsOfLine", "(I)I"⟩, 9) := ⟨⟨by decide +kernel, by decide +kernel⟩, List.mem_of_getElem? (i := 88) (by decide +kernel), List.mem_of_getElem? (i := 442) (by decide +kernel), List.mem_of_getElem? (i := 443) (by decide +kernel)⟩
theorem lw_p9 : lw_okq (⟨"SameAgain$Procedure", "differs", "(II)Z"⟩, 9) := ⟨⟨by decide +kernel, by decide +kernel⟩, List.mem_of_getElem? (i := 88) (by decide +kernel), List.mem_of_getElem? (i := 447) (by decide +kernel), List.mem_of_getElem? (i := 448) (by decide +kernel)⟩
theorem lw_p10 : lw_okq (⟨"SameAgain$Procedure", "stoodAhead", "(II)Z"⟩, 9) := ⟨⟨by decide +kernel, by decide +kernel⟩, List.mem_of_getElem? (i := 88) (by decide +kernel), List.mem_of_getElem? (i := 452) (by decide +kernel), List.mem_of_getElem? (i := 453) (by decide +kernel)⟩
theorem lw_p11 : lw_okq (⟨"SameAgain$Procedure", "hasSameAtBoth", "(IIII)Z"⟩, 9) := ⟨⟨by decide +kernel, by decide +kernel⟩, List.mem_of_getElem? (i := 88) (by decide +kernel), List.mem_of_getElem? (i := 456) (by decide +kernel), List.mem_of_getElem? (i := 457) (by decide +kernel)⟩
theorem lw_p12 : lw_okq (⟨"SameAgain$Plan", "note", "(II)V"⟩, 9) := ⟨⟨by decide +kernel, by decide +kernel⟩, List.mem_of_getElem? (i := 128) (by decide +kernel), List.mem_of_getElem? (i := 471) (by decide +kernel), List.mem_of_getElem? (i := 472) (by decide +kernel)⟩
theorem lw_p13 : lw_okq (⟨"SameAgain", "refusalBehind", "(IZ)I"⟩, 12) := ⟨⟨by decide +kernel, by decide +kernel⟩, List.mem_of_getElem? (i := 14) (by decide +kernel), List.mem_of_getElem? (i := 524) (by decide +kernel), List.mem_of_getElem? (i := 525) (by decide +kernel)⟩
theorem lw_p14 : lw_okq (⟨"SameAgain", "wasMendedInFirstAlone", "(III)Z"⟩, 12) := ⟨⟨by decide +kernel, by decide +kernel⟩, List.mem_of_getElem? (i := 14) (by decide +kernel), List.mem_of_getElem? (i := 528) (by decide +kernel), List.mem_of_getElem? (i := 529) (by decide +kernel)⟩
theorem lw_p15 : lw_okq (⟨"SameAgainModel", "put", "(II)V"⟩, 19) := ⟨⟨by decide +kernel, by decide +kernel⟩, List.mem_of_getElem? (i := 579) (by decide +kernel), List.mem_of_getElem? (i := 659) (by decide +kernel), List.mem_of_getElem? (i := 660) (by decide +kernel)⟩
def lw_privs_1 : List (MethodName × Nat) := [(⟨"SameAgain", "refusalIn", "(IZ)I"⟩, 12), (⟨"SameAgain$Likeness", "linesAlike", "(IIIII)I"⟩, 6), (⟨"SameAgain$Likeness", "lineFits", "(IIIII)Z"⟩, 6), (⟨"SameAgain$Likeness", "signFits", "(III)Z"⟩, 6), (⟨"SameAgain$Likeness", "setReach", "(III)V"⟩, 6), (⟨"SameAgain$Likeness", "reachOf", "(II)I"⟩, 6), (⟨"SameAgain$Procedure", "take", "(II)V"⟩, 9), (⟨"SameAgain$Procedure", "countTold", "(I)V"⟩, 9), (⟨"SameAgain$Procedure", "signsOfLine", "(I)I"⟩, 9), (⟨"SameAgain$Procedure", "differs", "(II)Z"⟩, 9), (⟨"SameAgain$Procedure", "stoodAhead", "(II)Z"⟩, 9), (⟨"SameAgain$Procedure", "hasSameAtBoth", "(IIII)Z"⟩, 9), (⟨"SameAgain$Plan", "note", "(II)V"⟩, 9), (⟨"SameAgain", "refusalBehind", "(IZ)I"⟩, 12), (⟨"SameAgain", "wasMendedInFirstAlone", "(III)Z"⟩, 12), (⟨"SameAgainModel", "put", "(II)V"⟩, 19)]
theorem lw_r1 : ∀ q ∈ lw_privs_1, lw_okq q := List.forall_mem_cons.mpr ⟨lw_p0, List.forall_mem_cons.mpr ⟨lw_p1, List.forall_mem_cons.mpr ⟨lw_p2, List.forall_mem_cons.mpr ⟨lw_p3, List.forall_mem_cons.mpr ⟨lw_p4, List.forall_mem_cons.mpr ⟨lw_p5, List.forall_mem_cons.mpr ⟨lw_p6, List.forall_mem_cons.mpr ⟨lw_p7, List.forall_mem_cons.mpr ⟨lw_p8, List.forall_mem_cons.mpr ⟨lw_p9, List.forall_mem_cons.mpr ⟨lw_p10, List.forall_mem_cons.mpr ⟨lw_p11, List.forall_mem_cons.mpr ⟨lw_p12, List.forall_mem_cons.mpr ⟨lw_p13, List.forall_mem_cons.mpr ⟨lw_p14, List.forall_mem_cons.mpr ⟨lw_p15, fun _ h => absurd h List.not_mem_nil⟩⟩⟩⟩⟩⟩⟩⟩⟩⟩⟩⟩⟩⟩⟩⟩
theorem lw_p16 : lw_okq (⟨"SameAgainModel", "isLine", "(I)Z"⟩, 19) := ⟨⟨by decide +kernel, by decide +kernel⟩, List.mem_of_getElem? (i := 579) (by decide +kernel), List.mem_of_getElem? (i := 667) (by decide +kernel), List.mem_of_getElem? (i := 668) (by decide +kernel)⟩
theorem lw_p17 : lw_okq (⟨"SameAgainModel", "isVersion", "(I)Z"⟩, 19) := ⟨⟨by decide +kernel, by decide +kernel⟩, List.mem_of_getElem? (i := 579) (by decide +kernel), List.mem_of_getElem? (i := 679) (by decide +kernel), List.mem_of_getElem? (i := 680) (by decide +kernel)⟩
theorem lw_p18 : lw_okq (⟨"SameAgainModel", "size", "(II)I"⟩, 19) := ⟨⟨by decide +kernel, by decide +kernel⟩, List.mem_of_getElem? (i := 579) (by decide +kernel), List.mem_of_getElem? (i := 683) (by decide +kernel), List.mem_of_getElem? (i := 684) (by decide +kernel)⟩
theorem lw_p19 : lw_okq (⟨"SameAgainModel", "signAt", "(III)I"⟩, 19) := ⟨⟨by decide +kernel, by decide +kernel⟩, List.mem_of_getElem? (i := 579) (by decide +kernel), List.mem_of_getElem? (i := 687) (by decide +kernel), List.mem_of_getElem? (i := 688) (by decide +kernel)⟩
theorem lw_p20 : lw_okq (⟨"SameAgainModel", "rowsAlike", "(IIIII)Z"⟩, 19) := ⟨⟨by decide +kernel, by decide +kernel⟩, List.mem_of_getElem? (i := 579) (by decide +kernel), List.mem_of_getElem? (i := 707) (by decide +kernel), List.mem_of_getElem? (i := 708) (by decide +kernel)⟩
theorem lw_p21 : lw_okq (⟨"SameAgainModel", "isThere", "(II)Z"⟩, 19) := ⟨⟨by decide +kernel, by decide +kernel⟩, List.mem_of_getElem? (i := 579) (by decide +kernel), List.mem_of_getElem? (i := 711) (by decide +kernel), List.mem_of_getElem? (i := 712) (by decide +kernel)⟩
theorem lw_p22 : lw_okq (⟨"SameAgainModel", "areAlike", "(III)Z"⟩, 19) := ⟨⟨by decide +kernel, by decide +kernel⟩, List.mem_of_getElem? (i := 579) (by decide +kernel), List.mem_of_getElem? (i := 715) (by decide +kernel), List.mem_of_getElem? (i := 716) (by decide +kernel)⟩
theorem lw_p23 : lw_okq (⟨"SameAgainModel", "goBeside", "(II)Z"⟩, 19) := ⟨⟨by decide +kernel, by decide +kernel⟩, List.mem_of_getElem? (i := 579) (by decide +kernel), List.mem_of_getElem? (i := 722) (by decide +kernel), List.mem_of_getElem? (i := 723) (by decide +kernel)⟩
theorem lw_p24 : lw_okq (⟨"SameAgainModel", "likeOf", "(IIII)I"⟩, 19) := ⟨⟨by decide +kernel, by decide +kernel⟩, List.mem_of_getElem? (i := 579) (by decide +kernel), List.mem_of_getElem? (i := 737) (by decide +kernel), List.mem_of_getElem? (i := 738) (by decide +kernel)⟩
theorem lw_p25 : lw_okq (⟨"SameAgainModel", "takenOf", "(II)I"⟩, 19) := ⟨⟨by decide +kernel, by decide +kernel⟩, List.mem_of_getElem? (i := 579) (by decide +kernel), List.mem_of_getElem? (i := 759) (by decide +kernel), List.mem_of_getElem? (i := 760) (by decide +kernel)⟩
theorem lw_p26 : lw_okq (⟨"SameAgainModel", "toldOf", "(III)I"⟩, 19) := ⟨⟨by decide +kernel, by decide +kernel⟩, List.mem_of_getElem? (i := 579) (by decide +kernel), List.mem_of_getElem? (i := 763) (by decide +kernel), List.mem_of_getElem? (i := 764) (by decide +kernel)⟩
theorem lw_p27 : lw_okq (⟨"SameAgainModel", "isTold", "(IIII)Z"⟩, 19) := ⟨⟨by decide +kernel, by decide +kernel⟩, List.mem_of_getElem? (i := 579) (by decide +kernel), List.mem_of_getElem? (i := 767) (by decide +kernel), List.mem_of_getElem? (i := 768) (by decide +kernel)⟩
theorem lw_p28 : lw_okq (⟨"SameAgainModel", "isSame", "(IIII)Z"⟩, 19) := ⟨⟨by decide +kernel, by decide +kernel⟩, List.mem_of_getElem? (i := 579) (by decide +kernel), List.mem_of_getElem? (i := 771) (by decide +kernel), List.mem_of_getElem? (i := 772) (by decide +kernel)⟩
theorem lw_p29 : lw_okq (⟨"SameAgainModel", "areOne", "(IIIIII)Z"⟩, 19) := ⟨⟨by decide +kernel, by decide +kernel⟩, List.mem_of_getElem? (i := 579) (by decide +kernel), List.mem_of_getElem? (i := 775) (by decide +kernel), List.mem_of_getElem? (i := 776) (by decide +kernel)⟩
theorem lw_p30 : lw_okq (⟨"SameAgainModel", "savesOf", "(III)I"⟩, 19) := ⟨⟨by decide +kernel, by decide +kernel⟩, List.mem_of_getElem? (i := 579) (by decide +kernel), List.mem_of_getElem? (i := 779) (by decide +kernel), List.mem_of_getElem? (i := 780) (by decide +kernel)⟩
theorem lw_p31 : lw_okq (⟨"SameAgainModel", "laySavings", "(II)V"⟩, 19) := ⟨⟨by decide +kernel, by decide +kernel⟩, List.mem_of_getElem? (i := 579) (by decide +kernel), List.mem_of_getElem? (i := 787) (by decide +kernel), List.mem_of_getElem? (i := 788) (by decide +kernel)⟩
def lw_privs_2 : List (MethodName × Nat) := [(⟨"SameAgainModel", "isLine", "(I)Z"⟩, 19), (⟨"SameAgainModel", "isVersion", "(I)Z"⟩, 19), (⟨"SameAgainModel", "size", "(II)I"⟩, 19), (⟨"SameAgainModel", "signAt", "(III)I"⟩, 19), (⟨"SameAgainModel", "rowsAlike", "(IIIII)Z"⟩, 19), (⟨"SameAgainModel", "isThere", "(II)Z"⟩, 19), (⟨"SameAgainModel", "areAlike", "(III)Z"⟩, 19), (⟨"SameAgainModel", "goBeside", "(II)Z"⟩, 19), (⟨"SameAgainModel", "likeOf", "(IIII)I"⟩, 19), (⟨"SameAgainModel", "takenOf", "(II)I"⟩, 19), (⟨"SameAgainModel", "toldOf", "(III)I"⟩, 19), (⟨"SameAgainModel", "isTold", "(IIII)Z"⟩, 19), (⟨"SameAgainModel", "isSame", "(IIII)Z"⟩, 19), (⟨"SameAgainModel", "areOne", "(IIIIII)Z"⟩, 19), (⟨"SameAgainModel", "savesOf", "(III)I"⟩, 19), (⟨"SameAgainModel", "laySavings", "(II)V"⟩, 19)]
theorem lw_r2 : ∀ q ∈ lw_privs_2, lw_okq q := List.forall_mem_cons.mpr ⟨lw_p16, List.forall_mem_cons.mpr ⟨lw_p17, List.forall_mem_cons.mpr ⟨lw_p18, List.forall_mem_cons.mpr ⟨lw_p19, List.forall_mem_cons.mpr ⟨lw_p20, List.forall_mem_cons.mpr ⟨lw_p21, List.forall_mem_cons.mpr ⟨lw_p22, List.forall_mem_cons.mpr ⟨lw_p23, List.forall_mem_cons.mpr ⟨lw_p24, List.forall_mem_cons.mpr ⟨lw_p25, List.forall_mem_cons.mpr ⟨lw_p26, List.forall_mem_cons.mpr ⟨lw_p27, List.forall_mem_cons.mpr ⟨lw_p28, List.forall_mem_cons.mpr ⟨lw_p29, List.forall_mem_cons.mpr ⟨lw_p30, List.forall_mem_cons.mpr ⟨lw_p31, fun _ h => absurd h List.not_mem_nil⟩⟩⟩⟩⟩⟩⟩⟩⟩⟩⟩⟩⟩⟩⟩⟩
theorem lw_p32 : lw_okq (⟨"SameAgainModel", "mendsOf", "(IIII)I"⟩, 19) := ⟨⟨by decide +kernel, by decide +kernel⟩, List.mem_of_getElem? (i := 579) (by decide +kernel), List.mem_of_getElem? (i := 807) (by decide +kernel), List.mem_of_getElem? (i := 808) (by decide +kernel)⟩
theorem lw_p33 : lw_okq (⟨"SameAgainModel", "isOther", "(II)Z"⟩, 19) := ⟨⟨by decide +kernel, by decide +kernel⟩, List.mem_of_getElem? (i := 579) (by decide +kernel), List.mem_of_getElem? (i := 811) (by decide +kernel), List.mem_of_getElem? (i := 812) (by decide +kernel)⟩
theorem lw_p34 : lw_okq (⟨"SameAgainModel", "farOf", "(III)I"⟩, 19) := ⟨⟨by decide +kernel, by decide +kernel⟩, List.mem_of_getElem? (i := 579) (by decide +kernel), List.mem_of_getElem? (i := 823) (by decide +kernel), List.mem_of_getElem? (i := 824) (by decide +kernel)⟩
def lw_privs_3 : List (MethodName × Nat) := [(⟨"SameAgainModel", "mendsOf", "(IIII)I"⟩, 19), (⟨"SameAgainModel", "isOther", "(II)Z"⟩, 19), (⟨"SameAgainModel", "farOf", "(III)I"⟩, 19)]
theorem lw_r3 : ∀ q ∈ lw_privs_3, lw_okq q := List.forall_mem_cons.mpr ⟨lw_p32, List.forall_mem_cons.mpr ⟨lw_p33, List.forall_mem_cons.mpr ⟨lw_p34, fun _ h => absurd h List.not_mem_nil⟩⟩⟩
def lw_privs : List (MethodName × Nat) := lw_privs_1 ++ (lw_privs_2 ++ (lw_privs_3))
def lw_tbl : List Cond := k2_sels lw_privs ++ tables_1
theorem lw_privs_ok : ∀ q ∈ lw_privs, lw_okq q := by
  show ∀ q ∈ lw_privs_1 ++ (lw_privs_2 ++ (lw_privs_3)), lw_okq q
  exact List.forall_mem_append.mpr ⟨lw_r1, List.forall_mem_append.mpr ⟨lw_r2, lw_r3⟩⟩
end
section
/-! ===== BEGIN words of one list among another's, by their places ===== -/
theorem goodIn_r {big : List Cond} (ws : List Cond) (ps : List Nat) (hp : ws = ps.filterMap (fun i => big[i]?)) (h : ws.all goodWord = true) : GoodIn big ws := by
  intro w hw
  have h1 := List.all_eq_true.mp h w hw
  rw [hp] at hw
  obtain ⟨i, -, hi⟩ := List.mem_filterMap.mp hw
  have hm : w ∈ big := by first | exact List.mem_of_getElem? hi | exact List.getElem?_mem hi
  exact ⟨hm, good_of_word h1⟩
theorem goodIn_app {big a b : List Cond} (ha : GoodIn big a) (hb : GoodIn big b) : GoodIn big (a ++ b) := fun w h => (List.mem_append.mp h).elim (ha w) (hb w)
theorem goodIn_ca {big a b : List Cond} {c : Cond} (ha : GoodIn big (c :: a)) (hb : GoodIn big b) : GoodIn big (c :: (a ++ b)) := fun w h => (List.mem_cons.mp h).elim (fun e => ha w (List.mem_cons.mpr (Or.inl e))) (fun h => (List.mem_append.mp h).elim (fun h => ha w (List.mem_cons.mpr (Or.inr h))) (hb w))
theorem goodIn_sub {big ws : List Cond} (hm : ∀ w ∈ ws, w ∈ big) (h : ws.all goodWord = true) : GoodIn big ws := fun w hw => ⟨hm w hw, good_of_word (List.all_eq_true.mp h w hw)⟩
/-! ===== END ===== -/

/-! ===== BEGIN printed: names, fields, word lists, decode rows ===== -/
def RX0 : String := "SameAgain$Code"
def TX0 : u_T := fun k => match k with
  | 0 => ("SameAgain$Code", "signs", "[I", true)
  | 1 => ("SameAgain$Code", "sizes", "[I", true)
  | 2 => ("SameAgain$Code", "lineCount", "I", false)
  | _ => ("SameAgain$Code", "versionCount", "I", false)
def tyX0 : Nat → FieldType := fun k => match k with
  | 0 => .array .int
  | 1 => .array .int
  | 2 => .int
  | _ => .int
abbrev wsX00 : List Cond := u_ws RX0 TX0 4
theorem nmX0 : ∀ a, a < 4 → ∀ b, b < 4 → a ≠ b → (TX0 a).2.1 ≠ (TX0 b).2.1 := by decide +kernel
theorem tyX0_ok : ∀ k, k < 4 → parseFieldDescriptor (TX0 k).2.2.1 = some (tyX0 k) := by decide +kernel
abbrev cX0_init : ByteArray := prog_2_method_1_code
def yX0_init : MethodName := ⟨RX0, "<init>", "()V"⟩
abbrev cX0_lines : ByteArray := prog_2_method_2_code
def yX0_lines : MethodName := ⟨RX0, "lines", "()I"⟩
abbrev cX0_versions : ByteArray := prog_2_method_3_code
def yX0_versions : MethodName := ⟨RX0, "versions", "()I"⟩
abbrev cX0_hasVersion : ByteArray := prog_2_method_4_code
def yX0_hasVersion : MethodName := ⟨RX0, "hasVersion", "(I)Z"⟩
abbrev cX0_hasLine : ByteArray := prog_2_method_5_code
def yX0_hasLine : MethodName := ⟨RX0, "hasLine", "(I)Z"⟩
abbrev cX0_sizeOf : ByteArray := prog_2_method_6_code
def yX0_sizeOf : MethodName := ⟨RX0, "sizeOf", "(II)I"⟩
abbrev cX0_signAt : ByteArray := prog_2_method_7_code
def yX0_signAt : MethodName := ⟨RX0, "signAt", "(III)I"⟩
abbrev cX0_write : ByteArray := prog_2_method_8_code
def yX0_write : MethodName := ⟨RX0, "write", "(II[II)V"⟩
abbrev cX0_addLine : ByteArray := prog_2_method_9_code
def yX0_addLine : MethodName := ⟨RX0, "addLine", "([II)V"⟩
abbrev cX0_addVersion : ByteArray := prog_2_method_10_code
def yX0_addVersion : MethodName := ⟨RX0, "addVersion", "()V"⟩
abbrev cX0_becomeAs : ByteArray := prog_2_method_11_code
def yX0_becomeAs : MethodName := ⟨RX0, "becomeAs", "(LSameAgain$Code;)V"⟩
abbrev cX0_staysAsItIs : ByteArray := prog_2_method_12_code
def yX0_staysAsItIs : MethodName := ⟨RX0, "staysAsItIs", "(II)Z"⟩
def RX1 : String := "SameAgain$Distance"
def TX1 : u_T := fun k => match k with
  | 0 => ("SameAgain$Distance", "code", "LSameAgain$Code;", true)
  | _ => ("SameAgain$Distance", "costs", "[I", true)
def tyX1 : Nat → FieldType := fun k => match k with
  | 0 => .object "SameAgain$Code"
  | _ => .array .int
abbrev wsX10 : List Cond := u_ws RX1 TX1 2
theorem nmX1 : ∀ a, a < 2 → ∀ b, b < 2 → a ≠ b → (TX1 a).2.1 ≠ (TX1 b).2.1 := by decide +kernel
theorem tyX1_ok : ∀ k, k < 2 → parseFieldDescriptor (TX1 k).2.2.1 = some (tyX1 k) := by decide +kernel
abbrev cX1_init : ByteArray := prog_3_method_1_code
def yX1_init : MethodName := ⟨RX1, "<init>", "(LSameAgain$Code;)V"⟩
abbrev cX1_between : ByteArray := prog_3_method_2_code
def yX1_between : MethodName := ⟨RX1, "between", "(III)I"⟩
abbrev cX1_swapCost : ByteArray := prog_3_method_3_code
def yX1_swapCost : MethodName := ⟨RX1, "swapCost", "(II)I"⟩
def RX2 : String := "SameAgain$Likeness"
def TX2 : u_T := fun k => match k with
  | 0 => ("SameAgain$Likeness", "code", "LSameAgain$Code;", true)
  | 1 => ("SameAgain$Likeness", "pairing", "LSameAgain$Pairing;", true)
  | 2 => ("SameAgain$Likeness", "reach", "[I", true)
  | 3 => ("SameAgain$Likeness", "longestLength", "I", false)
  | 4 => ("SameAgain$Likeness", "longestOne", "I", false)
  | _ => ("SameAgain$Likeness", "longestOther", "I", false)
def tyX2 : Nat → FieldType := fun k => match k with
  | 0 => .object "SameAgain$Code"
  | 1 => .object "SameAgain$Pairing"
  | 2 => .array .int
  | 3 => .int
  | 4 => .int
  | _ => .int
abbrev wsX20 : List Cond := u_ws RX2 TX2 6
theorem nmX2 : ∀ a, a < 6 → ∀ b, b < 6 → a ≠ b → (TX2 a).2.1 ≠ (TX2 b).2.1 := by decide +kernel
theorem tyX2_ok : ∀ k, k < 6 → parseFieldDescriptor (TX2 k).2.2.1 = some (tyX2 k) := by decide +kernel
abbrev cX2_init : ByteArray := prog_4_method_1_code
def yX2_init : MethodName := ⟨RX2, "<init>", "(LSameAgain$Code;)V"⟩
abbrev cX2_rowsAlike : ByteArray := prog_4_method_2_code
def yX2_rowsAlike : MethodName := ⟨RX2, "rowsAlike", "(IIIII)Z"⟩
abbrev cX2_areThere : ByteArray := prog_4_method_3_code
def yX2_areThere : MethodName := ⟨RX2, "areThere", "(III)Z"⟩
abbrev cX2_rowsAlikeBut : ByteArray := prog_4_method_4_code
def yX2_rowsAlikeBut : MethodName := ⟨RX2, "rowsAlikeBut", "(IIIII)Z"⟩
abbrev cX2_linesAlike : ByteArray := prog_4_method_5_code
def yX2_linesAlike : MethodName := ⟨RX2, "linesAlike", "(IIIII)I"⟩
abbrev cX2_lineFits : ByteArray := prog_4_method_6_code
def yX2_lineFits : MethodName := ⟨RX2, "lineFits", "(IIIII)Z"⟩
abbrev cX2_signFits : ByteArray := prog_4_method_7_code
def yX2_signFits : MethodName := ⟨RX2, "signFits", "(III)Z"⟩
abbrev cX2_compareAll : ByteArray := prog_4_method_8_code
def yX2_compareAll : MethodName := ⟨RX2, "compareAll", "(II)V"⟩
abbrev cX2_setReach : ByteArray := prog_4_method_9_code
def yX2_setReach : MethodName := ⟨RX2, "setReach", "(III)V"⟩
abbrev cX2_reachOf : ByteArray := prog_4_method_10_code
def yX2_reachOf : MethodName := ⟨RX2, "reachOf", "(II)I"⟩
abbrev cX2_seekLongest : ByteArray := prog_4_method_11_code
def yX2_seekLongest : MethodName := ⟨RX2, "seekLongest", "()V"⟩
abbrev cX2_startsLike : ByteArray := prog_4_method_12_code
def yX2_startsLike : MethodName := ⟨RX2, "startsLike", "(II)I"⟩
abbrev cX2_isLeastOfGroup : ByteArray := prog_4_method_13_code
def yX2_isLeastOfGroup : MethodName := ⟨RX2, "isLeastOfGroup", "(II)Z"⟩
abbrev cX2_leastOf : ByteArray := prog_4_method_14_code
def yX2_leastOf : MethodName := ⟨RX2, "leastOf", "(I)I"⟩
abbrev cX2_isWithinLonger : ByteArray := prog_4_method_15_code
def yX2_isWithinLonger : MethodName := ⟨RX2, "isWithinLonger", "(II)Z"⟩
def RX3 : String := "SameAgain$Pairing"
def TX3 : u_T := fun k => match k with
  | 0 => ("SameAgain$Pairing", "partners", "[I", true)
  | 1 => ("SameAgain$Pairing", "namesOfOne", "I", false)
  | _ => ("SameAgain$Pairing", "namesOfOther", "I", false)
def tyX3 : Nat → FieldType := fun k => match k with
  | 0 => .array .int
  | 1 => .int
  | _ => .int
abbrev wsX30 : List Cond := u_ws RX3 TX3 3
theorem nmX3 : ∀ a, a < 3 → ∀ b, b < 3 → a ≠ b → (TX3 a).2.1 ≠ (TX3 b).2.1 := by decide +kernel
theorem tyX3_ok : ∀ k, k < 3 → parseFieldDescriptor (TX3 k).2.2.1 = some (tyX3 k) := by decide +kernel
abbrev cX3_init : ByteArray := prog_5_method_1_code
def yX3_init : MethodName := ⟨RX3, "<init>", "()V"⟩
abbrev cX3_clear : ByteArray := prog_5_method_2_code
def yX3_clear : MethodName := ⟨RX3, "clear", "()V"⟩
abbrev cX3_join : ByteArray := prog_5_method_3_code
def yX3_join : MethodName := ⟨RX3, "join", "(II)Z"⟩
abbrev cX3_hasPartner : ByteArray := prog_5_method_4_code
def yX3_hasPartner : MethodName := ⟨RX3, "hasPartner", "(I)Z"⟩
abbrev cX3_renamed : ByteArray := prog_5_method_5_code
def yX3_renamed : MethodName := ⟨RX3, "renamed", "(I)I"⟩
abbrev cX3_firstNameThatFits : ByteArray := prog_5_method_6_code
def yX3_firstNameThatFits : MethodName := ⟨RX3, "firstNameThatFits", "(I)I"⟩
def RX4 : String := "SameAgain$Plan"
def TX4 : u_T := fun k => match k with
  | 0 => ("SameAgain$Plan", "code", "LSameAgain$Code;", true)
  | 1 => ("SameAgain$Plan", "likeness", "LSameAgain$Likeness;", true)
  | 2 => ("SameAgain$Plan", "procedure", "LSameAgain$Procedure;", true)
  | 3 => ("SameAgain$Plan", "saves", "[I", true)
  | 4 => ("SameAgain$Plan", "lines", "[I", true)
  | 5 => ("SameAgain$Plan", "count", "I", false)
  | 6 => ("SameAgain$Plan", "bestSaved", "I", false)
  | 7 => ("SameAgain$Plan", "bestStart", "I", false)
  | _ => ("SameAgain$Plan", "bestLength", "I", false)
def tyX4 : Nat → FieldType := fun k => match k with
  | 0 => .object "SameAgain$Code"
  | 1 => .object "SameAgain$Likeness"
  | 2 => .object "SameAgain$Procedure"
  | 3 => .array .int
  | 4 => .array .int
  | 5 => .int
  | 6 => .int
  | 7 => .int
  | _ => .int
abbrev wsX40 : List Cond := u_ws RX4 TX4 9
theorem nmX4 : ∀ a, a < 9 → ∀ b, b < 9 → a ≠ b → (TX4 a).2.1 ≠ (TX4 b).2.1 := by decide +kernel
theorem tyX4_ok : ∀ k, k < 9 → parseFieldDescriptor (TX4 k).2.2.1 = some (tyX4 k) := by decide +kernel
abbrev cX4_init : ByteArray := prog_6_method_1_code
def yX4_init : MethodName := ⟨RX4, "<init>", "(LSameAgain$Code;LSameAgain$Likeness;LSameAgain$Procedure;)V"⟩
abbrev cX4_lookAtAll : ByteArray := prog_6_method_2_code
def yX4_lookAtAll : MethodName := ⟨RX4, "lookAtAll", "(I)V"⟩
abbrev cX4_note : ByteArray := prog_6_method_3_code
def yX4_note : MethodName := ⟨RX4, "note", "(II)V"⟩
abbrev cX4_bestSumOfTwo : ByteArray := prog_6_method_4_code
def yX4_bestSumOfTwo : MethodName := ⟨RX4, "bestSumOfTwo", "()I"⟩
def RX5 : String := "SameAgain$Procedure"
def TX5 : u_T := fun k => match k with
  | 0 => ("SameAgain$Procedure", "code", "LSameAgain$Code;", true)
  | 1 => ("SameAgain$Procedure", "likeness", "LSameAgain$Likeness;", true)
  | 2 => ("SameAgain$Procedure", "starts", "[I", true)
  | 3 => ("SameAgain$Procedure", "versionAt", "I", false)
  | 4 => ("SameAgain$Procedure", "takenCount", "I", false)
  | 5 => ("SameAgain$Procedure", "takenStarts", "I", false)
  | 6 => ("SameAgain$Procedure", "takenLines", "I", false)
  | 7 => ("SameAgain$Procedure", "toldCount", "I", false)
  | _ => ("SameAgain$Procedure", "saved", "I", false)
def tyX5 : Nat → FieldType := fun k => match k with
  | 0 => .object "SameAgain$Code"
  | 1 => .object "SameAgain$Likeness"
  | 2 => .array .int
  | 3 => .int
  | 4 => .int
  | 5 => .int
  | 6 => .int
  | 7 => .int
  | _ => .int
abbrev wsX50 : List Cond := u_ws RX5 TX5 9
theorem nmX5 : ∀ a, a < 9 → ∀ b, b < 9 → a ≠ b → (TX5 a).2.1 ≠ (TX5 b).2.1 := by decide +kernel
theorem tyX5_ok : ∀ k, k < 9 → parseFieldDescriptor (TX5 k).2.2.1 = some (tyX5 k) := by decide +kernel
abbrev cX5_init : ByteArray := prog_7_method_1_code
def yX5_init : MethodName := ⟨RX5, "<init>", "(LSameAgain$Code;LSameAgain$Likeness;)V"⟩
abbrev cX5_pullOut : ByteArray := prog_7_method_2_code
def yX5_pullOut : MethodName := ⟨RX5, "pullOut", "(III)V"⟩
abbrev cX5_take : ByteArray := prog_7_method_3_code
def yX5_take : MethodName := ⟨RX5, "take", "(II)V"⟩
abbrev cX5_countTold : ByteArray := prog_7_method_4_code
def yX5_countTold : MethodName := ⟨RX5, "countTold", "(I)V"⟩
abbrev cX5_signsOfLine : ByteArray := prog_7_method_5_code
def yX5_signsOfLine : MethodName := ⟨RX5, "signsOfLine", "(I)I"⟩
abbrev cX5_differs : ByteArray := prog_7_method_6_code
def yX5_differs : MethodName := ⟨RX5, "differs", "(II)Z"⟩
abbrev cX5_stoodAhead : ByteArray := prog_7_method_7_code
def yX5_stoodAhead : MethodName := ⟨RX5, "stoodAhead", "(II)Z"⟩
abbrev cX5_hasSameAtBoth : ByteArray := prog_7_method_8_code
def yX5_hasSameAtBoth : MethodName := ⟨RX5, "hasSameAtBoth", "(IIII)Z"⟩
def RX6 : String := "SameAgain$Slip"
def TX6 : u_T := fun k => match k with
  | 0 => ("SameAgain$Slip", "code", "LSameAgain$Code;", true)
  | 1 => ("SameAgain$Slip", "likeness", "LSameAgain$Likeness;", true)
  | 2 => ("SameAgain$Slip", "place", "I", false)
  | _ => ("SameAgain$Slip", "name", "I", false)
def tyX6 : Nat → FieldType := fun k => match k with
  | 0 => .object "SameAgain$Code"
  | 1 => .object "SameAgain$Likeness"
  | 2 => .int
  | _ => .int
abbrev wsX60 : List Cond := u_ws RX6 TX6 4
theorem nmX6 : ∀ a, a < 4 → ∀ b, b < 4 → a ≠ b → (TX6 a).2.1 ≠ (TX6 b).2.1 := by decide +kernel
theorem tyX6_ok : ∀ k, k < 4 → parseFieldDescriptor (TX6 k).2.2.1 = some (tyX6 k) := by decide +kernel
abbrev cX6_init : ByteArray := prog_8_method_1_code
def yX6_init : MethodName := ⟨RX6, "<init>", "(LSameAgain$Code;LSameAgain$Likeness;)V"⟩
abbrev cX6_seek : ByteArray := prog_8_method_2_code
def yX6_seek : MethodName := ⟨RX6, "seek", "(IIII)V"⟩
def RX7 : String := "SameAgain"
def TX7 : u_T := fun k => match k with
  | 0 => ("SameAgain", "code", "LSameAgain$Code;", true)
  | 1 => ("SameAgain", "imageZero", "LSameAgain$Code;", true)
  | 2 => ("SameAgain", "imageOne", "LSameAgain$Code;", true)
  | 3 => ("SameAgain", "keptZero", "Z", false)
  | 4 => ("SameAgain", "keptOne", "Z", false)
  | 5 => ("SameAgain", "pad", "[I", true)
  | 6 => ("SameAgain", "padSize", "I", false)
  | 7 => ("SameAgain", "likeness", "LSameAgain$Likeness;", true)
  | 8 => ("SameAgain", "procedure", "LSameAgain$Procedure;", true)
  | 9 => ("SameAgain", "plan", "LSameAgain$Plan;", true)
  | 10 => ("SameAgain", "slip", "LSameAgain$Slip;", true)
  | _ => ("SameAgain", "distance", "LSameAgain$Distance;", true)
def tyX7 : Nat → FieldType := fun k => match k with
  | 0 => .object "SameAgain$Code"
  | 1 => .object "SameAgain$Code"
  | 2 => .object "SameAgain$Code"
  | 3 => .boolean
  | 4 => .boolean
  | 5 => .array .int
  | 6 => .int
  | 7 => .object "SameAgain$Likeness"
  | 8 => .object "SameAgain$Procedure"
  | 9 => .object "SameAgain$Plan"
  | 10 => .object "SameAgain$Slip"
  | _ => .object "SameAgain$Distance"
abbrev wsX70 : List Cond := u_ws RX7 TX7 12
theorem nmX7 : ∀ a, a < 12 → ∀ b, b < 12 → a ≠ b → (TX7 a).2.1 ≠ (TX7 b).2.1 := by decide +kernel
theorem tyX7_ok : ∀ k, k < 12 → parseFieldDescriptor (TX7 k).2.2.1 = some (tyX7 k) := by decide +kernel
abbrev cX7_init : ByteArray := prog_1_method_1_code
def yX7_init : MethodName := ⟨RX7, "<init>", "()V"⟩
abbrev cX7_say : ByteArray := prog_1_method_2_code
def yX7_say : MethodName := ⟨RX7, "say", "(I)I"⟩
abbrev cX7_wipe : ByteArray := prog_1_method_3_code
def yX7_wipe : MethodName := ⟨RX7, "wipe", "()I"⟩
abbrev cX7_line : ByteArray := prog_1_method_4_code
def yX7_line : MethodName := ⟨RX7, "line", "()I"⟩
abbrev cX7_change : ByteArray := prog_1_method_5_code
def yX7_change : MethodName := ⟨RX7, "change", "(I)I"⟩
abbrev cX7_version : ByteArray := prog_1_method_6_code
def yX7_version : MethodName := ⟨RX7, "version", "()I"⟩
abbrev cX7_sign : ByteArray := prog_1_method_7_code
def yX7_sign : MethodName := ⟨RX7, "sign", "(III)I"⟩
abbrev cX7_alike : ByteArray := prog_1_method_8_code
def yX7_alike : MethodName := ⟨RX7, "alike", "(IIIII)I"⟩
abbrev cX7_longest : ByteArray := prog_1_method_9_code
def yX7_longest : MethodName := ⟨RX7, "longest", "(III)I"⟩
abbrev cX7_like : ByteArray := prog_1_method_10_code
def yX7_like : MethodName := ⟨RX7, "like", "(IIII)I"⟩
abbrev cX7_groups : ByteArray := prog_1_method_11_code
def yX7_groups : MethodName := ⟨RX7, "groups", "(IIII)I"⟩
abbrev cX7_whole : ByteArray := prog_1_method_12_code
def yX7_whole : MethodName := ⟨RX7, "whole", "(IIII)I"⟩
abbrev cX7_pulled : ByteArray := prog_1_method_13_code
def yX7_pulled : MethodName := ⟨RX7, "pulled", "(IIIII)I"⟩
abbrev cX7_best : ByteArray := prog_1_method_14_code
def yX7_best : MethodName := ⟨RX7, "best", "(III)I"⟩
abbrev cX7_two : ByteArray := prog_1_method_15_code
def yX7_two : MethodName := ⟨RX7, "two", "(II)I"⟩
abbrev cX7_forgotten : ByteArray := prog_1_method_16_code
def yX7_forgotten : MethodName := ⟨RX7, "forgotten", "(IIIII)I"⟩
abbrev cX7_parted : ByteArray := prog_1_method_17_code
def yX7_parted : MethodName := ⟨RX7, "parted", "(IIII)I"⟩
abbrev cX7_mends : ByteArray := prog_1_method_18_code
def yX7_mends : MethodName := ⟨RX7, "mends", "(IIII)I"⟩
abbrev cX7_mend : ByteArray := prog_1_method_19_code
def yX7_mend : MethodName := ⟨RX7, "mend", "(IIIIII)I"⟩
abbrev cX7_far : ByteArray := prog_1_method_20_code
def yX7_far : MethodName := ⟨RX7, "far", "(III)I"⟩
abbrev cX7_near : ByteArray := prog_1_method_21_code
def yX7_near : MethodName := ⟨RX7, "near", "(III)I"⟩
abbrev cX7_image : ByteArray := prog_1_method_22_code
def yX7_image : MethodName := ⟨RX7, "image", "(I)I"⟩
abbrev cX7_restore : ByteArray := prog_1_method_23_code
def yX7_restore : MethodName := ⟨RX7, "restore", "(I)I"⟩
abbrev cX7_told : ByteArray := prog_1_method_24_code
def yX7_told : MethodName := ⟨RX7, "told", "(I)I"⟩
abbrev cX7_refusalIn : ByteArray := prog_1_method_25_code
def yX7_refusalIn : MethodName := ⟨RX7, "refusalIn", "(IZ)I"⟩
abbrev cX7_refusalBehind : ByteArray := prog_1_method_26_code
def yX7_refusalBehind : MethodName := ⟨RX7, "refusalBehind", "(IZ)I"⟩
abbrev cX7_isUpTo : ByteArray := prog_1_method_27_code
def yX7_isUpTo : MethodName := ⟨RX7, "isUpTo", "(II)Z"⟩
abbrev cX7_isWay : ByteArray := prog_1_method_28_code
def yX7_isWay : MethodName := ⟨RX7, "isWay", "(I)Z"⟩
abbrev cX7_isStart : ByteArray := prog_1_method_29_code
def yX7_isStart : MethodName := ⟨RX7, "isStart", "(I)Z"⟩
abbrev cX7_isLength : ByteArray := prog_1_method_30_code
def yX7_isLength : MethodName := ⟨RX7, "isLength", "(I)Z"⟩
abbrev cX7_areRows : ByteArray := prog_1_method_31_code
def yX7_areRows : MethodName := ⟨RX7, "areRows", "(III)Z"⟩
abbrev cX7_wasMendedInFirstAlone : ByteArray := prog_1_method_32_code
def yX7_wasMendedInFirstAlone : MethodName := ⟨RX7, "wasMendedInFirstAlone", "(III)Z"⟩
abbrev cX7_isName : ByteArray := prog_1_method_33_code
def yX7_isName : MethodName := ⟨RX7, "isName", "(I)Z"⟩
abbrev cX7_isNumber : ByteArray := prog_1_method_34_code
def yX7_isNumber : MethodName := ⟨RX7, "isNumber", "(I)Z"⟩
def RX8 : String := "SameAgainModel"
def TX8 : u_T := fun k => match k with
  | 0 => ("SameAgainModel", "signs", "I", false)
  | 1 => ("SameAgainModel", "pad", "[I", true)
  | 2 => ("SameAgainModel", "lines", "I", false)
  | 3 => ("SameAgainModel", "versions", "I", false)
  | 4 => ("SameAgainModel", "sizes", "[I", true)
  | 5 => ("SameAgainModel", "code", "[I", true)
  | 6 => ("SameAgainModel", "beside", "[I", true)
  | 7 => ("SameAgainModel", "back", "[I", true)
  | 8 => ("SameAgainModel", "otherLine", "I", false)
  | 9 => ("SameAgainModel", "otherPlace", "I", false)
  | 10 => ("SameAgainModel", "otherSign", "I", false)
  | 11 => ("SameAgainModel", "savings", "I", false)
  | 12 => ("SameAgainModel", "saves", "[I", true)
  | 13 => ("SameAgainModel", "savesStart", "[I", true)
  | 14 => ("SameAgainModel", "savesLength", "[I", true)
  | 15 => ("SameAgainModel", "savesLines", "[I", true)
  | 16 => ("SameAgainModel", "far", "[I", true)
  | 17 => ("SameAgainModel", "image", "[I", true)
  | _ => ("SameAgainModel", "isKept", "[Z", true)
def tyX8 : Nat → FieldType := fun k => match k with
  | 0 => .int
  | 1 => .array .int
  | 2 => .int
  | 3 => .int
  | 4 => .array .int
  | 5 => .array .int
  | 6 => .array .int
  | 7 => .array .int
  | 8 => .int
  | 9 => .int
  | 10 => .int
  | 11 => .int
  | 12 => .array .int
  | 13 => .array .int
  | 14 => .array .int
  | 15 => .array .int
  | 16 => .array .int
  | 17 => .array .int
  | _ => .array .boolean
abbrev wsX80 : List Cond := u_ws RX8 TX8 19
theorem nmX8 : ∀ a, a < 19 → ∀ b, b < 19 → a ≠ b → (TX8 a).2.1 ≠ (TX8 b).2.1 := by decide +kernel
theorem tyX8_ok : ∀ k, k < 19 → parseFieldDescriptor (TX8 k).2.2.1 = some (tyX8 k) := by decide +kernel
abbrev cX8_init : ByteArray := prog_10_method_1_code
def yX8_init : MethodName := ⟨RX8, "<init>", "()V"⟩
abbrev cX8_in : ByteArray := prog_10_method_2_code
def yX8_in : MethodName := ⟨RX8, "in", "(III)Z"⟩
abbrev cX8_isVersion : ByteArray := prog_10_method_3_code
def yX8_isVersion : MethodName := ⟨RX8, "isVersion", "(I)Z"⟩
abbrev cX8_isLine : ByteArray := prog_10_method_4_code
def yX8_isLine : MethodName := ⟨RX8, "isLine", "(I)Z"⟩
abbrev cX8_isStart : ByteArray := prog_10_method_5_code
def yX8_isStart : MethodName := ⟨RX8, "isStart", "(I)Z"⟩
abbrev cX8_isLength : ByteArray := prog_10_method_6_code
def yX8_isLength : MethodName := ⟨RX8, "isLength", "(I)Z"⟩
abbrev cX8_isWay : ByteArray := prog_10_method_7_code
def yX8_isWay : MethodName := ⟨RX8, "isWay", "(I)Z"⟩
abbrev cX8_isName : ByteArray := prog_10_method_8_code
def yX8_isName : MethodName := ⟨RX8, "isName", "(I)Z"⟩
abbrev cX8_isNumber : ByteArray := prog_10_method_9_code
def yX8_isNumber : MethodName := ⟨RX8, "isNumber", "(I)Z"⟩
abbrev cX8_say : ByteArray := prog_10_method_10_code
def yX8_say : MethodName := ⟨RX8, "say", "(I)I"⟩
abbrev cX8_wipe : ByteArray := prog_10_method_11_code
def yX8_wipe : MethodName := ⟨RX8, "wipe", "()I"⟩
abbrev cX8_put : ByteArray := prog_10_method_12_code
def yX8_put : MethodName := ⟨RX8, "put", "(II)V"⟩
abbrev cX8_line : ByteArray := prog_10_method_13_code
def yX8_line : MethodName := ⟨RX8, "line", "()I"⟩
abbrev cX8_change : ByteArray := prog_10_method_14_code
def yX8_change : MethodName := ⟨RX8, "change", "(I)I"⟩
abbrev cX8_version : ByteArray := prog_10_method_15_code
def yX8_version : MethodName := ⟨RX8, "version", "()I"⟩
abbrev cX8_size : ByteArray := prog_10_method_16_code
def yX8_size : MethodName := ⟨RX8, "size", "(II)I"⟩
abbrev cX8_signAt : ByteArray := prog_10_method_17_code
def yX8_signAt : MethodName := ⟨RX8, "signAt", "(III)I"⟩
abbrev cX8_sign : ByteArray := prog_10_method_18_code
def yX8_sign : MethodName := ⟨RX8, "sign", "(III)I"⟩
abbrev cX8_goBeside : ByteArray := prog_10_method_19_code
def yX8_goBeside : MethodName := ⟨RX8, "goBeside", "(II)Z"⟩
abbrev cX8_areAlike : ByteArray := prog_10_method_20_code
def yX8_areAlike : MethodName := ⟨RX8, "areAlike", "(III)Z"⟩
abbrev cX8_isThere : ByteArray := prog_10_method_21_code
def yX8_isThere : MethodName := ⟨RX8, "isThere", "(II)Z"⟩
abbrev cX8_rowsAlike : ByteArray := prog_10_method_22_code
def yX8_rowsAlike : MethodName := ⟨RX8, "rowsAlike", "(IIIII)Z"⟩
abbrev cX8_areRows : ByteArray := prog_10_method_23_code
def yX8_areRows : MethodName := ⟨RX8, "areRows", "(IIII)Z"⟩
abbrev cX8_alike : ByteArray := prog_10_method_24_code
def yX8_alike : MethodName := ⟨RX8, "alike", "(IIIII)I"⟩
abbrev cX8_longest : ByteArray := prog_10_method_25_code
def yX8_longest : MethodName := ⟨RX8, "longest", "(III)I"⟩
abbrev cX8_likeOf : ByteArray := prog_10_method_26_code
def yX8_likeOf : MethodName := ⟨RX8, "likeOf", "(IIII)I"⟩
abbrev cX8_like : ByteArray := prog_10_method_27_code
def yX8_like : MethodName := ⟨RX8, "like", "(IIII)I"⟩
abbrev cX8_bits : ByteArray := prog_10_method_28_code
def yX8_bits : MethodName := ⟨RX8, "bits", "(I)I"⟩
abbrev cX8_least : ByteArray := prog_10_method_29_code
def yX8_least : MethodName := ⟨RX8, "least", "(I)I"⟩
abbrev cX8_groups : ByteArray := prog_10_method_30_code
def yX8_groups : MethodName := ⟨RX8, "groups", "(IIII)I"⟩
abbrev cX8_whole : ByteArray := prog_10_method_31_code
def yX8_whole : MethodName := ⟨RX8, "whole", "(IIII)I"⟩
abbrev cX8_takenOf : ByteArray := prog_10_method_32_code
def yX8_takenOf : MethodName := ⟨RX8, "takenOf", "(II)I"⟩
abbrev cX8_isSame : ByteArray := prog_10_method_33_code
def yX8_isSame : MethodName := ⟨RX8, "isSame", "(IIII)Z"⟩
abbrev cX8_areOne : ByteArray := prog_10_method_34_code
def yX8_areOne : MethodName := ⟨RX8, "areOne", "(IIIIII)Z"⟩
abbrev cX8_isTold : ByteArray := prog_10_method_35_code
def yX8_isTold : MethodName := ⟨RX8, "isTold", "(IIII)Z"⟩
abbrev cX8_toldOf : ByteArray := prog_10_method_36_code
def yX8_toldOf : MethodName := ⟨RX8, "toldOf", "(III)I"⟩
abbrev cX8_savesOf : ByteArray := prog_10_method_37_code
def yX8_savesOf : MethodName := ⟨RX8, "savesOf", "(III)I"⟩
abbrev cX8_pulled : ByteArray := prog_10_method_38_code
def yX8_pulled : MethodName := ⟨RX8, "pulled", "(IIIII)I"⟩
abbrev cX8_laySavings : ByteArray := prog_10_method_39_code
def yX8_laySavings : MethodName := ⟨RX8, "laySavings", "(II)V"⟩
abbrev cX8_best : ByteArray := prog_10_method_40_code
def yX8_best : MethodName := ⟨RX8, "best", "(III)I"⟩
abbrev cX8_two : ByteArray := prog_10_method_41_code
def yX8_two : MethodName := ⟨RX8, "two", "(II)I"⟩
abbrev cX8_forgotten : ByteArray := prog_10_method_42_code
def yX8_forgotten : MethodName := ⟨RX8, "forgotten", "(IIIII)I"⟩
abbrev cX8_parted : ByteArray := prog_10_method_43_code
def yX8_parted : MethodName := ⟨RX8, "parted", "(IIII)I"⟩
abbrev cX8_isOther : ByteArray := prog_10_method_44_code
def yX8_isOther : MethodName := ⟨RX8, "isOther", "(II)Z"⟩
abbrev cX8_mendsOf : ByteArray := prog_10_method_45_code
def yX8_mendsOf : MethodName := ⟨RX8, "mendsOf", "(IIII)I"⟩
abbrev cX8_mends : ByteArray := prog_10_method_46_code
def yX8_mends : MethodName := ⟨RX8, "mends", "(IIII)I"⟩
abbrev cX8_mend : ByteArray := prog_10_method_47_code
def yX8_mend : MethodName := ⟨RX8, "mend", "(IIIIII)I"⟩
abbrev cX8_changes : ByteArray := prog_10_method_48_code
def yX8_changes : MethodName := ⟨RX8, "changes", "(II)I"⟩
abbrev cX8_farOf : ByteArray := prog_10_method_49_code
def yX8_farOf : MethodName := ⟨RX8, "farOf", "(III)I"⟩
abbrev cX8_far : ByteArray := prog_10_method_50_code
def yX8_far : MethodName := ⟨RX8, "far", "(III)I"⟩
abbrev cX8_near : ByteArray := prog_10_method_51_code
def yX8_near : MethodName := ⟨RX8, "near", "(III)I"⟩
abbrev cX8_image : ByteArray := prog_10_method_52_code
def yX8_image : MethodName := ⟨RX8, "image", "(I)I"⟩
abbrev cX8_restore : ByteArray := prog_10_method_53_code
def yX8_restore : MethodName := ⟨RX8, "restore", "(I)I"⟩
abbrev cX8_told : ByteArray := prog_10_method_54_code
def yX8_told : MethodName := ⟨RX8, "told", "(I)I"⟩
def RJ6 : String := "java/lang/Integer"
def TJ6 : u_T := fun k => match k with
  | _ => ("", "", "", false)
def tyJ6 : Nat → FieldType := fun k => match k with
  | _ => .int
abbrev wsJ60 : List Cond := u_ws RJ6 TJ6 0
theorem nmJ6 : ∀ a, a < 0 → ∀ b, b < 0 → a ≠ b → (TJ6 a).2.1 ≠ (TJ6 b).2.1 := by decide +kernel
theorem tyJ6_ok : ∀ k, k < 0 → parseFieldDescriptor (TJ6 k).2.2.1 = some (tyJ6 k) := by decide +kernel
abbrev cJ6_bitCount_0f7a4 : ByteArray := prog_11_method_49_code
def yJ6_bitCount_0f7a4 : MethodName := ⟨RJ6, "bitCount", "(I)I"⟩
def RJ9 : String := "java/lang/Math"
def TJ9 : u_T := fun k => match k with
  | _ => ("", "", "", false)
def tyJ9 : Nat → FieldType := fun k => match k with
  | _ => .int
abbrev wsJ90 : List Cond := u_ws RJ9 TJ9 0
theorem nmJ9 : ∀ a, a < 0 → ∀ b, b < 0 → a ≠ b → (TJ9 a).2.1 ≠ (TJ9 b).2.1 := by decide +kernel
theorem tyJ9_ok : ∀ k, k < 0 → parseFieldDescriptor (TJ9 k).2.2.1 = some (tyJ9 k) := by decide +kernel
abbrev cJ9_abs_0f7a4 : ByteArray := prog_12_method_59_code
def yJ9_abs_0f7a4 : MethodName := ⟨RJ9, "abs", "(I)I"⟩
abbrev cJ9_max_7cf53 : ByteArray := prog_12_method_65_code
def yJ9_max_7cf53 : MethodName := ⟨RJ9, "max", "(II)I"⟩
abbrev cJ9_min_7cf53 : ByteArray := prog_12_method_69_code
def yJ9_min_7cf53 : MethodName := ⟨RJ9, "min", "(II)I"⟩
def RJ10 : String := "java/lang/System"
def TJ10 : u_T := fun k => match k with
  | _ => ("", "", "", false)
def tyJ10 : Nat → FieldType := fun k => match k with
  | _ => .int
abbrev wsJ100 : List Cond := u_ws RJ10 TJ10 0
theorem nmJ10 : ∀ a, a < 0 → ∀ b, b < 0 → a ≠ b → (TJ10 a).2.1 ≠ (TJ10 b).2.1 := by decide +kernel
theorem tyJ10_ok : ∀ k, k < 0 → parseFieldDescriptor (TJ10 k).2.2.1 = some (tyJ10 k) := by decide +kernel
def RL : String := "SameAgainLaw"
abbrev cL_law : ByteArray := code
def yL_law : MethodName := ⟨RL, "law", "([I)Z"⟩
def wsX0_init : List Cond := .code yX0_init cX0_init 1 none :: ([.methodLink RX0 3 objectInit, .instanceMethod objectInit, .code objectInit ⟨#[0xb1]⟩ 1 none, .arrayClass .int, .fieldLink RX0 9 "SameAgain$Code" "signs" "[I", .fieldLink RX0 15 "SameAgain$Code" "sizes" "[I", .fieldLink RX0 18 "SameAgain$Code" "lineCount" "I", .fieldLink RX0 22 "SameAgain$Code" "versionCount" "I"] ++ wsX00)
def wsX0_lines : List Cond := .code yX0_lines cX0_lines 1 (some .int) :: ([.fieldLink RX0 18 "SameAgain$Code" "lineCount" "I"] ++ wsX00)
def wsX0_versions : List Cond := .code yX0_versions cX0_versions 1 (some .int) :: ([.fieldLink RX0 22 "SameAgain$Code" "versionCount" "I"] ++ wsX00)
def wsX0_hasVersion : List Cond := .code yX0_hasVersion cX0_hasVersion 2 (some .boolean) :: ([.fieldLink RX0 22 "SameAgain$Code" "versionCount" "I"] ++ wsX00)
def wsX0_hasLine : List Cond := .code yX0_hasLine cX0_hasLine 2 (some .boolean) :: ([.fieldLink RX0 18 "SameAgain$Code" "lineCount" "I"] ++ wsX00)
def wsX0_sizeOf : List Cond := .code yX0_sizeOf cX0_sizeOf 3 (some .int) :: ([.fieldLink RX0 22 "SameAgain$Code" "versionCount" "I", .fieldLink RX0 18 "SameAgain$Code" "lineCount" "I", .fieldLink RX0 15 "SameAgain$Code" "sizes" "[I"] ++ wsX00)
def wsX0_signAt : List Cond := .code yX0_signAt cX0_signAt 5 (some .int) :: ([.fieldLink RX0 22 "SameAgain$Code" "versionCount" "I", .fieldLink RX0 18 "SameAgain$Code" "lineCount" "I", .fieldLink RX0 15 "SameAgain$Code" "sizes" "[I", .fieldLink RX0 9 "SameAgain$Code" "signs" "[I"] ++ wsX00)
def wsX0_write : List Cond := .code yX0_write cX0_write 6 none :: ([.fieldLink RX0 9 "SameAgain$Code" "signs" "[I", .methodLink RX0 32 arraycopyName, .native arraycopyName, .static arraycopyName, .initialized "java/lang/System", .fieldLink RX0 15 "SameAgain$Code" "sizes" "[I", .methodLink RX0 25 yX0_hasVersion, .instanceMethod yX0_hasVersion, .selects RX0 yX0_hasVersion yX0_hasVersion, .initialized RX0, .code yX0_hasVersion cX0_hasVersion 2 (some .boolean), .fieldLink RX0 22 "SameAgain$Code" "versionCount" "I", .methodLink RX0 29 yX0_hasLine, .instanceMethod yX0_hasLine, .selects RX0 yX0_hasLine yX0_hasLine, .code yX0_hasLine cX0_hasLine 2 (some .boolean), .fieldLink RX0 18 "SameAgain$Code" "lineCount" "I"] ++ wsX00)
def wsX0_addLine : List Cond := .code yX0_addLine cX0_addLine 4 none :: ([.fieldLink RX0 18 "SameAgain$Code" "lineCount" "I", .fieldLink RX0 22 "SameAgain$Code" "versionCount" "I", .methodLink RX0 38 yX0_write, .instanceMethod yX0_write, .selects RX0 yX0_write yX0_write, .initialized RX0, .code yX0_write cX0_write 6 none, .fieldLink RX0 9 "SameAgain$Code" "signs" "[I", .methodLink RX0 32 arraycopyName, .native arraycopyName, .static arraycopyName, .initialized "java/lang/System", .fieldLink RX0 15 "SameAgain$Code" "sizes" "[I", .methodLink RX0 25 yX0_hasVersion, .instanceMethod yX0_hasVersion, .selects RX0 yX0_hasVersion yX0_hasVersion, .code yX0_hasVersion cX0_hasVersion 2 (some .boolean), .methodLink RX0 29 yX0_hasLine, .instanceMethod yX0_hasLine, .selects RX0 yX0_hasLine yX0_hasLine, .code yX0_hasLine cX0_hasLine 2 (some .boolean)] ++ wsX00)
def wsX0_addVersion : List Cond := .code yX0_addVersion cX0_addVersion 3 none :: ([.fieldLink RX0 22 "SameAgain$Code" "versionCount" "I", .fieldLink RX0 15 "SameAgain$Code" "sizes" "[I", .methodLink RX0 32 arraycopyName, .native arraycopyName, .static arraycopyName, .initialized "java/lang/System", .fieldLink RX0 9 "SameAgain$Code" "signs" "[I"] ++ wsX00)
def wsX0_becomeAs : List Cond := .code yX0_becomeAs cX0_becomeAs 2 none :: ([.fieldLink RX0 9 "SameAgain$Code" "signs" "[I", .methodLink RX0 32 arraycopyName, .native arraycopyName, .static arraycopyName, .initialized "java/lang/System", .fieldLink RX0 15 "SameAgain$Code" "sizes" "[I", .fieldLink RX0 18 "SameAgain$Code" "lineCount" "I", .fieldLink RX0 22 "SameAgain$Code" "versionCount" "I"] ++ wsX00)
def wsX0_staysAsItIs : List Cond := .code yX0_staysAsItIs cX0_staysAsItIs 5 (some .boolean) :: ([.methodLink RX0 42 yX0_sizeOf, .instanceMethod yX0_sizeOf, .selects RX0 yX0_sizeOf yX0_sizeOf, .initialized RX0, .code yX0_sizeOf cX0_sizeOf 3 (some .int), .fieldLink RX0 22 "SameAgain$Code" "versionCount" "I", .fieldLink RX0 18 "SameAgain$Code" "lineCount" "I", .fieldLink RX0 15 "SameAgain$Code" "sizes" "[I", .methodLink RX0 46 yX0_signAt, .instanceMethod yX0_signAt, .selects RX0 yX0_signAt yX0_signAt, .code yX0_signAt cX0_signAt 5 (some .int), .fieldLink RX0 9 "SameAgain$Code" "signs" "[I"] ++ wsX00)
def wsX1_init : List Cond := .code yX1_init cX1_init 2 none :: ([.methodLink RX1 3 objectInit, .instanceMethod objectInit, .code objectInit ⟨#[0xb1]⟩ 1 none, .arrayClass .int, .fieldLink RX1 11 "SameAgain$Distance" "costs" "[I", .fieldLink RX1 15 "SameAgain$Distance" "code" "LSameAgain$Code;"] ++ wsX10)
def wsX7_isName : List Cond := .code yX7_isName cX7_isName 1 (some .boolean) :: ([])
def wsX7_isNumber : List Cond := .code yX7_isNumber cX7_isNumber 1 (some .boolean) :: ([])
def wsX1_swapCost : List Cond := .code yX1_swapCost cX1_swapCost 3 (some .int) :: ([.static yX7_isName, .initialized RX7, .code yX7_isName cX7_isName 1 (some .boolean), .static yX7_isNumber, .code yX7_isNumber cX7_isNumber 1 (some .boolean)])
def wsX1_between_r1 : List Cond := [Cond.fieldLink RX1 15 "SameAgain$Distance" "code" "LSameAgain$Code;", Cond.methodLink RX1 25 Lib.Math.min.name, Cond.static Lib.Math.min.name, Cond.initialized "java/lang/Math", Cond.code Lib.Math.min.name Lib.Math.min.code 2 (some .int), Cond.fieldLink RX1 11 "SameAgain$Distance" "costs" "[I", Cond.methodLink RX1 19 yX0_sizeOf, Cond.instanceMethod yX0_sizeOf, Cond.selects RX0 yX0_sizeOf yX0_sizeOf, Cond.initialized RX0, Cond.code yX0_sizeOf cX0_sizeOf 3 (some .int), Cond.fieldLink RX0 22 "SameAgain$Code" "versionCount" "I", Cond.fieldLink RX0 18 "SameAgain$Code" "lineCount" "I", Cond.fieldLink RX0 15 "SameAgain$Code" "sizes" "[I", Cond.methodLink RX1 30 yX0_signAt, Cond.instanceMethod yX0_signAt, Cond.selects RX0 yX0_signAt yX0_signAt, Cond.code yX0_signAt cX0_signAt 5 (some .int), Cond.fieldLink RX0 9 "SameAgain$Code" "signs" "[I", Cond.methodLink RX1 34 yX1_swapCost, Cond.static yX1_swapCost, Cond.initialized RX1, Cond.code yX1_swapCost cX1_swapCost 3 (some .int), Cond.static yX7_isName]
def wsX1_between_r2 : List Cond := [Cond.initialized RX7, Cond.code yX7_isName cX7_isName 1 (some .boolean), Cond.static yX7_isNumber, Cond.code yX7_isNumber cX7_isNumber 1 (some .boolean)]
def wsX1_between : List Cond := .code yX1_between cX1_between 12 (some .int) :: ((wsX1_between_r1 ++ wsX1_between_r2) ++ wsX10 ++ wsX00)
def wsX3_init : List Cond := .code yX3_init cX3_init 1 none :: ([.methodLink RX3 3 objectInit, .instanceMethod objectInit, .code objectInit ⟨#[0xb1]⟩ 1 none, .arrayClass .int, .fieldLink RX3 9 "SameAgain$Pairing" "partners" "[I", .fieldLink RX3 15 "SameAgain$Pairing" "namesOfOne" "I", .fieldLink RX3 19 "SameAgain$Pairing" "namesOfOther" "I"] ++ wsX30)
def wsX2_init : List Cond := .code yX2_init cX2_init 2 none :: ([.methodLink RX2 3 objectInit, .instanceMethod objectInit, .code objectInit ⟨#[0xb1]⟩ 1 none, .classLink RX2 9 RX3, .instantiable RX3 3, .initialized RX3, .fieldLink RX2 12 "SameAgain$Likeness" "pairing" "LSameAgain$Pairing;", .arrayClass .int, .fieldLink RX2 18 "SameAgain$Likeness" "reach" "[I", .fieldLink RX2 22 "SameAgain$Likeness" "longestLength" "I", .fieldLink RX2 26 "SameAgain$Likeness" "longestOne" "I", .fieldLink RX2 29 "SameAgain$Likeness" "longestOther" "I", .fieldLink RX2 32 "SameAgain$Likeness" "code" "LSameAgain$Code;", .instanceMethod yX3_init, .code yX3_init cX3_init 1 none, .methodLink RX3 3 objectInit, .fieldLink RX3 9 "SameAgain$Pairing" "partners" "[I", .fieldLink RX3 15 "SameAgain$Pairing" "namesOfOne" "I", .fieldLink RX3 19 "SameAgain$Pairing" "namesOfOther" "I"] ++ wsX30 ++ wsX20)
def wsX2_areThere : List Cond := .code yX2_areThere cX2_areThere 4 (some .boolean) :: ([.methodLink RX2 44 Lib.Math.max.name, .static Lib.Math.max.name, .initialized "java/lang/Math", .code Lib.Math.max.name Lib.Math.max.code 2 (some .int), .fieldLink RX2 32 "SameAgain$Likeness" "code" "LSameAgain$Code;", .methodLink RX2 50 yX0_lines, .instanceMethod yX0_lines, .selects RX0 yX0_lines yX0_lines, .initialized RX0, .code yX0_lines cX0_lines 1 (some .int), .fieldLink RX0 18 "SameAgain$Code" "lineCount" "I"] ++ wsX20 ++ wsX00)
def wsX3_clear : List Cond := .code yX3_clear cX3_clear 1 none :: ([.fieldLink RX3 15 "SameAgain$Pairing" "namesOfOne" "I", .fieldLink RX3 19 "SameAgain$Pairing" "namesOfOther" "I"] ++ wsX30)
def wsX3_join : List Cond := .code yX3_join cX3_join 5 (some .boolean) :: ([.fieldLink RX3 15 "SameAgain$Pairing" "namesOfOne" "I", .fieldLink RX3 9 "SameAgain$Pairing" "partners" "[I", .fieldLink RX3 19 "SameAgain$Pairing" "namesOfOther" "I", .static yX7_isName, .initialized RX7, .code yX7_isName cX7_isName 1 (some .boolean)] ++ wsX30)
def wsX2_signFits : List Cond := .code yX2_signFits cX2_signFits 4 (some .boolean) :: ([.fieldLink RX2 12 "SameAgain$Likeness" "pairing" "LSameAgain$Pairing;", .static yX7_isName, .initialized RX7, .code yX7_isName cX7_isName 1 (some .boolean), .methodLink RX2 77 yX3_join, .instanceMethod yX3_join, .selects RX3 yX3_join yX3_join, .initialized RX3, .code yX3_join cX3_join 5 (some .boolean), .fieldLink RX3 15 "SameAgain$Pairing" "namesOfOne" "I", .fieldLink RX3 9 "SameAgain$Pairing" "partners" "[I", .fieldLink RX3 19 "SameAgain$Pairing" "namesOfOther" "I", .static yX7_isNumber, .code yX7_isNumber cX7_isNumber 1 (some .boolean)] ++ wsX20 ++ wsX30)
def wsX2_lineFits_r1 : List Cond := [Cond.fieldLink RX2 32 "SameAgain$Likeness" "code" "LSameAgain$Code;", Cond.methodLink RX2 63 yX0_sizeOf, Cond.instanceMethod yX0_sizeOf, Cond.selects RX0 yX0_sizeOf yX0_sizeOf, Cond.initialized RX0, Cond.code yX0_sizeOf cX0_sizeOf 3 (some .int), Cond.fieldLink RX0 22 "SameAgain$Code" "versionCount" "I", Cond.fieldLink RX0 18 "SameAgain$Code" "lineCount" "I", Cond.fieldLink RX0 15 "SameAgain$Code" "sizes" "[I", Cond.methodLink RX2 66 yX0_signAt, Cond.instanceMethod yX0_signAt, Cond.selects RX0 yX0_signAt yX0_signAt, Cond.code yX0_signAt cX0_signAt 5 (some .int), Cond.fieldLink RX0 9 "SameAgain$Code" "signs" "[I", Cond.methodLink RX2 70 yX2_signFits, Cond.instanceMethod yX2_signFits, Cond.selects RX2 yX2_signFits yX2_signFits, Cond.initialized RX2, Cond.code yX2_signFits cX2_signFits 4 (some .boolean), Cond.fieldLink RX2 12 "SameAgain$Likeness" "pairing" "LSameAgain$Pairing;", Cond.static yX7_isName, Cond.initialized RX7, Cond.code yX7_isName cX7_isName 1 (some .boolean), Cond.methodLink RX2 77 yX3_join]
def wsX2_lineFits_r2 : List Cond := [Cond.instanceMethod yX3_join, Cond.selects RX3 yX3_join yX3_join, Cond.initialized RX3, Cond.code yX3_join cX3_join 5 (some .boolean), Cond.fieldLink RX3 15 "SameAgain$Pairing" "namesOfOne" "I", Cond.fieldLink RX3 9 "SameAgain$Pairing" "partners" "[I", Cond.fieldLink RX3 19 "SameAgain$Pairing" "namesOfOther" "I", Cond.static yX7_isNumber, Cond.code yX7_isNumber cX7_isNumber 1 (some .boolean)]
def wsX2_lineFits : List Cond := .code yX2_lineFits cX2_lineFits 10 (some .boolean) :: ((wsX2_lineFits_r1 ++ wsX2_lineFits_r2) ++ wsX20 ++ wsX00 ++ wsX30)
def wsX2_linesAlike_r1 : List Cond := [Cond.fieldLink RX2 12 "SameAgain$Likeness" "pairing" "LSameAgain$Pairing;", Cond.methodLink RX2 56 yX3_clear, Cond.instanceMethod yX3_clear, Cond.selects RX3 yX3_clear yX3_clear, Cond.initialized RX3, Cond.code yX3_clear cX3_clear 1 none, Cond.fieldLink RX3 15 "SameAgain$Pairing" "namesOfOne" "I", Cond.fieldLink RX3 19 "SameAgain$Pairing" "namesOfOther" "I", Cond.methodLink RX2 59 yX2_lineFits, Cond.instanceMethod yX2_lineFits, Cond.selects RX2 yX2_lineFits yX2_lineFits, Cond.initialized RX2, Cond.code yX2_lineFits cX2_lineFits 10 (some .boolean), Cond.fieldLink RX2 32 "SameAgain$Likeness" "code" "LSameAgain$Code;", Cond.methodLink RX2 63 yX0_sizeOf, Cond.instanceMethod yX0_sizeOf, Cond.selects RX0 yX0_sizeOf yX0_sizeOf, Cond.initialized RX0, Cond.code yX0_sizeOf cX0_sizeOf 3 (some .int), Cond.fieldLink RX0 22 "SameAgain$Code" "versionCount" "I", Cond.fieldLink RX0 18 "SameAgain$Code" "lineCount" "I", Cond.fieldLink RX0 15 "SameAgain$Code" "sizes" "[I", Cond.methodLink RX2 66 yX0_signAt, Cond.instanceMethod yX0_signAt]
def wsX2_linesAlike_r2 : List Cond := [Cond.selects RX0 yX0_signAt yX0_signAt, Cond.code yX0_signAt cX0_signAt 5 (some .int), Cond.fieldLink RX0 9 "SameAgain$Code" "signs" "[I", Cond.methodLink RX2 70 yX2_signFits, Cond.instanceMethod yX2_signFits, Cond.selects RX2 yX2_signFits yX2_signFits, Cond.code yX2_signFits cX2_signFits 4 (some .boolean), Cond.static yX7_isName, Cond.initialized RX7, Cond.code yX7_isName cX7_isName 1 (some .boolean), Cond.methodLink RX2 77 yX3_join, Cond.instanceMethod yX3_join, Cond.selects RX3 yX3_join yX3_join, Cond.code yX3_join cX3_join 5 (some .boolean), Cond.fieldLink RX3 9 "SameAgain$Pairing" "partners" "[I", Cond.static yX7_isNumber, Cond.code yX7_isNumber cX7_isNumber 1 (some .boolean)]
def wsX2_linesAlike : List Cond := .code yX2_linesAlike cX2_linesAlike 7 (some .int) :: ((wsX2_linesAlike_r1 ++ wsX2_linesAlike_r2) ++ wsX20 ++ wsX30 ++ wsX00)
def wsX2_rowsAlike_r1 : List Cond := [Cond.methodLink RX2 36 yX2_areThere, Cond.instanceMethod yX2_areThere, Cond.selects RX2 yX2_areThere yX2_areThere, Cond.initialized RX2, Cond.code yX2_areThere cX2_areThere 4 (some .boolean), Cond.methodLink RX2 44 Lib.Math.max.name, Cond.static Lib.Math.max.name, Cond.initialized "java/lang/Math", Cond.code Lib.Math.max.name Lib.Math.max.code 2 (some .int), Cond.fieldLink RX2 32 "SameAgain$Likeness" "code" "LSameAgain$Code;", Cond.methodLink RX2 50 yX0_lines, Cond.instanceMethod yX0_lines, Cond.selects RX0 yX0_lines yX0_lines, Cond.initialized RX0, Cond.code yX0_lines cX0_lines 1 (some .int), Cond.fieldLink RX0 18 "SameAgain$Code" "lineCount" "I", Cond.methodLink RX2 40 yX2_linesAlike, Cond.instanceMethod yX2_linesAlike, Cond.selects RX2 yX2_linesAlike yX2_linesAlike, Cond.code yX2_linesAlike cX2_linesAlike 7 (some .int), Cond.fieldLink RX2 12 "SameAgain$Likeness" "pairing" "LSameAgain$Pairing;", Cond.methodLink RX2 56 yX3_clear, Cond.instanceMethod yX3_clear, Cond.selects RX3 yX3_clear yX3_clear]
def wsX2_rowsAlike_r2 : List Cond := [Cond.initialized RX3, Cond.code yX3_clear cX3_clear 1 none, Cond.fieldLink RX3 15 "SameAgain$Pairing" "namesOfOne" "I", Cond.fieldLink RX3 19 "SameAgain$Pairing" "namesOfOther" "I", Cond.methodLink RX2 59 yX2_lineFits, Cond.instanceMethod yX2_lineFits, Cond.selects RX2 yX2_lineFits yX2_lineFits, Cond.code yX2_lineFits cX2_lineFits 10 (some .boolean), Cond.methodLink RX2 63 yX0_sizeOf, Cond.instanceMethod yX0_sizeOf, Cond.selects RX0 yX0_sizeOf yX0_sizeOf, Cond.code yX0_sizeOf cX0_sizeOf 3 (some .int), Cond.fieldLink RX0 22 "SameAgain$Code" "versionCount" "I", Cond.fieldLink RX0 15 "SameAgain$Code" "sizes" "[I", Cond.methodLink RX2 66 yX0_signAt, Cond.instanceMethod yX0_signAt, Cond.selects RX0 yX0_signAt yX0_signAt, Cond.code yX0_signAt cX0_signAt 5 (some .int), Cond.fieldLink RX0 9 "SameAgain$Code" "signs" "[I", Cond.methodLink RX2 70 yX2_signFits, Cond.instanceMethod yX2_signFits, Cond.selects RX2 yX2_signFits yX2_signFits, Cond.code yX2_signFits cX2_signFits 4 (some .boolean), Cond.static yX7_isName]
def wsX2_rowsAlike_r3 : List Cond := [Cond.initialized RX7, Cond.code yX7_isName cX7_isName 1 (some .boolean), Cond.methodLink RX2 77 yX3_join, Cond.instanceMethod yX3_join, Cond.selects RX3 yX3_join yX3_join, Cond.code yX3_join cX3_join 5 (some .boolean), Cond.fieldLink RX3 9 "SameAgain$Pairing" "partners" "[I", Cond.static yX7_isNumber, Cond.code yX7_isNumber cX7_isNumber 1 (some .boolean)]
def wsX2_rowsAlike : List Cond := .code yX2_rowsAlike cX2_rowsAlike 6 (some .boolean) :: ((wsX2_rowsAlike_r1 ++ (wsX2_rowsAlike_r2 ++ wsX2_rowsAlike_r3)) ++ wsX20 ++ wsX00 ++ wsX30)
def wsX2_rowsAlikeBut_r1 : List Cond := [Cond.fieldLink RX2 12 "SameAgain$Likeness" "pairing" "LSameAgain$Pairing;", Cond.methodLink RX2 56 yX3_clear, Cond.instanceMethod yX3_clear, Cond.selects RX3 yX3_clear yX3_clear, Cond.initialized RX3, Cond.code yX3_clear cX3_clear 1 none, Cond.fieldLink RX3 15 "SameAgain$Pairing" "namesOfOne" "I", Cond.fieldLink RX3 19 "SameAgain$Pairing" "namesOfOther" "I", Cond.methodLink RX2 59 yX2_lineFits, Cond.instanceMethod yX2_lineFits, Cond.selects RX2 yX2_lineFits yX2_lineFits, Cond.initialized RX2, Cond.code yX2_lineFits cX2_lineFits 10 (some .boolean), Cond.fieldLink RX2 32 "SameAgain$Likeness" "code" "LSameAgain$Code;", Cond.methodLink RX2 63 yX0_sizeOf, Cond.instanceMethod yX0_sizeOf, Cond.selects RX0 yX0_sizeOf yX0_sizeOf, Cond.initialized RX0, Cond.code yX0_sizeOf cX0_sizeOf 3 (some .int), Cond.fieldLink RX0 22 "SameAgain$Code" "versionCount" "I", Cond.fieldLink RX0 18 "SameAgain$Code" "lineCount" "I", Cond.fieldLink RX0 15 "SameAgain$Code" "sizes" "[I", Cond.methodLink RX2 66 yX0_signAt, Cond.instanceMethod yX0_signAt]
def wsX2_rowsAlikeBut_r2 : List Cond := [Cond.selects RX0 yX0_signAt yX0_signAt, Cond.code yX0_signAt cX0_signAt 5 (some .int), Cond.fieldLink RX0 9 "SameAgain$Code" "signs" "[I", Cond.methodLink RX2 70 yX2_signFits, Cond.instanceMethod yX2_signFits, Cond.selects RX2 yX2_signFits yX2_signFits, Cond.code yX2_signFits cX2_signFits 4 (some .boolean), Cond.static yX7_isName, Cond.initialized RX7, Cond.code yX7_isName cX7_isName 1 (some .boolean), Cond.methodLink RX2 77 yX3_join, Cond.instanceMethod yX3_join, Cond.selects RX3 yX3_join yX3_join, Cond.code yX3_join cX3_join 5 (some .boolean), Cond.fieldLink RX3 9 "SameAgain$Pairing" "partners" "[I", Cond.static yX7_isNumber, Cond.code yX7_isNumber cX7_isNumber 1 (some .boolean)]
def wsX2_rowsAlikeBut : List Cond := .code yX2_rowsAlikeBut cX2_rowsAlikeBut 8 (some .boolean) :: ((wsX2_rowsAlikeBut_r1 ++ wsX2_rowsAlikeBut_r2) ++ wsX20 ++ wsX30 ++ wsX00)
def wsX2_setReach : List Cond := .code yX2_setReach cX2_setReach 4 none :: ([.fieldLink RX2 32 "SameAgain$Likeness" "code" "LSameAgain$Code;", .fieldLink RX2 18 "SameAgain$Likeness" "reach" "[I", .methodLink RX2 88 yX0_hasLine, .instanceMethod yX0_hasLine, .selects RX0 yX0_hasLine yX0_hasLine, .initialized RX0, .code yX0_hasLine cX0_hasLine 2 (some .boolean), .fieldLink RX0 18 "SameAgain$Code" "lineCount" "I"] ++ wsX20 ++ wsX00)
def wsX2_compareAll_r1 : List Cond := [Cond.fieldLink RX2 32 "SameAgain$Likeness" "code" "LSameAgain$Code;", Cond.methodLink RX2 50 yX0_lines, Cond.instanceMethod yX0_lines, Cond.selects RX0 yX0_lines yX0_lines, Cond.initialized RX0, Cond.code yX0_lines cX0_lines 1 (some .int), Cond.fieldLink RX0 18 "SameAgain$Code" "lineCount" "I", Cond.methodLink RX2 84 yX2_setReach, Cond.instanceMethod yX2_setReach, Cond.selects RX2 yX2_setReach yX2_setReach, Cond.initialized RX2, Cond.code yX2_setReach cX2_setReach 4 none, Cond.fieldLink RX2 18 "SameAgain$Likeness" "reach" "[I", Cond.methodLink RX2 88 yX0_hasLine, Cond.instanceMethod yX0_hasLine, Cond.selects RX0 yX0_hasLine yX0_hasLine, Cond.code yX0_hasLine cX0_hasLine 2 (some .boolean), Cond.methodLink RX2 40 yX2_linesAlike, Cond.instanceMethod yX2_linesAlike, Cond.selects RX2 yX2_linesAlike yX2_linesAlike, Cond.code yX2_linesAlike cX2_linesAlike 7 (some .int), Cond.fieldLink RX2 12 "SameAgain$Likeness" "pairing" "LSameAgain$Pairing;", Cond.methodLink RX2 56 yX3_clear, Cond.instanceMethod yX3_clear]
def wsX2_compareAll_r2 : List Cond := [Cond.selects RX3 yX3_clear yX3_clear, Cond.initialized RX3, Cond.code yX3_clear cX3_clear 1 none, Cond.fieldLink RX3 15 "SameAgain$Pairing" "namesOfOne" "I", Cond.fieldLink RX3 19 "SameAgain$Pairing" "namesOfOther" "I", Cond.methodLink RX2 59 yX2_lineFits, Cond.instanceMethod yX2_lineFits, Cond.selects RX2 yX2_lineFits yX2_lineFits, Cond.code yX2_lineFits cX2_lineFits 10 (some .boolean), Cond.methodLink RX2 63 yX0_sizeOf, Cond.instanceMethod yX0_sizeOf, Cond.selects RX0 yX0_sizeOf yX0_sizeOf, Cond.code yX0_sizeOf cX0_sizeOf 3 (some .int), Cond.fieldLink RX0 22 "SameAgain$Code" "versionCount" "I", Cond.fieldLink RX0 15 "SameAgain$Code" "sizes" "[I", Cond.methodLink RX2 66 yX0_signAt, Cond.instanceMethod yX0_signAt, Cond.selects RX0 yX0_signAt yX0_signAt, Cond.code yX0_signAt cX0_signAt 5 (some .int), Cond.fieldLink RX0 9 "SameAgain$Code" "signs" "[I", Cond.methodLink RX2 70 yX2_signFits, Cond.instanceMethod yX2_signFits, Cond.selects RX2 yX2_signFits yX2_signFits, Cond.code yX2_signFits cX2_signFits 4 (some .boolean)]
def wsX2_compareAll_r3 : List Cond := [Cond.static yX7_isName, Cond.initialized RX7, Cond.code yX7_isName cX7_isName 1 (some .boolean), Cond.methodLink RX2 77 yX3_join, Cond.instanceMethod yX3_join, Cond.selects RX3 yX3_join yX3_join, Cond.code yX3_join cX3_join 5 (some .boolean), Cond.fieldLink RX3 9 "SameAgain$Pairing" "partners" "[I", Cond.static yX7_isNumber, Cond.code yX7_isNumber cX7_isNumber 1 (some .boolean)]
def wsX2_compareAll : List Cond := .code yX2_compareAll cX2_compareAll 7 none :: ((wsX2_compareAll_r1 ++ (wsX2_compareAll_r2 ++ wsX2_compareAll_r3)) ++ wsX20 ++ wsX00 ++ wsX30)
def wsX2_reachOf : List Cond := .code yX2_reachOf cX2_reachOf 3 (some .int) :: ([.fieldLink RX2 32 "SameAgain$Likeness" "code" "LSameAgain$Code;", .fieldLink RX2 18 "SameAgain$Likeness" "reach" "[I", .methodLink RX2 88 yX0_hasLine, .instanceMethod yX0_hasLine, .selects RX0 yX0_hasLine yX0_hasLine, .initialized RX0, .code yX0_hasLine cX0_hasLine 2 (some .boolean), .fieldLink RX0 18 "SameAgain$Code" "lineCount" "I"] ++ wsX20 ++ wsX00)
def wsX2_seekLongest : List Cond := .code yX2_seekLongest cX2_seekLongest 4 none :: ([.fieldLink RX2 22 "SameAgain$Likeness" "longestLength" "I", .fieldLink RX2 32 "SameAgain$Likeness" "code" "LSameAgain$Code;", .methodLink RX2 94 Lib.Math.min.name, .static Lib.Math.min.name, .initialized "java/lang/Math", .code Lib.Math.min.name Lib.Math.min.code 2 (some .int), .fieldLink RX2 26 "SameAgain$Likeness" "longestOne" "I", .fieldLink RX2 29 "SameAgain$Likeness" "longestOther" "I", .methodLink RX2 50 yX0_lines, .instanceMethod yX0_lines, .selects RX0 yX0_lines yX0_lines, .initialized RX0, .code yX0_lines cX0_lines 1 (some .int), .fieldLink RX0 18 "SameAgain$Code" "lineCount" "I", .methodLink RX2 91 yX2_reachOf, .instanceMethod yX2_reachOf, .selects RX2 yX2_reachOf yX2_reachOf, .initialized RX2, .code yX2_reachOf cX2_reachOf 3 (some .int), .fieldLink RX2 18 "SameAgain$Likeness" "reach" "[I", .methodLink RX2 88 yX0_hasLine, .instanceMethod yX0_hasLine, .selects RX0 yX0_hasLine yX0_hasLine, .code yX0_hasLine cX0_hasLine 2 (some .boolean)] ++ wsX20 ++ wsX00)
def wsX2_startsLike : List Cond := .code yX2_startsLike cX2_startsLike 5 (some .int) :: ([.fieldLink RX2 32 "SameAgain$Likeness" "code" "LSameAgain$Code;", .methodLink RX2 50 yX0_lines, .instanceMethod yX0_lines, .selects RX0 yX0_lines yX0_lines, .initialized RX0, .code yX0_lines cX0_lines 1 (some .int), .fieldLink RX0 18 "SameAgain$Code" "lineCount" "I", .methodLink RX2 91 yX2_reachOf, .instanceMethod yX2_reachOf, .selects RX2 yX2_reachOf yX2_reachOf, .initialized RX2, .code yX2_reachOf cX2_reachOf 3 (some .int), .fieldLink RX2 18 "SameAgain$Likeness" "reach" "[I", .methodLink RX2 88 yX0_hasLine, .instanceMethod yX0_hasLine, .selects RX0 yX0_hasLine yX0_hasLine, .code yX0_hasLine cX0_hasLine 2 (some .boolean)] ++ wsX20 ++ wsX00)
def wsJ6_bitCount_0f7a4 : List Cond := .code yJ6_bitCount_0f7a4 cJ6_bitCount_0f7a4 1 (some .int) :: ([.constant RJ6 265 (1431655765), .constant RJ6 266 (858993459), .constant RJ6 267 (252645135)])
def wsX2_leastOf : List Cond := .code yX2_leastOf cX2_leastOf 2 (some .int) :: ([])
def wsX2_isLeastOfGroup_r1 : List Cond := [Cond.methodLink RX2 97 yX2_startsLike, Cond.instanceMethod yX2_startsLike, Cond.selects RX2 yX2_startsLike yX2_startsLike, Cond.initialized RX2, Cond.code yX2_startsLike cX2_startsLike 5 (some .int), Cond.fieldLink RX2 32 "SameAgain$Likeness" "code" "LSameAgain$Code;", Cond.methodLink RX2 50 yX0_lines, Cond.instanceMethod yX0_lines, Cond.selects RX0 yX0_lines yX0_lines, Cond.initialized RX0, Cond.code yX0_lines cX0_lines 1 (some .int), Cond.fieldLink RX0 18 "SameAgain$Code" "lineCount" "I", Cond.methodLink RX2 91 yX2_reachOf, Cond.instanceMethod yX2_reachOf, Cond.selects RX2 yX2_reachOf yX2_reachOf, Cond.code yX2_reachOf cX2_reachOf 3 (some .int), Cond.fieldLink RX2 18 "SameAgain$Likeness" "reach" "[I", Cond.methodLink RX2 88 yX0_hasLine, Cond.instanceMethod yX0_hasLine, Cond.selects RX0 yX0_hasLine yX0_hasLine, Cond.code yX0_hasLine cX0_hasLine 2 (some .boolean), Cond.methodLink RX2 100 yJ6_bitCount_0f7a4, Cond.static yJ6_bitCount_0f7a4, Cond.initialized RJ6]
def wsX2_isLeastOfGroup_r2 : List Cond := [Cond.code yJ6_bitCount_0f7a4 cJ6_bitCount_0f7a4 1 (some .int), Cond.constant RJ6 265 (1431655765), Cond.constant RJ6 266 (858993459), Cond.constant RJ6 267 (252645135), Cond.methodLink RX2 106 yX2_leastOf, Cond.static yX2_leastOf, Cond.code yX2_leastOf cX2_leastOf 2 (some .int)]
def wsX2_isLeastOfGroup : List Cond := .code yX2_isLeastOfGroup cX2_isLeastOfGroup 4 (some .boolean) :: ((wsX2_isLeastOfGroup_r1 ++ wsX2_isLeastOfGroup_r2) ++ wsX20 ++ wsX00)
def wsX2_isWithinLonger : List Cond := .code yX2_isWithinLonger cX2_isWithinLonger 4 (some .boolean) :: ([.methodLink RX2 106 yX2_leastOf, .static yX2_leastOf, .initialized RX2, .code yX2_leastOf cX2_leastOf 2 (some .int), .methodLink RX2 97 yX2_startsLike, .instanceMethod yX2_startsLike, .selects RX2 yX2_startsLike yX2_startsLike, .code yX2_startsLike cX2_startsLike 5 (some .int), .fieldLink RX2 32 "SameAgain$Likeness" "code" "LSameAgain$Code;", .methodLink RX2 50 yX0_lines, .instanceMethod yX0_lines, .selects RX0 yX0_lines yX0_lines, .initialized RX0, .code yX0_lines cX0_lines 1 (some .int), .fieldLink RX0 18 "SameAgain$Code" "lineCount" "I", .methodLink RX2 91 yX2_reachOf, .instanceMethod yX2_reachOf, .selects RX2 yX2_reachOf yX2_reachOf, .code yX2_reachOf cX2_reachOf 3 (some .int), .fieldLink RX2 18 "SameAgain$Likeness" "reach" "[I", .methodLink RX2 88 yX0_hasLine, .instanceMethod yX0_hasLine, .selects RX0 yX0_hasLine yX0_hasLine, .code yX0_hasLine cX0_hasLine 2 (some .boolean)] ++ wsX20 ++ wsX00)
def wsX3_hasPartner : List Cond := .code yX3_hasPartner cX3_hasPartner 2 (some .boolean) :: ([.fieldLink RX3 15 "SameAgain$Pairing" "namesOfOne" "I", .static yX7_isName, .initialized RX7, .code yX7_isName cX7_isName 1 (some .boolean)] ++ wsX30)
def wsX3_renamed : List Cond := .code yX3_renamed cX3_renamed 2 (some .int) :: ([.fieldLink RX3 9 "SameAgain$Pairing" "partners" "[I", .methodLink RX3 26 yX3_hasPartner, .instanceMethod yX3_hasPartner, .selects RX3 yX3_hasPartner yX3_hasPartner, .initialized RX3, .code yX3_hasPartner cX3_hasPartner 2 (some .boolean), .fieldLink RX3 15 "SameAgain$Pairing" "namesOfOne" "I", .static yX7_isName, .initialized RX7, .code yX7_isName cX7_isName 1 (some .boolean)] ++ wsX30)
def wsX3_firstNameThatFits : List Cond := .code yX3_firstNameThatFits cX3_firstNameThatFits 3 (some .int) :: ([.fieldLink RX3 19 "SameAgain$Pairing" "namesOfOther" "I", .methodLink RX3 26 yX3_hasPartner, .instanceMethod yX3_hasPartner, .selects RX3 yX3_hasPartner yX3_hasPartner, .initialized RX3, .code yX3_hasPartner cX3_hasPartner 2 (some .boolean), .fieldLink RX3 15 "SameAgain$Pairing" "namesOfOne" "I", .static yX7_isName, .initialized RX7, .code yX7_isName cX7_isName 1 (some .boolean), .methodLink RX3 29 yX3_renamed, .instanceMethod yX3_renamed, .selects RX3 yX3_renamed yX3_renamed, .code yX3_renamed cX3_renamed 2 (some .int), .fieldLink RX3 9 "SameAgain$Pairing" "partners" "[I"] ++ wsX30)
def wsX4_init : List Cond := .code yX4_init cX4_init 4 none :: ([.methodLink RX4 3 objectInit, .instanceMethod objectInit, .code objectInit ⟨#[0xb1]⟩ 1 none, .arrayClass .int, .fieldLink RX4 9 "SameAgain$Plan" "saves" "[I", .fieldLink RX4 15 "SameAgain$Plan" "lines" "[I", .fieldLink RX4 18 "SameAgain$Plan" "count" "I", .fieldLink RX4 22 "SameAgain$Plan" "bestSaved" "I", .fieldLink RX4 25 "SameAgain$Plan" "bestStart" "I", .fieldLink RX4 28 "SameAgain$Plan" "bestLength" "I", .fieldLink RX4 31 "SameAgain$Plan" "code" "LSameAgain$Code;", .fieldLink RX4 35 "SameAgain$Plan" "likeness" "LSameAgain$Likeness;", .fieldLink RX4 39 "SameAgain$Plan" "procedure" "LSameAgain$Procedure;"] ++ wsX40)
def wsX5_take : List Cond := .code yX5_take cX5_take 5 none :: ([.fieldLink RX5 19 "SameAgain$Procedure" "takenCount" "I", .fieldLink RX5 22 "SameAgain$Procedure" "takenStarts" "I", .fieldLink RX5 25 "SameAgain$Procedure" "takenLines" "I", .fieldLink RX5 9 "SameAgain$Procedure" "starts" "[I"] ++ wsX50)
def wsX5_signsOfLine : List Cond := .code yX5_signsOfLine cX5_signsOfLine 2 (some .int) :: ([.fieldLink RX5 19 "SameAgain$Procedure" "takenCount" "I", .fieldLink RX5 34 "SameAgain$Procedure" "code" "LSameAgain$Code;", .fieldLink RX5 15 "SameAgain$Procedure" "versionAt" "I", .fieldLink RX5 9 "SameAgain$Procedure" "starts" "[I", .methodLink RX5 67 yX0_sizeOf, .instanceMethod yX0_sizeOf, .selects RX0 yX0_sizeOf yX0_sizeOf, .initialized RX0, .code yX0_sizeOf cX0_sizeOf 3 (some .int), .fieldLink RX0 22 "SameAgain$Code" "versionCount" "I", .fieldLink RX0 18 "SameAgain$Code" "lineCount" "I", .fieldLink RX0 15 "SameAgain$Code" "sizes" "[I"] ++ wsX50 ++ wsX00)
def wsX5_differs : List Cond := .code yX5_differs cX5_differs 5 (some .boolean) :: ([.fieldLink RX5 34 "SameAgain$Procedure" "code" "LSameAgain$Code;", .fieldLink RX5 15 "SameAgain$Procedure" "versionAt" "I", .fieldLink RX5 9 "SameAgain$Procedure" "starts" "[I", .fieldLink RX5 19 "SameAgain$Procedure" "takenCount" "I", .methodLink RX5 72 yX0_signAt, .instanceMethod yX0_signAt, .selects RX0 yX0_signAt yX0_signAt, .initialized RX0, .code yX0_signAt cX0_signAt 5 (some .int), .fieldLink RX0 22 "SameAgain$Code" "versionCount" "I", .fieldLink RX0 18 "SameAgain$Code" "lineCount" "I", .fieldLink RX0 15 "SameAgain$Code" "sizes" "[I", .fieldLink RX0 9 "SameAgain$Code" "signs" "[I"] ++ wsX50 ++ wsX00)
def wsX5_hasSameAtBoth : List Cond := .code yX5_hasSameAtBoth cX5_hasSameAtBoth 7 (some .boolean) :: ([.fieldLink RX5 19 "SameAgain$Procedure" "takenCount" "I", .fieldLink RX5 9 "SameAgain$Procedure" "starts" "[I", .fieldLink RX5 34 "SameAgain$Procedure" "code" "LSameAgain$Code;", .fieldLink RX5 15 "SameAgain$Procedure" "versionAt" "I", .methodLink RX5 72 yX0_signAt, .instanceMethod yX0_signAt, .selects RX0 yX0_signAt yX0_signAt, .initialized RX0, .code yX0_signAt cX0_signAt 5 (some .int), .fieldLink RX0 22 "SameAgain$Code" "versionCount" "I", .fieldLink RX0 18 "SameAgain$Code" "lineCount" "I", .fieldLink RX0 15 "SameAgain$Code" "sizes" "[I", .fieldLink RX0 9 "SameAgain$Code" "signs" "[I"] ++ wsX50 ++ wsX00)
def wsX5_stoodAhead_r1 : List Cond := [Cond.methodLink RX5 56 yX5_signsOfLine, Cond.instanceMethod yX5_signsOfLine, Cond.selects RX5 yX5_signsOfLine yX5_signsOfLine, Cond.initialized RX5, Cond.code yX5_signsOfLine cX5_signsOfLine 2 (some .int), Cond.fieldLink RX5 19 "SameAgain$Procedure" "takenCount" "I", Cond.fieldLink RX5 34 "SameAgain$Procedure" "code" "LSameAgain$Code;", Cond.fieldLink RX5 15 "SameAgain$Procedure" "versionAt" "I", Cond.fieldLink RX5 9 "SameAgain$Procedure" "starts" "[I", Cond.methodLink RX5 67 yX0_sizeOf, Cond.instanceMethod yX0_sizeOf, Cond.selects RX0 yX0_sizeOf yX0_sizeOf, Cond.initialized RX0, Cond.code yX0_sizeOf cX0_sizeOf 3 (some .int), Cond.fieldLink RX0 22 "SameAgain$Code" "versionCount" "I", Cond.fieldLink RX0 18 "SameAgain$Code" "lineCount" "I", Cond.fieldLink RX0 15 "SameAgain$Code" "sizes" "[I", Cond.methodLink RX5 76 yX5_hasSameAtBoth, Cond.instanceMethod yX5_hasSameAtBoth, Cond.selects RX5 yX5_hasSameAtBoth yX5_hasSameAtBoth, Cond.code yX5_hasSameAtBoth cX5_hasSameAtBoth 7 (some .boolean), Cond.methodLink RX5 72 yX0_signAt, Cond.instanceMethod yX0_signAt, Cond.selects RX0 yX0_signAt yX0_signAt]
def wsX5_stoodAhead_r2 : List Cond := [Cond.code yX0_signAt cX0_signAt 5 (some .int), Cond.fieldLink RX0 9 "SameAgain$Code" "signs" "[I"]
def wsX5_stoodAhead : List Cond := .code yX5_stoodAhead cX5_stoodAhead 6 (some .boolean) :: ((wsX5_stoodAhead_r1 ++ wsX5_stoodAhead_r2) ++ wsX50 ++ wsX00)
def wsX5_countTold_r1 : List Cond := [Cond.fieldLink RX5 28 "SameAgain$Procedure" "toldCount" "I", Cond.methodLink RX5 56 yX5_signsOfLine, Cond.instanceMethod yX5_signsOfLine, Cond.selects RX5 yX5_signsOfLine yX5_signsOfLine, Cond.initialized RX5, Cond.code yX5_signsOfLine cX5_signsOfLine 2 (some .int), Cond.fieldLink RX5 19 "SameAgain$Procedure" "takenCount" "I", Cond.fieldLink RX5 34 "SameAgain$Procedure" "code" "LSameAgain$Code;", Cond.fieldLink RX5 15 "SameAgain$Procedure" "versionAt" "I", Cond.fieldLink RX5 9 "SameAgain$Procedure" "starts" "[I", Cond.methodLink RX5 67 yX0_sizeOf, Cond.instanceMethod yX0_sizeOf, Cond.selects RX0 yX0_sizeOf yX0_sizeOf, Cond.initialized RX0, Cond.code yX0_sizeOf cX0_sizeOf 3 (some .int), Cond.fieldLink RX0 22 "SameAgain$Code" "versionCount" "I", Cond.fieldLink RX0 18 "SameAgain$Code" "lineCount" "I", Cond.fieldLink RX0 15 "SameAgain$Code" "sizes" "[I", Cond.methodLink RX5 60 yX5_differs, Cond.instanceMethod yX5_differs, Cond.selects RX5 yX5_differs yX5_differs, Cond.code yX5_differs cX5_differs 5 (some .boolean), Cond.methodLink RX5 72 yX0_signAt, Cond.instanceMethod yX0_signAt]
def wsX5_countTold_r2 : List Cond := [Cond.selects RX0 yX0_signAt yX0_signAt, Cond.code yX0_signAt cX0_signAt 5 (some .int), Cond.fieldLink RX0 9 "SameAgain$Code" "signs" "[I", Cond.methodLink RX5 64 yX5_stoodAhead, Cond.instanceMethod yX5_stoodAhead, Cond.selects RX5 yX5_stoodAhead yX5_stoodAhead, Cond.code yX5_stoodAhead cX5_stoodAhead 6 (some .boolean), Cond.methodLink RX5 76 yX5_hasSameAtBoth, Cond.instanceMethod yX5_hasSameAtBoth, Cond.selects RX5 yX5_hasSameAtBoth yX5_hasSameAtBoth, Cond.code yX5_hasSameAtBoth cX5_hasSameAtBoth 7 (some .boolean)]
def wsX5_countTold : List Cond := .code yX5_countTold cX5_countTold 5 none :: ((wsX5_countTold_r1 ++ wsX5_countTold_r2) ++ wsX50 ++ wsX00)
def wsX5_pullOut_r1 : List Cond := [Cond.fieldLink RX5 15 "SameAgain$Procedure" "versionAt" "I", Cond.fieldLink RX5 38 "SameAgain$Procedure" "likeness" "LSameAgain$Likeness;", Cond.fieldLink RX5 19 "SameAgain$Procedure" "takenCount" "I", Cond.fieldLink RX5 28 "SameAgain$Procedure" "toldCount" "I", Cond.fieldLink RX5 31 "SameAgain$Procedure" "saved" "I", Cond.methodLink RX5 42 yX2_startsLike, Cond.instanceMethod yX2_startsLike, Cond.selects RX2 yX2_startsLike yX2_startsLike, Cond.initialized RX2, Cond.code yX2_startsLike cX2_startsLike 5 (some .int), Cond.fieldLink RX2 32 "SameAgain$Likeness" "code" "LSameAgain$Code;", Cond.methodLink RX2 50 yX0_lines, Cond.instanceMethod yX0_lines, Cond.selects RX0 yX0_lines yX0_lines, Cond.initialized RX0, Cond.code yX0_lines cX0_lines 1 (some .int), Cond.fieldLink RX0 18 "SameAgain$Code" "lineCount" "I", Cond.methodLink RX2 91 yX2_reachOf, Cond.instanceMethod yX2_reachOf, Cond.selects RX2 yX2_reachOf yX2_reachOf, Cond.code yX2_reachOf cX2_reachOf 3 (some .int), Cond.fieldLink RX2 18 "SameAgain$Likeness" "reach" "[I", Cond.methodLink RX2 88 yX0_hasLine, Cond.instanceMethod yX0_hasLine]
def wsX5_pullOut_r2 : List Cond := [Cond.selects RX0 yX0_hasLine yX0_hasLine, Cond.code yX0_hasLine cX0_hasLine 2 (some .boolean), Cond.methodLink RX5 48 yX5_take, Cond.instanceMethod yX5_take, Cond.selects RX5 yX5_take yX5_take, Cond.initialized RX5, Cond.code yX5_take cX5_take 5 none, Cond.fieldLink RX5 22 "SameAgain$Procedure" "takenStarts" "I", Cond.fieldLink RX5 25 "SameAgain$Procedure" "takenLines" "I", Cond.fieldLink RX5 9 "SameAgain$Procedure" "starts" "[I", Cond.methodLink RX5 52 yX5_countTold, Cond.instanceMethod yX5_countTold, Cond.selects RX5 yX5_countTold yX5_countTold, Cond.code yX5_countTold cX5_countTold 5 none, Cond.methodLink RX5 56 yX5_signsOfLine, Cond.instanceMethod yX5_signsOfLine, Cond.selects RX5 yX5_signsOfLine yX5_signsOfLine, Cond.code yX5_signsOfLine cX5_signsOfLine 2 (some .int), Cond.fieldLink RX5 34 "SameAgain$Procedure" "code" "LSameAgain$Code;", Cond.methodLink RX5 67 yX0_sizeOf, Cond.instanceMethod yX0_sizeOf, Cond.selects RX0 yX0_sizeOf yX0_sizeOf, Cond.code yX0_sizeOf cX0_sizeOf 3 (some .int), Cond.fieldLink RX0 22 "SameAgain$Code" "versionCount" "I"]
def wsX5_pullOut_r3 : List Cond := [Cond.fieldLink RX0 15 "SameAgain$Code" "sizes" "[I", Cond.methodLink RX5 60 yX5_differs, Cond.instanceMethod yX5_differs, Cond.selects RX5 yX5_differs yX5_differs, Cond.code yX5_differs cX5_differs 5 (some .boolean), Cond.methodLink RX5 72 yX0_signAt, Cond.instanceMethod yX0_signAt, Cond.selects RX0 yX0_signAt yX0_signAt, Cond.code yX0_signAt cX0_signAt 5 (some .int), Cond.fieldLink RX0 9 "SameAgain$Code" "signs" "[I", Cond.methodLink RX5 64 yX5_stoodAhead, Cond.instanceMethod yX5_stoodAhead, Cond.selects RX5 yX5_stoodAhead yX5_stoodAhead, Cond.code yX5_stoodAhead cX5_stoodAhead 6 (some .boolean), Cond.methodLink RX5 76 yX5_hasSameAtBoth, Cond.instanceMethod yX5_hasSameAtBoth, Cond.selects RX5 yX5_hasSameAtBoth yX5_hasSameAtBoth, Cond.code yX5_hasSameAtBoth cX5_hasSameAtBoth 7 (some .boolean)]
def wsX5_pullOut : List Cond := .code yX5_pullOut cX5_pullOut 4 none :: ((wsX5_pullOut_r1 ++ (wsX5_pullOut_r2 ++ wsX5_pullOut_r3)) ++ wsX50 ++ wsX20 ++ wsX00)
def wsX4_note : List Cond := .code yX4_note cX4_note 3 none :: ([.fieldLink RX4 39 "SameAgain$Plan" "procedure" "LSameAgain$Procedure;", .fieldLink RX4 18 "SameAgain$Plan" "count" "I", .fieldLink RX4 9 "SameAgain$Plan" "saves" "[I", .fieldLink RX4 15 "SameAgain$Plan" "lines" "[I", .fieldLink RX4 22 "SameAgain$Plan" "bestSaved" "I", .fieldLink RX4 25 "SameAgain$Plan" "bestStart" "I", .fieldLink RX4 28 "SameAgain$Plan" "bestLength" "I"] ++ wsX40 ++ wsX50)
def wsX4_lookAtAll_r1 : List Cond := [Cond.fieldLink RX4 18 "SameAgain$Plan" "count" "I", Cond.fieldLink RX4 22 "SameAgain$Plan" "bestSaved" "I", Cond.fieldLink RX4 31 "SameAgain$Plan" "code" "LSameAgain$Code;", Cond.fieldLink RX4 35 "SameAgain$Plan" "likeness" "LSameAgain$Likeness;", Cond.fieldLink RX4 39 "SameAgain$Plan" "procedure" "LSameAgain$Procedure;", Cond.methodLink RX4 43 yX0_lines, Cond.instanceMethod yX0_lines, Cond.selects RX0 yX0_lines yX0_lines, Cond.initialized RX0, Cond.code yX0_lines cX0_lines 1 (some .int), Cond.fieldLink RX0 18 "SameAgain$Code" "lineCount" "I", Cond.methodLink RX4 48 yX2_isLeastOfGroup, Cond.instanceMethod yX2_isLeastOfGroup, Cond.selects RX2 yX2_isLeastOfGroup yX2_isLeastOfGroup, Cond.initialized RX2, Cond.code yX2_isLeastOfGroup cX2_isLeastOfGroup 4 (some .boolean), Cond.methodLink RX2 97 yX2_startsLike, Cond.instanceMethod yX2_startsLike, Cond.selects RX2 yX2_startsLike yX2_startsLike, Cond.code yX2_startsLike cX2_startsLike 5 (some .int), Cond.fieldLink RX2 32 "SameAgain$Likeness" "code" "LSameAgain$Code;", Cond.methodLink RX2 50 yX0_lines, Cond.methodLink RX2 91 yX2_reachOf, Cond.instanceMethod yX2_reachOf]
def wsX4_lookAtAll_r2 : List Cond := [Cond.selects RX2 yX2_reachOf yX2_reachOf, Cond.code yX2_reachOf cX2_reachOf 3 (some .int), Cond.fieldLink RX2 18 "SameAgain$Likeness" "reach" "[I", Cond.methodLink RX2 88 yX0_hasLine, Cond.instanceMethod yX0_hasLine, Cond.selects RX0 yX0_hasLine yX0_hasLine, Cond.code yX0_hasLine cX0_hasLine 2 (some .boolean), Cond.methodLink RX2 100 yJ6_bitCount_0f7a4, Cond.static yJ6_bitCount_0f7a4, Cond.initialized RJ6, Cond.code yJ6_bitCount_0f7a4 cJ6_bitCount_0f7a4 1 (some .int), Cond.constant RJ6 265 (1431655765), Cond.constant RJ6 266 (858993459), Cond.constant RJ6 267 (252645135), Cond.methodLink RX2 106 yX2_leastOf, Cond.static yX2_leastOf, Cond.code yX2_leastOf cX2_leastOf 2 (some .int), Cond.methodLink RX4 54 yX5_pullOut, Cond.instanceMethod yX5_pullOut, Cond.selects RX5 yX5_pullOut yX5_pullOut, Cond.initialized RX5, Cond.code yX5_pullOut cX5_pullOut 4 none, Cond.fieldLink RX5 15 "SameAgain$Procedure" "versionAt" "I", Cond.fieldLink RX5 38 "SameAgain$Procedure" "likeness" "LSameAgain$Likeness;"]
def wsX4_lookAtAll_r3 : List Cond := [Cond.fieldLink RX5 19 "SameAgain$Procedure" "takenCount" "I", Cond.fieldLink RX5 28 "SameAgain$Procedure" "toldCount" "I", Cond.fieldLink RX5 31 "SameAgain$Procedure" "saved" "I", Cond.methodLink RX5 42 yX2_startsLike, Cond.methodLink RX5 48 yX5_take, Cond.instanceMethod yX5_take, Cond.selects RX5 yX5_take yX5_take, Cond.code yX5_take cX5_take 5 none, Cond.fieldLink RX5 22 "SameAgain$Procedure" "takenStarts" "I", Cond.fieldLink RX5 25 "SameAgain$Procedure" "takenLines" "I", Cond.fieldLink RX5 9 "SameAgain$Procedure" "starts" "[I", Cond.methodLink RX5 52 yX5_countTold, Cond.instanceMethod yX5_countTold, Cond.selects RX5 yX5_countTold yX5_countTold, Cond.code yX5_countTold cX5_countTold 5 none, Cond.methodLink RX5 56 yX5_signsOfLine, Cond.instanceMethod yX5_signsOfLine, Cond.selects RX5 yX5_signsOfLine yX5_signsOfLine, Cond.code yX5_signsOfLine cX5_signsOfLine 2 (some .int), Cond.fieldLink RX5 34 "SameAgain$Procedure" "code" "LSameAgain$Code;", Cond.methodLink RX5 67 yX0_sizeOf, Cond.instanceMethod yX0_sizeOf, Cond.selects RX0 yX0_sizeOf yX0_sizeOf, Cond.code yX0_sizeOf cX0_sizeOf 3 (some .int)]
def wsX4_lookAtAll_r4 : List Cond := [Cond.fieldLink RX0 22 "SameAgain$Code" "versionCount" "I", Cond.fieldLink RX0 15 "SameAgain$Code" "sizes" "[I", Cond.methodLink RX5 60 yX5_differs, Cond.instanceMethod yX5_differs, Cond.selects RX5 yX5_differs yX5_differs, Cond.code yX5_differs cX5_differs 5 (some .boolean), Cond.methodLink RX5 72 yX0_signAt, Cond.instanceMethod yX0_signAt, Cond.selects RX0 yX0_signAt yX0_signAt, Cond.code yX0_signAt cX0_signAt 5 (some .int), Cond.fieldLink RX0 9 "SameAgain$Code" "signs" "[I", Cond.methodLink RX5 64 yX5_stoodAhead, Cond.instanceMethod yX5_stoodAhead, Cond.selects RX5 yX5_stoodAhead yX5_stoodAhead, Cond.code yX5_stoodAhead cX5_stoodAhead 6 (some .boolean), Cond.methodLink RX5 76 yX5_hasSameAtBoth, Cond.instanceMethod yX5_hasSameAtBoth, Cond.selects RX5 yX5_hasSameAtBoth yX5_hasSameAtBoth, Cond.code yX5_hasSameAtBoth cX5_hasSameAtBoth 7 (some .boolean), Cond.methodLink RX4 60 yX4_note, Cond.instanceMethod yX4_note, Cond.selects RX4 yX4_note yX4_note, Cond.initialized RX4, Cond.code yX4_note cX4_note 3 none]
def wsX4_lookAtAll_r5 : List Cond := [Cond.fieldLink RX4 9 "SameAgain$Plan" "saves" "[I", Cond.fieldLink RX4 15 "SameAgain$Plan" "lines" "[I", Cond.fieldLink RX4 25 "SameAgain$Plan" "bestStart" "I", Cond.fieldLink RX4 28 "SameAgain$Plan" "bestLength" "I"]
def wsX4_lookAtAll : List Cond := .code yX4_lookAtAll cX4_lookAtAll 4 none :: ((wsX4_lookAtAll_r1 ++ (wsX4_lookAtAll_r2 ++ (wsX4_lookAtAll_r3 ++ (wsX4_lookAtAll_r4 ++ wsX4_lookAtAll_r5)))) ++ wsX40 ++ wsX00 ++ wsX20 ++ wsX50)
def wsX4_bestSumOfTwo : List Cond := .code yX4_bestSumOfTwo cX4_bestSumOfTwo 4 (some .int) :: ([.fieldLink RX4 22 "SameAgain$Plan" "bestSaved" "I", .fieldLink RX4 18 "SameAgain$Plan" "count" "I", .fieldLink RX4 15 "SameAgain$Plan" "lines" "[I", .fieldLink RX4 9 "SameAgain$Plan" "saves" "[I", .methodLink RX4 70 Lib.Math.max.name, .static Lib.Math.max.name, .initialized "java/lang/Math", .code Lib.Math.max.name Lib.Math.max.code 2 (some .int)] ++ wsX40)
def wsX5_init : List Cond := .code yX5_init cX5_init 3 none :: ([.methodLink RX5 3 objectInit, .instanceMethod objectInit, .code objectInit ⟨#[0xb1]⟩ 1 none, .arrayClass .int, .fieldLink RX5 9 "SameAgain$Procedure" "starts" "[I", .fieldLink RX5 15 "SameAgain$Procedure" "versionAt" "I", .fieldLink RX5 19 "SameAgain$Procedure" "takenCount" "I", .fieldLink RX5 22 "SameAgain$Procedure" "takenStarts" "I", .fieldLink RX5 25 "SameAgain$Procedure" "takenLines" "I", .fieldLink RX5 28 "SameAgain$Procedure" "toldCount" "I", .fieldLink RX5 31 "SameAgain$Procedure" "saved" "I", .fieldLink RX5 34 "SameAgain$Procedure" "code" "LSameAgain$Code;", .fieldLink RX5 38 "SameAgain$Procedure" "likeness" "LSameAgain$Likeness;"] ++ wsX50)
def wsX6_init : List Cond := .code yX6_init cX6_init 3 none :: ([.methodLink RX6 3 objectInit, .instanceMethod objectInit, .code objectInit ⟨#[0xb1]⟩ 1 none, .fieldLink RX6 9 "SameAgain$Slip" "place" "I", .fieldLink RX6 15 "SameAgain$Slip" "name" "I", .fieldLink RX6 18 "SameAgain$Slip" "code" "LSameAgain$Code;", .fieldLink RX6 22 "SameAgain$Slip" "likeness" "LSameAgain$Likeness;"] ++ wsX60)
def wsX6_seek_r1 : List Cond := [Cond.fieldLink RX6 15 "SameAgain$Slip" "name" "I", Cond.methodLink RX6 26 Lib.Math.abs.name, Cond.static Lib.Math.abs.name, Cond.initialized "java/lang/Math", Cond.code Lib.Math.abs.name Lib.Math.abs.code 1 (some .int), Cond.fieldLink RX6 22 "SameAgain$Slip" "likeness" "LSameAgain$Likeness;", Cond.fieldLink RX6 18 "SameAgain$Slip" "code" "LSameAgain$Code;", Cond.fieldLink RX6 9 "SameAgain$Slip" "place" "I", Cond.methodLink RX6 32 yX2_areThere, Cond.instanceMethod yX2_areThere, Cond.selects RX2 yX2_areThere yX2_areThere, Cond.initialized RX2, Cond.code yX2_areThere cX2_areThere 4 (some .boolean), Cond.methodLink RX2 44 Lib.Math.max.name, Cond.static Lib.Math.max.name, Cond.code Lib.Math.max.name Lib.Math.max.code 2 (some .int), Cond.fieldLink RX2 32 "SameAgain$Likeness" "code" "LSameAgain$Code;", Cond.methodLink RX2 50 yX0_lines, Cond.instanceMethod yX0_lines, Cond.selects RX0 yX0_lines yX0_lines, Cond.initialized RX0, Cond.code yX0_lines cX0_lines 1 (some .int), Cond.fieldLink RX0 18 "SameAgain$Code" "lineCount" "I", Cond.methodLink RX6 38 yX2_rowsAlike]
def wsX6_seek_r2 : List Cond := [Cond.instanceMethod yX2_rowsAlike, Cond.selects RX2 yX2_rowsAlike yX2_rowsAlike, Cond.code yX2_rowsAlike cX2_rowsAlike 6 (some .boolean), Cond.methodLink RX2 36 yX2_areThere, Cond.methodLink RX2 40 yX2_linesAlike, Cond.instanceMethod yX2_linesAlike, Cond.selects RX2 yX2_linesAlike yX2_linesAlike, Cond.code yX2_linesAlike cX2_linesAlike 7 (some .int), Cond.fieldLink RX2 12 "SameAgain$Likeness" "pairing" "LSameAgain$Pairing;", Cond.methodLink RX2 56 yX3_clear, Cond.instanceMethod yX3_clear, Cond.selects RX3 yX3_clear yX3_clear, Cond.initialized RX3, Cond.code yX3_clear cX3_clear 1 none, Cond.fieldLink RX3 15 "SameAgain$Pairing" "namesOfOne" "I", Cond.fieldLink RX3 19 "SameAgain$Pairing" "namesOfOther" "I", Cond.methodLink RX2 59 yX2_lineFits, Cond.instanceMethod yX2_lineFits, Cond.selects RX2 yX2_lineFits yX2_lineFits, Cond.code yX2_lineFits cX2_lineFits 10 (some .boolean), Cond.methodLink RX2 63 yX0_sizeOf, Cond.instanceMethod yX0_sizeOf, Cond.selects RX0 yX0_sizeOf yX0_sizeOf, Cond.code yX0_sizeOf cX0_sizeOf 3 (some .int)]
def wsX6_seek_r3 : List Cond := [Cond.fieldLink RX0 22 "SameAgain$Code" "versionCount" "I", Cond.fieldLink RX0 15 "SameAgain$Code" "sizes" "[I", Cond.methodLink RX2 66 yX0_signAt, Cond.instanceMethod yX0_signAt, Cond.selects RX0 yX0_signAt yX0_signAt, Cond.code yX0_signAt cX0_signAt 5 (some .int), Cond.fieldLink RX0 9 "SameAgain$Code" "signs" "[I", Cond.methodLink RX2 70 yX2_signFits, Cond.instanceMethod yX2_signFits, Cond.selects RX2 yX2_signFits yX2_signFits, Cond.code yX2_signFits cX2_signFits 4 (some .boolean), Cond.static yX7_isName, Cond.initialized RX7, Cond.code yX7_isName cX7_isName 1 (some .boolean), Cond.methodLink RX2 77 yX3_join, Cond.instanceMethod yX3_join, Cond.selects RX3 yX3_join yX3_join, Cond.code yX3_join cX3_join 5 (some .boolean), Cond.fieldLink RX3 9 "SameAgain$Pairing" "partners" "[I", Cond.static yX7_isNumber, Cond.code yX7_isNumber cX7_isNumber 1 (some .boolean), Cond.methodLink RX6 42 yX0_sizeOf, Cond.methodLink RX6 48 yX0_signAt, Cond.methodLink RX6 56 yX2_rowsAlikeBut]
def wsX6_seek_r4 : List Cond := [Cond.instanceMethod yX2_rowsAlikeBut, Cond.selects RX2 yX2_rowsAlikeBut yX2_rowsAlikeBut, Cond.code yX2_rowsAlikeBut cX2_rowsAlikeBut 8 (some .boolean), Cond.methodLink RX6 63 yX3_firstNameThatFits, Cond.instanceMethod yX3_firstNameThatFits, Cond.selects RX3 yX3_firstNameThatFits yX3_firstNameThatFits, Cond.code yX3_firstNameThatFits cX3_firstNameThatFits 3 (some .int), Cond.methodLink RX3 26 yX3_hasPartner, Cond.instanceMethod yX3_hasPartner, Cond.selects RX3 yX3_hasPartner yX3_hasPartner, Cond.code yX3_hasPartner cX3_hasPartner 2 (some .boolean), Cond.methodLink RX3 29 yX3_renamed, Cond.instanceMethod yX3_renamed, Cond.selects RX3 yX3_renamed yX3_renamed, Cond.code yX3_renamed cX3_renamed 2 (some .int)]
def wsX6_seek : List Cond := .code yX6_seek cX6_seek 10 none :: ((wsX6_seek_r1 ++ (wsX6_seek_r2 ++ (wsX6_seek_r3 ++ wsX6_seek_r4))) ++ wsX60 ++ wsX20 ++ wsX00 ++ wsX30)
def wsX7_init_r1 : List Cond := [Cond.methodLink RX7 1 objectInit, Cond.instanceMethod objectInit, Cond.code objectInit ⟨#[0xb1]⟩ 1 none, Cond.classLink RX7 7 RX0, Cond.instantiable RX0 4, Cond.initialized RX0, Cond.fieldLink RX7 10 "SameAgain" "code" "LSameAgain$Code;", Cond.fieldLink RX7 16 "SameAgain" "imageZero" "LSameAgain$Code;", Cond.fieldLink RX7 19 "SameAgain" "imageOne" "LSameAgain$Code;", Cond.arrayClass .int, Cond.fieldLink RX7 22 "SameAgain" "pad" "[I", Cond.classLink RX7 26 RX2, Cond.instantiable RX2 6, Cond.initialized RX2, Cond.fieldLink RX7 31 "SameAgain" "likeness" "LSameAgain$Likeness;", Cond.classLink RX7 35 RX5, Cond.instantiable RX5 9, Cond.initialized RX5, Cond.fieldLink RX7 40 "SameAgain" "procedure" "LSameAgain$Procedure;", Cond.classLink RX7 44 RX4, Cond.instantiable RX4 9, Cond.initialized RX4, Cond.fieldLink RX7 49 "SameAgain" "plan" "LSameAgain$Plan;", Cond.classLink RX7 53 RX6]
def wsX7_init_r2 : List Cond := [Cond.instantiable RX6 4, Cond.initialized RX6, Cond.fieldLink RX7 56 "SameAgain" "slip" "LSameAgain$Slip;", Cond.classLink RX7 60 RX1, Cond.instantiable RX1 2, Cond.initialized RX1, Cond.fieldLink RX7 63 "SameAgain" "distance" "LSameAgain$Distance;", Cond.instanceMethod yX0_init, Cond.code yX0_init cX0_init 1 none, Cond.methodLink RX0 3 objectInit, Cond.fieldLink RX0 9 "SameAgain$Code" "signs" "[I", Cond.fieldLink RX0 15 "SameAgain$Code" "sizes" "[I", Cond.fieldLink RX0 18 "SameAgain$Code" "lineCount" "I", Cond.fieldLink RX0 22 "SameAgain$Code" "versionCount" "I", Cond.methodLink RX7 28 yX2_init, Cond.instanceMethod yX2_init, Cond.code yX2_init cX2_init 2 none, Cond.methodLink RX2 3 objectInit, Cond.classLink RX2 9 RX3, Cond.instantiable RX3 3, Cond.initialized RX3, Cond.fieldLink RX2 12 "SameAgain$Likeness" "pairing" "LSameAgain$Pairing;", Cond.fieldLink RX2 18 "SameAgain$Likeness" "reach" "[I", Cond.fieldLink RX2 22 "SameAgain$Likeness" "longestLength" "I"]
def wsX7_init_r3 : List Cond := [Cond.fieldLink RX2 26 "SameAgain$Likeness" "longestOne" "I", Cond.fieldLink RX2 29 "SameAgain$Likeness" "longestOther" "I", Cond.fieldLink RX2 32 "SameAgain$Likeness" "code" "LSameAgain$Code;", Cond.instanceMethod yX3_init, Cond.code yX3_init cX3_init 1 none, Cond.methodLink RX3 3 objectInit, Cond.fieldLink RX3 9 "SameAgain$Pairing" "partners" "[I", Cond.fieldLink RX3 15 "SameAgain$Pairing" "namesOfOne" "I", Cond.fieldLink RX3 19 "SameAgain$Pairing" "namesOfOther" "I", Cond.methodLink RX7 37 yX5_init, Cond.instanceMethod yX5_init, Cond.code yX5_init cX5_init 3 none, Cond.methodLink RX5 3 objectInit, Cond.fieldLink RX5 9 "SameAgain$Procedure" "starts" "[I", Cond.fieldLink RX5 15 "SameAgain$Procedure" "versionAt" "I", Cond.fieldLink RX5 19 "SameAgain$Procedure" "takenCount" "I", Cond.fieldLink RX5 22 "SameAgain$Procedure" "takenStarts" "I", Cond.fieldLink RX5 25 "SameAgain$Procedure" "takenLines" "I", Cond.fieldLink RX5 28 "SameAgain$Procedure" "toldCount" "I", Cond.fieldLink RX5 31 "SameAgain$Procedure" "saved" "I", Cond.fieldLink RX5 34 "SameAgain$Procedure" "code" "LSameAgain$Code;", Cond.fieldLink RX5 38 "SameAgain$Procedure" "likeness" "LSameAgain$Likeness;", Cond.methodLink RX7 46 yX4_init, Cond.instanceMethod yX4_init]
def wsX7_init_r4 : List Cond := [Cond.code yX4_init cX4_init 4 none, Cond.methodLink RX4 3 objectInit, Cond.fieldLink RX4 9 "SameAgain$Plan" "saves" "[I", Cond.fieldLink RX4 15 "SameAgain$Plan" "lines" "[I", Cond.fieldLink RX4 18 "SameAgain$Plan" "count" "I", Cond.fieldLink RX4 22 "SameAgain$Plan" "bestSaved" "I", Cond.fieldLink RX4 25 "SameAgain$Plan" "bestStart" "I", Cond.fieldLink RX4 28 "SameAgain$Plan" "bestLength" "I", Cond.fieldLink RX4 31 "SameAgain$Plan" "code" "LSameAgain$Code;", Cond.fieldLink RX4 35 "SameAgain$Plan" "likeness" "LSameAgain$Likeness;", Cond.fieldLink RX4 39 "SameAgain$Plan" "procedure" "LSameAgain$Procedure;", Cond.methodLink RX7 55 yX6_init, Cond.instanceMethod yX6_init, Cond.code yX6_init cX6_init 3 none, Cond.methodLink RX6 3 objectInit, Cond.fieldLink RX6 9 "SameAgain$Slip" "place" "I", Cond.fieldLink RX6 15 "SameAgain$Slip" "name" "I", Cond.fieldLink RX6 18 "SameAgain$Slip" "code" "LSameAgain$Code;", Cond.fieldLink RX6 22 "SameAgain$Slip" "likeness" "LSameAgain$Likeness;", Cond.methodLink RX7 62 yX1_init, Cond.instanceMethod yX1_init, Cond.code yX1_init cX1_init 2 none, Cond.methodLink RX1 3 objectInit, Cond.fieldLink RX1 11 "SameAgain$Distance" "costs" "[I"]
def wsX7_init_r5 : List Cond := [Cond.fieldLink RX1 15 "SameAgain$Distance" "code" "LSameAgain$Code;"]
def wsX7_init : List Cond := .code yX7_init cX7_init 1 none :: ((wsX7_init_r1 ++ (wsX7_init_r2 ++ (wsX7_init_r3 ++ (wsX7_init_r4 ++ wsX7_init_r5)))) ++ wsX00 ++ wsX70 ++ wsX20 ++ wsX50 ++ wsX40 ++ wsX60 ++ wsX10 ++ wsX30)
def wsX7_say : List Cond := .code yX7_say cX7_say 2 (some .int) :: ([.fieldLink RX7 67 "SameAgain" "padSize" "I", .fieldLink RX7 22 "SameAgain" "pad" "[I"] ++ wsX70)
def wsX7_wipe : List Cond := .code yX7_wipe cX7_wipe 2 (some .int) :: ([.fieldLink RX7 67 "SameAgain" "padSize" "I"] ++ wsX70)
def wsX7_line_r1 : List Cond := [Cond.fieldLink RX7 10 "SameAgain" "code" "LSameAgain$Code;", Cond.fieldLink RX7 67 "SameAgain" "padSize" "I", Cond.fieldLink RX7 22 "SameAgain" "pad" "[I", Cond.methodLink RX7 71 yX0_lines, Cond.instanceMethod yX0_lines, Cond.selects RX0 yX0_lines yX0_lines, Cond.initialized RX0, Cond.code yX0_lines cX0_lines 1 (some .int), Cond.fieldLink RX0 18 "SameAgain$Code" "lineCount" "I", Cond.methodLink RX7 75 yX0_addLine, Cond.instanceMethod yX0_addLine, Cond.selects RX0 yX0_addLine yX0_addLine, Cond.code yX0_addLine cX0_addLine 4 none, Cond.fieldLink RX0 22 "SameAgain$Code" "versionCount" "I", Cond.methodLink RX0 38 yX0_write, Cond.instanceMethod yX0_write, Cond.selects RX0 yX0_write yX0_write, Cond.code yX0_write cX0_write 6 none, Cond.fieldLink RX0 9 "SameAgain$Code" "signs" "[I", Cond.methodLink RX0 32 arraycopyName, Cond.native arraycopyName, Cond.static arraycopyName, Cond.initialized "java/lang/System", Cond.fieldLink RX0 15 "SameAgain$Code" "sizes" "[I"]
def wsX7_line_r2 : List Cond := [Cond.methodLink RX0 25 yX0_hasVersion, Cond.instanceMethod yX0_hasVersion, Cond.selects RX0 yX0_hasVersion yX0_hasVersion, Cond.code yX0_hasVersion cX0_hasVersion 2 (some .boolean), Cond.methodLink RX0 29 yX0_hasLine, Cond.instanceMethod yX0_hasLine, Cond.selects RX0 yX0_hasLine yX0_hasLine, Cond.code yX0_hasLine cX0_hasLine 2 (some .boolean)]
def wsX7_line : List Cond := .code yX7_line cX7_line 2 (some .int) :: ((wsX7_line_r1 ++ wsX7_line_r2) ++ wsX70 ++ wsX00)
def wsX7_change_r1 : List Cond := [Cond.fieldLink RX7 10 "SameAgain" "code" "LSameAgain$Code;", Cond.fieldLink RX7 67 "SameAgain" "padSize" "I", Cond.fieldLink RX7 22 "SameAgain" "pad" "[I", Cond.methodLink RX7 79 yX0_hasLine, Cond.instanceMethod yX0_hasLine, Cond.selects RX0 yX0_hasLine yX0_hasLine, Cond.initialized RX0, Cond.code yX0_hasLine cX0_hasLine 2 (some .boolean), Cond.fieldLink RX0 18 "SameAgain$Code" "lineCount" "I", Cond.methodLink RX7 83 yX0_versions, Cond.instanceMethod yX0_versions, Cond.selects RX0 yX0_versions yX0_versions, Cond.code yX0_versions cX0_versions 1 (some .int), Cond.fieldLink RX0 22 "SameAgain$Code" "versionCount" "I", Cond.methodLink RX7 86 yX0_write, Cond.instanceMethod yX0_write, Cond.selects RX0 yX0_write yX0_write, Cond.code yX0_write cX0_write 6 none, Cond.fieldLink RX0 9 "SameAgain$Code" "signs" "[I", Cond.methodLink RX0 32 arraycopyName, Cond.native arraycopyName, Cond.static arraycopyName, Cond.initialized "java/lang/System", Cond.fieldLink RX0 15 "SameAgain$Code" "sizes" "[I"]
def wsX7_change_r2 : List Cond := [Cond.methodLink RX0 25 yX0_hasVersion, Cond.instanceMethod yX0_hasVersion, Cond.selects RX0 yX0_hasVersion yX0_hasVersion, Cond.code yX0_hasVersion cX0_hasVersion 2 (some .boolean), Cond.methodLink RX0 29 yX0_hasLine]
def wsX7_change : List Cond := .code yX7_change cX7_change 2 (some .int) :: ((wsX7_change_r1 ++ wsX7_change_r2) ++ wsX70 ++ wsX00)
def wsX7_version : List Cond := .code yX7_version cX7_version 1 (some .int) :: ([.fieldLink RX7 10 "SameAgain" "code" "LSameAgain$Code;", .methodLink RX7 83 yX0_versions, .instanceMethod yX0_versions, .selects RX0 yX0_versions yX0_versions, .initialized RX0, .code yX0_versions cX0_versions 1 (some .int), .fieldLink RX0 22 "SameAgain$Code" "versionCount" "I", .methodLink RX7 90 yX0_addVersion, .instanceMethod yX0_addVersion, .selects RX0 yX0_addVersion yX0_addVersion, .code yX0_addVersion cX0_addVersion 3 none, .fieldLink RX0 15 "SameAgain$Code" "sizes" "[I", .methodLink RX0 32 arraycopyName, .native arraycopyName, .static arraycopyName, .initialized "java/lang/System", .fieldLink RX0 9 "SameAgain$Code" "signs" "[I"] ++ wsX70 ++ wsX00)
def wsX7_sign : List Cond := .code yX7_sign cX7_sign 5 (some .int) :: ([.fieldLink RX7 10 "SameAgain" "code" "LSameAgain$Code;", .methodLink RX7 93 yX0_hasVersion, .instanceMethod yX0_hasVersion, .selects RX0 yX0_hasVersion yX0_hasVersion, .initialized RX0, .code yX0_hasVersion cX0_hasVersion 2 (some .boolean), .fieldLink RX0 22 "SameAgain$Code" "versionCount" "I", .methodLink RX7 79 yX0_hasLine, .instanceMethod yX0_hasLine, .selects RX0 yX0_hasLine yX0_hasLine, .code yX0_hasLine cX0_hasLine 2 (some .boolean), .fieldLink RX0 18 "SameAgain$Code" "lineCount" "I", .methodLink RX7 96 yX0_sizeOf, .instanceMethod yX0_sizeOf, .selects RX0 yX0_sizeOf yX0_sizeOf, .code yX0_sizeOf cX0_sizeOf 3 (some .int), .fieldLink RX0 15 "SameAgain$Code" "sizes" "[I", .methodLink RX7 100 yX0_signAt, .instanceMethod yX0_signAt, .selects RX0 yX0_signAt yX0_signAt, .code yX0_signAt cX0_signAt 5 (some .int), .fieldLink RX0 9 "SameAgain$Code" "signs" "[I"] ++ wsX70 ++ wsX00)
def wsX7_isUpTo : List Cond := .code yX7_isUpTo cX7_isUpTo 2 (some .boolean) :: ([])
def wsX7_isWay : List Cond := .code yX7_isWay cX7_isWay 1 (some .boolean) :: ([.methodLink RX7 119 yX7_isUpTo, .static yX7_isUpTo, .initialized RX7, .code yX7_isUpTo cX7_isUpTo 2 (some .boolean)])
def wsX7_isStart : List Cond := .code yX7_isStart cX7_isStart 1 (some .boolean) :: ([.methodLink RX7 119 yX7_isUpTo, .static yX7_isUpTo, .initialized RX7, .code yX7_isUpTo cX7_isUpTo 2 (some .boolean)])
def wsX7_isLength : List Cond := .code yX7_isLength cX7_isLength 1 (some .boolean) :: ([])
def wsX7_areRows : List Cond := .code yX7_areRows cX7_areRows 3 (some .boolean) :: ([.methodLink RX7 139 yX7_isStart, .static yX7_isStart, .initialized RX7, .code yX7_isStart cX7_isStart 1 (some .boolean), .methodLink RX7 119 yX7_isUpTo, .static yX7_isUpTo, .code yX7_isUpTo cX7_isUpTo 2 (some .boolean), .methodLink RX7 142 yX7_isLength, .static yX7_isLength, .code yX7_isLength cX7_isLength 1 (some .boolean)])
def wsX7_refusalIn : List Cond := .code yX7_refusalIn cX7_refusalIn 3 (some .int) :: ([.fieldLink RX7 10 "SameAgain" "code" "LSameAgain$Code;", .methodLink RX7 93 yX0_hasVersion, .instanceMethod yX0_hasVersion, .selects RX0 yX0_hasVersion yX0_hasVersion, .initialized RX0, .code yX0_hasVersion cX0_hasVersion 2 (some .boolean), .fieldLink RX0 22 "SameAgain$Code" "versionCount" "I"] ++ wsX70 ++ wsX00)
def wsX7_alike_r1 : List Cond := [Cond.fieldLink RX7 31 "SameAgain" "likeness" "LSameAgain$Likeness;", Cond.methodLink RX7 104 yX7_isWay, Cond.static yX7_isWay, Cond.initialized RX7, Cond.code yX7_isWay cX7_isWay 1 (some .boolean), Cond.methodLink RX7 119 yX7_isUpTo, Cond.static yX7_isUpTo, Cond.code yX7_isUpTo cX7_isUpTo 2 (some .boolean), Cond.methodLink RX7 107 yX7_areRows, Cond.static yX7_areRows, Cond.code yX7_areRows cX7_areRows 3 (some .boolean), Cond.methodLink RX7 139 yX7_isStart, Cond.static yX7_isStart, Cond.code yX7_isStart cX7_isStart 1 (some .boolean), Cond.methodLink RX7 142 yX7_isLength, Cond.static yX7_isLength, Cond.code yX7_isLength cX7_isLength 1 (some .boolean), Cond.methodLink RX7 111 yX7_refusalIn, Cond.instanceMethod yX7_refusalIn, Cond.selects RX7 yX7_refusalIn yX7_refusalIn, Cond.code yX7_refusalIn cX7_refusalIn 3 (some .int), Cond.fieldLink RX7 10 "SameAgain" "code" "LSameAgain$Code;", Cond.methodLink RX7 93 yX0_hasVersion, Cond.instanceMethod yX0_hasVersion]
def wsX7_alike_r2 : List Cond := [Cond.selects RX0 yX0_hasVersion yX0_hasVersion, Cond.initialized RX0, Cond.code yX0_hasVersion cX0_hasVersion 2 (some .boolean), Cond.fieldLink RX0 22 "SameAgain$Code" "versionCount" "I", Cond.methodLink RX7 115 yX2_rowsAlike, Cond.instanceMethod yX2_rowsAlike, Cond.selects RX2 yX2_rowsAlike yX2_rowsAlike, Cond.initialized RX2, Cond.code yX2_rowsAlike cX2_rowsAlike 6 (some .boolean), Cond.methodLink RX2 36 yX2_areThere, Cond.instanceMethod yX2_areThere, Cond.selects RX2 yX2_areThere yX2_areThere, Cond.code yX2_areThere cX2_areThere 4 (some .boolean), Cond.methodLink RX2 44 Lib.Math.max.name, Cond.static Lib.Math.max.name, Cond.initialized "java/lang/Math", Cond.code Lib.Math.max.name Lib.Math.max.code 2 (some .int), Cond.fieldLink RX2 32 "SameAgain$Likeness" "code" "LSameAgain$Code;", Cond.methodLink RX2 50 yX0_lines, Cond.instanceMethod yX0_lines, Cond.selects RX0 yX0_lines yX0_lines, Cond.code yX0_lines cX0_lines 1 (some .int), Cond.fieldLink RX0 18 "SameAgain$Code" "lineCount" "I", Cond.methodLink RX2 40 yX2_linesAlike]
def wsX7_alike_r3 : List Cond := [Cond.instanceMethod yX2_linesAlike, Cond.selects RX2 yX2_linesAlike yX2_linesAlike, Cond.code yX2_linesAlike cX2_linesAlike 7 (some .int), Cond.fieldLink RX2 12 "SameAgain$Likeness" "pairing" "LSameAgain$Pairing;", Cond.methodLink RX2 56 yX3_clear, Cond.instanceMethod yX3_clear, Cond.selects RX3 yX3_clear yX3_clear, Cond.initialized RX3, Cond.code yX3_clear cX3_clear 1 none, Cond.fieldLink RX3 15 "SameAgain$Pairing" "namesOfOne" "I", Cond.fieldLink RX3 19 "SameAgain$Pairing" "namesOfOther" "I", Cond.methodLink RX2 59 yX2_lineFits, Cond.instanceMethod yX2_lineFits, Cond.selects RX2 yX2_lineFits yX2_lineFits, Cond.code yX2_lineFits cX2_lineFits 10 (some .boolean), Cond.methodLink RX2 63 yX0_sizeOf, Cond.instanceMethod yX0_sizeOf, Cond.selects RX0 yX0_sizeOf yX0_sizeOf, Cond.code yX0_sizeOf cX0_sizeOf 3 (some .int), Cond.fieldLink RX0 15 "SameAgain$Code" "sizes" "[I", Cond.methodLink RX2 66 yX0_signAt, Cond.instanceMethod yX0_signAt, Cond.selects RX0 yX0_signAt yX0_signAt, Cond.code yX0_signAt cX0_signAt 5 (some .int)]
def wsX7_alike_r4 : List Cond := [Cond.fieldLink RX0 9 "SameAgain$Code" "signs" "[I", Cond.methodLink RX2 70 yX2_signFits, Cond.instanceMethod yX2_signFits, Cond.selects RX2 yX2_signFits yX2_signFits, Cond.code yX2_signFits cX2_signFits 4 (some .boolean), Cond.static yX7_isName, Cond.code yX7_isName cX7_isName 1 (some .boolean), Cond.methodLink RX2 77 yX3_join, Cond.instanceMethod yX3_join, Cond.selects RX3 yX3_join yX3_join, Cond.code yX3_join cX3_join 5 (some .boolean), Cond.fieldLink RX3 9 "SameAgain$Pairing" "partners" "[I", Cond.static yX7_isNumber, Cond.code yX7_isNumber cX7_isNumber 1 (some .boolean)]
def wsX7_alike : List Cond := .code yX7_alike cX7_alike 7 (some .int) :: ((wsX7_alike_r1 ++ (wsX7_alike_r2 ++ (wsX7_alike_r3 ++ wsX7_alike_r4))) ++ wsX70 ++ wsX00 ++ wsX20 ++ wsX30)
def wsX7_longest_r1 : List Cond := [Cond.fieldLink RX7 31 "SameAgain" "likeness" "LSameAgain$Likeness;", Cond.methodLink RX7 104 yX7_isWay, Cond.static yX7_isWay, Cond.initialized RX7, Cond.code yX7_isWay cX7_isWay 1 (some .boolean), Cond.methodLink RX7 119 yX7_isUpTo, Cond.static yX7_isUpTo, Cond.code yX7_isUpTo cX7_isUpTo 2 (some .boolean), Cond.methodLink RX7 111 yX7_refusalIn, Cond.instanceMethod yX7_refusalIn, Cond.selects RX7 yX7_refusalIn yX7_refusalIn, Cond.code yX7_refusalIn cX7_refusalIn 3 (some .int), Cond.fieldLink RX7 10 "SameAgain" "code" "LSameAgain$Code;", Cond.methodLink RX7 93 yX0_hasVersion, Cond.instanceMethod yX0_hasVersion, Cond.selects RX0 yX0_hasVersion yX0_hasVersion, Cond.initialized RX0, Cond.code yX0_hasVersion cX0_hasVersion 2 (some .boolean), Cond.fieldLink RX0 22 "SameAgain$Code" "versionCount" "I", Cond.methodLink RX7 123 yX2_compareAll, Cond.instanceMethod yX2_compareAll, Cond.selects RX2 yX2_compareAll yX2_compareAll, Cond.initialized RX2, Cond.code yX2_compareAll cX2_compareAll 7 none]
def wsX7_longest_r2 : List Cond := [Cond.fieldLink RX2 32 "SameAgain$Likeness" "code" "LSameAgain$Code;", Cond.methodLink RX2 50 yX0_lines, Cond.instanceMethod yX0_lines, Cond.selects RX0 yX0_lines yX0_lines, Cond.code yX0_lines cX0_lines 1 (some .int), Cond.fieldLink RX0 18 "SameAgain$Code" "lineCount" "I", Cond.methodLink RX2 84 yX2_setReach, Cond.instanceMethod yX2_setReach, Cond.selects RX2 yX2_setReach yX2_setReach, Cond.code yX2_setReach cX2_setReach 4 none, Cond.fieldLink RX2 18 "SameAgain$Likeness" "reach" "[I", Cond.methodLink RX2 88 yX0_hasLine, Cond.instanceMethod yX0_hasLine, Cond.selects RX0 yX0_hasLine yX0_hasLine, Cond.code yX0_hasLine cX0_hasLine 2 (some .boolean), Cond.methodLink RX2 40 yX2_linesAlike, Cond.instanceMethod yX2_linesAlike, Cond.selects RX2 yX2_linesAlike yX2_linesAlike, Cond.code yX2_linesAlike cX2_linesAlike 7 (some .int), Cond.fieldLink RX2 12 "SameAgain$Likeness" "pairing" "LSameAgain$Pairing;", Cond.methodLink RX2 56 yX3_clear, Cond.instanceMethod yX3_clear, Cond.selects RX3 yX3_clear yX3_clear, Cond.initialized RX3]
def wsX7_longest_r3 : List Cond := [Cond.code yX3_clear cX3_clear 1 none, Cond.fieldLink RX3 15 "SameAgain$Pairing" "namesOfOne" "I", Cond.fieldLink RX3 19 "SameAgain$Pairing" "namesOfOther" "I", Cond.methodLink RX2 59 yX2_lineFits, Cond.instanceMethod yX2_lineFits, Cond.selects RX2 yX2_lineFits yX2_lineFits, Cond.code yX2_lineFits cX2_lineFits 10 (some .boolean), Cond.methodLink RX2 63 yX0_sizeOf, Cond.instanceMethod yX0_sizeOf, Cond.selects RX0 yX0_sizeOf yX0_sizeOf, Cond.code yX0_sizeOf cX0_sizeOf 3 (some .int), Cond.fieldLink RX0 15 "SameAgain$Code" "sizes" "[I", Cond.methodLink RX2 66 yX0_signAt, Cond.instanceMethod yX0_signAt, Cond.selects RX0 yX0_signAt yX0_signAt, Cond.code yX0_signAt cX0_signAt 5 (some .int), Cond.fieldLink RX0 9 "SameAgain$Code" "signs" "[I", Cond.methodLink RX2 70 yX2_signFits, Cond.instanceMethod yX2_signFits, Cond.selects RX2 yX2_signFits yX2_signFits, Cond.code yX2_signFits cX2_signFits 4 (some .boolean), Cond.static yX7_isName, Cond.code yX7_isName cX7_isName 1 (some .boolean), Cond.methodLink RX2 77 yX3_join]
def wsX7_longest_r4 : List Cond := [Cond.instanceMethod yX3_join, Cond.selects RX3 yX3_join yX3_join, Cond.code yX3_join cX3_join 5 (some .boolean), Cond.fieldLink RX3 9 "SameAgain$Pairing" "partners" "[I", Cond.static yX7_isNumber, Cond.code yX7_isNumber cX7_isNumber 1 (some .boolean), Cond.methodLink RX7 127 yX2_seekLongest, Cond.instanceMethod yX2_seekLongest, Cond.selects RX2 yX2_seekLongest yX2_seekLongest, Cond.code yX2_seekLongest cX2_seekLongest 4 none, Cond.fieldLink RX2 22 "SameAgain$Likeness" "longestLength" "I", Cond.methodLink RX2 94 Lib.Math.min.name, Cond.static Lib.Math.min.name, Cond.initialized "java/lang/Math", Cond.code Lib.Math.min.name Lib.Math.min.code 2 (some .int), Cond.fieldLink RX2 26 "SameAgain$Likeness" "longestOne" "I", Cond.fieldLink RX2 29 "SameAgain$Likeness" "longestOther" "I", Cond.methodLink RX2 91 yX2_reachOf, Cond.instanceMethod yX2_reachOf, Cond.selects RX2 yX2_reachOf yX2_reachOf, Cond.code yX2_reachOf cX2_reachOf 3 (some .int)]
def wsX7_longest : List Cond := .code yX7_longest cX7_longest 5 (some .int) :: ((wsX7_longest_r1 ++ (wsX7_longest_r2 ++ (wsX7_longest_r3 ++ wsX7_longest_r4))) ++ wsX70 ++ wsX20 ++ wsX00 ++ wsX30)
def wsX7_like_r1 : List Cond := [Cond.fieldLink RX7 31 "SameAgain" "likeness" "LSameAgain$Likeness;", Cond.methodLink RX7 104 yX7_isWay, Cond.static yX7_isWay, Cond.initialized RX7, Cond.code yX7_isWay cX7_isWay 1 (some .boolean), Cond.methodLink RX7 119 yX7_isUpTo, Cond.static yX7_isUpTo, Cond.code yX7_isUpTo cX7_isUpTo 2 (some .boolean), Cond.methodLink RX7 139 yX7_isStart, Cond.static yX7_isStart, Cond.code yX7_isStart cX7_isStart 1 (some .boolean), Cond.methodLink RX7 142 yX7_isLength, Cond.static yX7_isLength, Cond.code yX7_isLength cX7_isLength 1 (some .boolean), Cond.methodLink RX7 111 yX7_refusalIn, Cond.instanceMethod yX7_refusalIn, Cond.selects RX7 yX7_refusalIn yX7_refusalIn, Cond.code yX7_refusalIn cX7_refusalIn 3 (some .int), Cond.fieldLink RX7 10 "SameAgain" "code" "LSameAgain$Code;", Cond.methodLink RX7 93 yX0_hasVersion, Cond.instanceMethod yX0_hasVersion, Cond.selects RX0 yX0_hasVersion yX0_hasVersion, Cond.initialized RX0, Cond.code yX0_hasVersion cX0_hasVersion 2 (some .boolean)]
def wsX7_like_r2 : List Cond := [Cond.fieldLink RX0 22 "SameAgain$Code" "versionCount" "I", Cond.methodLink RX7 123 yX2_compareAll, Cond.instanceMethod yX2_compareAll, Cond.selects RX2 yX2_compareAll yX2_compareAll, Cond.initialized RX2, Cond.code yX2_compareAll cX2_compareAll 7 none, Cond.fieldLink RX2 32 "SameAgain$Likeness" "code" "LSameAgain$Code;", Cond.methodLink RX2 50 yX0_lines, Cond.instanceMethod yX0_lines, Cond.selects RX0 yX0_lines yX0_lines, Cond.code yX0_lines cX0_lines 1 (some .int), Cond.fieldLink RX0 18 "SameAgain$Code" "lineCount" "I", Cond.methodLink RX2 84 yX2_setReach, Cond.instanceMethod yX2_setReach, Cond.selects RX2 yX2_setReach yX2_setReach, Cond.code yX2_setReach cX2_setReach 4 none, Cond.fieldLink RX2 18 "SameAgain$Likeness" "reach" "[I", Cond.methodLink RX2 88 yX0_hasLine, Cond.instanceMethod yX0_hasLine, Cond.selects RX0 yX0_hasLine yX0_hasLine, Cond.code yX0_hasLine cX0_hasLine 2 (some .boolean), Cond.methodLink RX2 40 yX2_linesAlike, Cond.instanceMethod yX2_linesAlike, Cond.selects RX2 yX2_linesAlike yX2_linesAlike]
def wsX7_like_r3 : List Cond := [Cond.code yX2_linesAlike cX2_linesAlike 7 (some .int), Cond.fieldLink RX2 12 "SameAgain$Likeness" "pairing" "LSameAgain$Pairing;", Cond.methodLink RX2 56 yX3_clear, Cond.instanceMethod yX3_clear, Cond.selects RX3 yX3_clear yX3_clear, Cond.initialized RX3, Cond.code yX3_clear cX3_clear 1 none, Cond.fieldLink RX3 15 "SameAgain$Pairing" "namesOfOne" "I", Cond.fieldLink RX3 19 "SameAgain$Pairing" "namesOfOther" "I", Cond.methodLink RX2 59 yX2_lineFits, Cond.instanceMethod yX2_lineFits, Cond.selects RX2 yX2_lineFits yX2_lineFits, Cond.code yX2_lineFits cX2_lineFits 10 (some .boolean), Cond.methodLink RX2 63 yX0_sizeOf, Cond.instanceMethod yX0_sizeOf, Cond.selects RX0 yX0_sizeOf yX0_sizeOf, Cond.code yX0_sizeOf cX0_sizeOf 3 (some .int), Cond.fieldLink RX0 15 "SameAgain$Code" "sizes" "[I", Cond.methodLink RX2 66 yX0_signAt, Cond.instanceMethod yX0_signAt, Cond.selects RX0 yX0_signAt yX0_signAt, Cond.code yX0_signAt cX0_signAt 5 (some .int), Cond.fieldLink RX0 9 "SameAgain$Code" "signs" "[I", Cond.methodLink RX2 70 yX2_signFits]
def wsX7_like_r4 : List Cond := [Cond.instanceMethod yX2_signFits, Cond.selects RX2 yX2_signFits yX2_signFits, Cond.code yX2_signFits cX2_signFits 4 (some .boolean), Cond.static yX7_isName, Cond.code yX7_isName cX7_isName 1 (some .boolean), Cond.methodLink RX2 77 yX3_join, Cond.instanceMethod yX3_join, Cond.selects RX3 yX3_join yX3_join, Cond.code yX3_join cX3_join 5 (some .boolean), Cond.fieldLink RX3 9 "SameAgain$Pairing" "partners" "[I", Cond.static yX7_isNumber, Cond.code yX7_isNumber cX7_isNumber 1 (some .boolean), Cond.methodLink RX7 145 yX2_startsLike, Cond.instanceMethod yX2_startsLike, Cond.selects RX2 yX2_startsLike yX2_startsLike, Cond.code yX2_startsLike cX2_startsLike 5 (some .int), Cond.methodLink RX2 91 yX2_reachOf, Cond.instanceMethod yX2_reachOf, Cond.selects RX2 yX2_reachOf yX2_reachOf, Cond.code yX2_reachOf cX2_reachOf 3 (some .int)]
def wsX7_like : List Cond := .code yX7_like cX7_like 6 (some .int) :: ((wsX7_like_r1 ++ (wsX7_like_r2 ++ (wsX7_like_r3 ++ wsX7_like_r4))) ++ wsX70 ++ wsX00 ++ wsX20 ++ wsX30)
def wsX7_groups_r1 : List Cond := [Cond.fieldLink RX7 31 "SameAgain" "likeness" "LSameAgain$Likeness;", Cond.fieldLink RX7 10 "SameAgain" "code" "LSameAgain$Code;", Cond.methodLink RX7 104 yX7_isWay, Cond.static yX7_isWay, Cond.initialized RX7, Cond.code yX7_isWay cX7_isWay 1 (some .boolean), Cond.methodLink RX7 119 yX7_isUpTo, Cond.static yX7_isUpTo, Cond.code yX7_isUpTo cX7_isUpTo 2 (some .boolean), Cond.methodLink RX7 142 yX7_isLength, Cond.static yX7_isLength, Cond.code yX7_isLength cX7_isLength 1 (some .boolean), Cond.methodLink RX7 111 yX7_refusalIn, Cond.instanceMethod yX7_refusalIn, Cond.selects RX7 yX7_refusalIn yX7_refusalIn, Cond.code yX7_refusalIn cX7_refusalIn 3 (some .int), Cond.methodLink RX7 93 yX0_hasVersion, Cond.instanceMethod yX0_hasVersion, Cond.selects RX0 yX0_hasVersion yX0_hasVersion, Cond.initialized RX0, Cond.code yX0_hasVersion cX0_hasVersion 2 (some .boolean), Cond.fieldLink RX0 22 "SameAgain$Code" "versionCount" "I", Cond.methodLink RX7 123 yX2_compareAll, Cond.instanceMethod yX2_compareAll]
def wsX7_groups_r2 : List Cond := [Cond.selects RX2 yX2_compareAll yX2_compareAll, Cond.initialized RX2, Cond.code yX2_compareAll cX2_compareAll 7 none, Cond.fieldLink RX2 32 "SameAgain$Likeness" "code" "LSameAgain$Code;", Cond.methodLink RX2 50 yX0_lines, Cond.instanceMethod yX0_lines, Cond.selects RX0 yX0_lines yX0_lines, Cond.code yX0_lines cX0_lines 1 (some .int), Cond.fieldLink RX0 18 "SameAgain$Code" "lineCount" "I", Cond.methodLink RX2 84 yX2_setReach, Cond.instanceMethod yX2_setReach, Cond.selects RX2 yX2_setReach yX2_setReach, Cond.code yX2_setReach cX2_setReach 4 none, Cond.fieldLink RX2 18 "SameAgain$Likeness" "reach" "[I", Cond.methodLink RX2 88 yX0_hasLine, Cond.instanceMethod yX0_hasLine, Cond.selects RX0 yX0_hasLine yX0_hasLine, Cond.code yX0_hasLine cX0_hasLine 2 (some .boolean), Cond.methodLink RX2 40 yX2_linesAlike, Cond.instanceMethod yX2_linesAlike, Cond.selects RX2 yX2_linesAlike yX2_linesAlike, Cond.code yX2_linesAlike cX2_linesAlike 7 (some .int), Cond.fieldLink RX2 12 "SameAgain$Likeness" "pairing" "LSameAgain$Pairing;", Cond.methodLink RX2 56 yX3_clear]
def wsX7_groups_r3 : List Cond := [Cond.instanceMethod yX3_clear, Cond.selects RX3 yX3_clear yX3_clear, Cond.initialized RX3, Cond.code yX3_clear cX3_clear 1 none, Cond.fieldLink RX3 15 "SameAgain$Pairing" "namesOfOne" "I", Cond.fieldLink RX3 19 "SameAgain$Pairing" "namesOfOther" "I", Cond.methodLink RX2 59 yX2_lineFits, Cond.instanceMethod yX2_lineFits, Cond.selects RX2 yX2_lineFits yX2_lineFits, Cond.code yX2_lineFits cX2_lineFits 10 (some .boolean), Cond.methodLink RX2 63 yX0_sizeOf, Cond.instanceMethod yX0_sizeOf, Cond.selects RX0 yX0_sizeOf yX0_sizeOf, Cond.code yX0_sizeOf cX0_sizeOf 3 (some .int), Cond.fieldLink RX0 15 "SameAgain$Code" "sizes" "[I", Cond.methodLink RX2 66 yX0_signAt, Cond.instanceMethod yX0_signAt, Cond.selects RX0 yX0_signAt yX0_signAt, Cond.code yX0_signAt cX0_signAt 5 (some .int), Cond.fieldLink RX0 9 "SameAgain$Code" "signs" "[I", Cond.methodLink RX2 70 yX2_signFits, Cond.instanceMethod yX2_signFits, Cond.selects RX2 yX2_signFits yX2_signFits, Cond.code yX2_signFits cX2_signFits 4 (some .boolean)]
def wsX7_groups_r4 : List Cond := [Cond.static yX7_isName, Cond.code yX7_isName cX7_isName 1 (some .boolean), Cond.methodLink RX2 77 yX3_join, Cond.instanceMethod yX3_join, Cond.selects RX3 yX3_join yX3_join, Cond.code yX3_join cX3_join 5 (some .boolean), Cond.fieldLink RX3 9 "SameAgain$Pairing" "partners" "[I", Cond.static yX7_isNumber, Cond.code yX7_isNumber cX7_isNumber 1 (some .boolean), Cond.methodLink RX7 71 yX0_lines, Cond.methodLink RX7 148 yX2_isLeastOfGroup, Cond.instanceMethod yX2_isLeastOfGroup, Cond.selects RX2 yX2_isLeastOfGroup yX2_isLeastOfGroup, Cond.code yX2_isLeastOfGroup cX2_isLeastOfGroup 4 (some .boolean), Cond.methodLink RX2 97 yX2_startsLike, Cond.instanceMethod yX2_startsLike, Cond.selects RX2 yX2_startsLike yX2_startsLike, Cond.code yX2_startsLike cX2_startsLike 5 (some .int), Cond.methodLink RX2 91 yX2_reachOf, Cond.instanceMethod yX2_reachOf, Cond.selects RX2 yX2_reachOf yX2_reachOf, Cond.code yX2_reachOf cX2_reachOf 3 (some .int), Cond.methodLink RX2 100 yJ6_bitCount_0f7a4, Cond.static yJ6_bitCount_0f7a4]
def wsX7_groups_r5 : List Cond := [Cond.initialized RJ6, Cond.code yJ6_bitCount_0f7a4 cJ6_bitCount_0f7a4 1 (some .int), Cond.constant RJ6 265 (1431655765), Cond.constant RJ6 266 (858993459), Cond.constant RJ6 267 (252645135), Cond.methodLink RX2 106 yX2_leastOf, Cond.static yX2_leastOf, Cond.code yX2_leastOf cX2_leastOf 2 (some .int)]
def wsX7_groups : List Cond := .code yX7_groups cX7_groups 8 (some .int) :: ((wsX7_groups_r1 ++ (wsX7_groups_r2 ++ (wsX7_groups_r3 ++ (wsX7_groups_r4 ++ wsX7_groups_r5)))) ++ wsX70 ++ wsX00 ++ wsX20 ++ wsX30)
def wsX7_whole_r1 : List Cond := [Cond.fieldLink RX7 31 "SameAgain" "likeness" "LSameAgain$Likeness;", Cond.methodLink RX7 104 yX7_isWay, Cond.static yX7_isWay, Cond.initialized RX7, Cond.code yX7_isWay cX7_isWay 1 (some .boolean), Cond.methodLink RX7 119 yX7_isUpTo, Cond.static yX7_isUpTo, Cond.code yX7_isUpTo cX7_isUpTo 2 (some .boolean), Cond.methodLink RX7 139 yX7_isStart, Cond.static yX7_isStart, Cond.code yX7_isStart cX7_isStart 1 (some .boolean), Cond.methodLink RX7 142 yX7_isLength, Cond.static yX7_isLength, Cond.code yX7_isLength cX7_isLength 1 (some .boolean), Cond.methodLink RX7 111 yX7_refusalIn, Cond.instanceMethod yX7_refusalIn, Cond.selects RX7 yX7_refusalIn yX7_refusalIn, Cond.code yX7_refusalIn cX7_refusalIn 3 (some .int), Cond.fieldLink RX7 10 "SameAgain" "code" "LSameAgain$Code;", Cond.methodLink RX7 93 yX0_hasVersion, Cond.instanceMethod yX0_hasVersion, Cond.selects RX0 yX0_hasVersion yX0_hasVersion, Cond.initialized RX0, Cond.code yX0_hasVersion cX0_hasVersion 2 (some .boolean)]
def wsX7_whole_r2 : List Cond := [Cond.fieldLink RX0 22 "SameAgain$Code" "versionCount" "I", Cond.methodLink RX7 123 yX2_compareAll, Cond.instanceMethod yX2_compareAll, Cond.selects RX2 yX2_compareAll yX2_compareAll, Cond.initialized RX2, Cond.code yX2_compareAll cX2_compareAll 7 none, Cond.fieldLink RX2 32 "SameAgain$Likeness" "code" "LSameAgain$Code;", Cond.methodLink RX2 50 yX0_lines, Cond.instanceMethod yX0_lines, Cond.selects RX0 yX0_lines yX0_lines, Cond.code yX0_lines cX0_lines 1 (some .int), Cond.fieldLink RX0 18 "SameAgain$Code" "lineCount" "I", Cond.methodLink RX2 84 yX2_setReach, Cond.instanceMethod yX2_setReach, Cond.selects RX2 yX2_setReach yX2_setReach, Cond.code yX2_setReach cX2_setReach 4 none, Cond.fieldLink RX2 18 "SameAgain$Likeness" "reach" "[I", Cond.methodLink RX2 88 yX0_hasLine, Cond.instanceMethod yX0_hasLine, Cond.selects RX0 yX0_hasLine yX0_hasLine, Cond.code yX0_hasLine cX0_hasLine 2 (some .boolean), Cond.methodLink RX2 40 yX2_linesAlike, Cond.instanceMethod yX2_linesAlike, Cond.selects RX2 yX2_linesAlike yX2_linesAlike]
def wsX7_whole_r3 : List Cond := [Cond.code yX2_linesAlike cX2_linesAlike 7 (some .int), Cond.fieldLink RX2 12 "SameAgain$Likeness" "pairing" "LSameAgain$Pairing;", Cond.methodLink RX2 56 yX3_clear, Cond.instanceMethod yX3_clear, Cond.selects RX3 yX3_clear yX3_clear, Cond.initialized RX3, Cond.code yX3_clear cX3_clear 1 none, Cond.fieldLink RX3 15 "SameAgain$Pairing" "namesOfOne" "I", Cond.fieldLink RX3 19 "SameAgain$Pairing" "namesOfOther" "I", Cond.methodLink RX2 59 yX2_lineFits, Cond.instanceMethod yX2_lineFits, Cond.selects RX2 yX2_lineFits yX2_lineFits, Cond.code yX2_lineFits cX2_lineFits 10 (some .boolean), Cond.methodLink RX2 63 yX0_sizeOf, Cond.instanceMethod yX0_sizeOf, Cond.selects RX0 yX0_sizeOf yX0_sizeOf, Cond.code yX0_sizeOf cX0_sizeOf 3 (some .int), Cond.fieldLink RX0 15 "SameAgain$Code" "sizes" "[I", Cond.methodLink RX2 66 yX0_signAt, Cond.instanceMethod yX0_signAt, Cond.selects RX0 yX0_signAt yX0_signAt, Cond.code yX0_signAt cX0_signAt 5 (some .int), Cond.fieldLink RX0 9 "SameAgain$Code" "signs" "[I", Cond.methodLink RX2 70 yX2_signFits]
def wsX7_whole_r4 : List Cond := [Cond.instanceMethod yX2_signFits, Cond.selects RX2 yX2_signFits yX2_signFits, Cond.code yX2_signFits cX2_signFits 4 (some .boolean), Cond.static yX7_isName, Cond.code yX7_isName cX7_isName 1 (some .boolean), Cond.methodLink RX2 77 yX3_join, Cond.instanceMethod yX3_join, Cond.selects RX3 yX3_join yX3_join, Cond.code yX3_join cX3_join 5 (some .boolean), Cond.fieldLink RX3 9 "SameAgain$Pairing" "partners" "[I", Cond.static yX7_isNumber, Cond.code yX7_isNumber cX7_isNumber 1 (some .boolean), Cond.methodLink RX7 145 yX2_startsLike, Cond.instanceMethod yX2_startsLike, Cond.selects RX2 yX2_startsLike yX2_startsLike, Cond.code yX2_startsLike cX2_startsLike 5 (some .int), Cond.methodLink RX2 91 yX2_reachOf, Cond.instanceMethod yX2_reachOf, Cond.selects RX2 yX2_reachOf yX2_reachOf, Cond.code yX2_reachOf cX2_reachOf 3 (some .int), Cond.methodLink RX7 151 yJ6_bitCount_0f7a4, Cond.static yJ6_bitCount_0f7a4, Cond.initialized RJ6, Cond.code yJ6_bitCount_0f7a4 cJ6_bitCount_0f7a4 1 (some .int)]
def wsX7_whole_r5 : List Cond := [Cond.constant RJ6 265 (1431655765), Cond.constant RJ6 266 (858993459), Cond.constant RJ6 267 (252645135), Cond.methodLink RX7 157 yX2_isWithinLonger, Cond.instanceMethod yX2_isWithinLonger, Cond.selects RX2 yX2_isWithinLonger yX2_isWithinLonger, Cond.code yX2_isWithinLonger cX2_isWithinLonger 4 (some .boolean), Cond.methodLink RX2 106 yX2_leastOf, Cond.static yX2_leastOf, Cond.code yX2_leastOf cX2_leastOf 2 (some .int), Cond.methodLink RX2 97 yX2_startsLike]
def wsX7_whole : List Cond := .code yX7_whole cX7_whole 7 (some .int) :: ((wsX7_whole_r1 ++ (wsX7_whole_r2 ++ (wsX7_whole_r3 ++ (wsX7_whole_r4 ++ wsX7_whole_r5)))) ++ wsX70 ++ wsX00 ++ wsX20 ++ wsX30)
def wsX7_pulled_r1 : List Cond := [Cond.fieldLink RX7 31 "SameAgain" "likeness" "LSameAgain$Likeness;", Cond.fieldLink RX7 40 "SameAgain" "procedure" "LSameAgain$Procedure;", Cond.methodLink RX7 104 yX7_isWay, Cond.static yX7_isWay, Cond.initialized RX7, Cond.code yX7_isWay cX7_isWay 1 (some .boolean), Cond.methodLink RX7 119 yX7_isUpTo, Cond.static yX7_isUpTo, Cond.code yX7_isUpTo cX7_isUpTo 2 (some .boolean), Cond.methodLink RX7 139 yX7_isStart, Cond.static yX7_isStart, Cond.code yX7_isStart cX7_isStart 1 (some .boolean), Cond.methodLink RX7 142 yX7_isLength, Cond.static yX7_isLength, Cond.code yX7_isLength cX7_isLength 1 (some .boolean), Cond.methodLink RX7 111 yX7_refusalIn, Cond.instanceMethod yX7_refusalIn, Cond.selects RX7 yX7_refusalIn yX7_refusalIn, Cond.code yX7_refusalIn cX7_refusalIn 3 (some .int), Cond.fieldLink RX7 10 "SameAgain" "code" "LSameAgain$Code;", Cond.methodLink RX7 93 yX0_hasVersion, Cond.instanceMethod yX0_hasVersion, Cond.selects RX0 yX0_hasVersion yX0_hasVersion, Cond.initialized RX0]
def wsX7_pulled_r2 : List Cond := [Cond.code yX0_hasVersion cX0_hasVersion 2 (some .boolean), Cond.fieldLink RX0 22 "SameAgain$Code" "versionCount" "I", Cond.methodLink RX7 123 yX2_compareAll, Cond.instanceMethod yX2_compareAll, Cond.selects RX2 yX2_compareAll yX2_compareAll, Cond.initialized RX2, Cond.code yX2_compareAll cX2_compareAll 7 none, Cond.fieldLink RX2 32 "SameAgain$Likeness" "code" "LSameAgain$Code;", Cond.methodLink RX2 50 yX0_lines, Cond.instanceMethod yX0_lines, Cond.selects RX0 yX0_lines yX0_lines, Cond.code yX0_lines cX0_lines 1 (some .int), Cond.fieldLink RX0 18 "SameAgain$Code" "lineCount" "I", Cond.methodLink RX2 84 yX2_setReach, Cond.instanceMethod yX2_setReach, Cond.selects RX2 yX2_setReach yX2_setReach, Cond.code yX2_setReach cX2_setReach 4 none, Cond.fieldLink RX2 18 "SameAgain$Likeness" "reach" "[I", Cond.methodLink RX2 88 yX0_hasLine, Cond.instanceMethod yX0_hasLine, Cond.selects RX0 yX0_hasLine yX0_hasLine, Cond.code yX0_hasLine cX0_hasLine 2 (some .boolean), Cond.methodLink RX2 40 yX2_linesAlike, Cond.instanceMethod yX2_linesAlike]
def wsX7_pulled_r3 : List Cond := [Cond.selects RX2 yX2_linesAlike yX2_linesAlike, Cond.code yX2_linesAlike cX2_linesAlike 7 (some .int), Cond.fieldLink RX2 12 "SameAgain$Likeness" "pairing" "LSameAgain$Pairing;", Cond.methodLink RX2 56 yX3_clear, Cond.instanceMethod yX3_clear, Cond.selects RX3 yX3_clear yX3_clear, Cond.initialized RX3, Cond.code yX3_clear cX3_clear 1 none, Cond.fieldLink RX3 15 "SameAgain$Pairing" "namesOfOne" "I", Cond.fieldLink RX3 19 "SameAgain$Pairing" "namesOfOther" "I", Cond.methodLink RX2 59 yX2_lineFits, Cond.instanceMethod yX2_lineFits, Cond.selects RX2 yX2_lineFits yX2_lineFits, Cond.code yX2_lineFits cX2_lineFits 10 (some .boolean), Cond.methodLink RX2 63 yX0_sizeOf, Cond.instanceMethod yX0_sizeOf, Cond.selects RX0 yX0_sizeOf yX0_sizeOf, Cond.code yX0_sizeOf cX0_sizeOf 3 (some .int), Cond.fieldLink RX0 15 "SameAgain$Code" "sizes" "[I", Cond.methodLink RX2 66 yX0_signAt, Cond.instanceMethod yX0_signAt, Cond.selects RX0 yX0_signAt yX0_signAt, Cond.code yX0_signAt cX0_signAt 5 (some .int), Cond.fieldLink RX0 9 "SameAgain$Code" "signs" "[I"]
def wsX7_pulled_r4 : List Cond := [Cond.methodLink RX2 70 yX2_signFits, Cond.instanceMethod yX2_signFits, Cond.selects RX2 yX2_signFits yX2_signFits, Cond.code yX2_signFits cX2_signFits 4 (some .boolean), Cond.static yX7_isName, Cond.code yX7_isName cX7_isName 1 (some .boolean), Cond.methodLink RX2 77 yX3_join, Cond.instanceMethod yX3_join, Cond.selects RX3 yX3_join yX3_join, Cond.code yX3_join cX3_join 5 (some .boolean), Cond.fieldLink RX3 9 "SameAgain$Pairing" "partners" "[I", Cond.static yX7_isNumber, Cond.code yX7_isNumber cX7_isNumber 1 (some .boolean), Cond.methodLink RX7 160 yX5_pullOut, Cond.instanceMethod yX5_pullOut, Cond.selects RX5 yX5_pullOut yX5_pullOut, Cond.initialized RX5, Cond.code yX5_pullOut cX5_pullOut 4 none, Cond.fieldLink RX5 15 "SameAgain$Procedure" "versionAt" "I", Cond.fieldLink RX5 38 "SameAgain$Procedure" "likeness" "LSameAgain$Likeness;", Cond.fieldLink RX5 19 "SameAgain$Procedure" "takenCount" "I", Cond.fieldLink RX5 28 "SameAgain$Procedure" "toldCount" "I", Cond.fieldLink RX5 31 "SameAgain$Procedure" "saved" "I", Cond.methodLink RX5 42 yX2_startsLike]
def wsX7_pulled_r5 : List Cond := [Cond.instanceMethod yX2_startsLike, Cond.selects RX2 yX2_startsLike yX2_startsLike, Cond.code yX2_startsLike cX2_startsLike 5 (some .int), Cond.methodLink RX2 91 yX2_reachOf, Cond.instanceMethod yX2_reachOf, Cond.selects RX2 yX2_reachOf yX2_reachOf, Cond.code yX2_reachOf cX2_reachOf 3 (some .int), Cond.methodLink RX5 48 yX5_take, Cond.instanceMethod yX5_take, Cond.selects RX5 yX5_take yX5_take, Cond.code yX5_take cX5_take 5 none, Cond.fieldLink RX5 22 "SameAgain$Procedure" "takenStarts" "I", Cond.fieldLink RX5 25 "SameAgain$Procedure" "takenLines" "I", Cond.fieldLink RX5 9 "SameAgain$Procedure" "starts" "[I", Cond.methodLink RX5 52 yX5_countTold, Cond.instanceMethod yX5_countTold, Cond.selects RX5 yX5_countTold yX5_countTold, Cond.code yX5_countTold cX5_countTold 5 none, Cond.methodLink RX5 56 yX5_signsOfLine, Cond.instanceMethod yX5_signsOfLine, Cond.selects RX5 yX5_signsOfLine yX5_signsOfLine, Cond.code yX5_signsOfLine cX5_signsOfLine 2 (some .int), Cond.fieldLink RX5 34 "SameAgain$Procedure" "code" "LSameAgain$Code;", Cond.methodLink RX5 67 yX0_sizeOf]
def wsX7_pulled_r6 : List Cond := [Cond.methodLink RX5 60 yX5_differs, Cond.instanceMethod yX5_differs, Cond.selects RX5 yX5_differs yX5_differs, Cond.code yX5_differs cX5_differs 5 (some .boolean), Cond.methodLink RX5 72 yX0_signAt, Cond.methodLink RX5 64 yX5_stoodAhead, Cond.instanceMethod yX5_stoodAhead, Cond.selects RX5 yX5_stoodAhead yX5_stoodAhead, Cond.code yX5_stoodAhead cX5_stoodAhead 6 (some .boolean), Cond.methodLink RX5 76 yX5_hasSameAtBoth, Cond.instanceMethod yX5_hasSameAtBoth, Cond.selects RX5 yX5_hasSameAtBoth yX5_hasSameAtBoth, Cond.code yX5_hasSameAtBoth cX5_hasSameAtBoth 7 (some .boolean)]
def wsX7_pulled : List Cond := .code yX7_pulled cX7_pulled 8 (some .int) :: ((wsX7_pulled_r1 ++ (wsX7_pulled_r2 ++ (wsX7_pulled_r3 ++ (wsX7_pulled_r4 ++ (wsX7_pulled_r5 ++ wsX7_pulled_r6))))) ++ wsX70 ++ wsX50 ++ wsX00 ++ wsX20 ++ wsX30)
def wsX7_best_r1 : List Cond := [Cond.fieldLink RX7 31 "SameAgain" "likeness" "LSameAgain$Likeness;", Cond.fieldLink RX7 49 "SameAgain" "plan" "LSameAgain$Plan;", Cond.methodLink RX7 104 yX7_isWay, Cond.static yX7_isWay, Cond.initialized RX7, Cond.code yX7_isWay cX7_isWay 1 (some .boolean), Cond.methodLink RX7 119 yX7_isUpTo, Cond.static yX7_isUpTo, Cond.code yX7_isUpTo cX7_isUpTo 2 (some .boolean), Cond.methodLink RX7 111 yX7_refusalIn, Cond.instanceMethod yX7_refusalIn, Cond.selects RX7 yX7_refusalIn yX7_refusalIn, Cond.code yX7_refusalIn cX7_refusalIn 3 (some .int), Cond.fieldLink RX7 10 "SameAgain" "code" "LSameAgain$Code;", Cond.methodLink RX7 93 yX0_hasVersion, Cond.instanceMethod yX0_hasVersion, Cond.selects RX0 yX0_hasVersion yX0_hasVersion, Cond.initialized RX0, Cond.code yX0_hasVersion cX0_hasVersion 2 (some .boolean), Cond.fieldLink RX0 22 "SameAgain$Code" "versionCount" "I", Cond.methodLink RX7 123 yX2_compareAll, Cond.instanceMethod yX2_compareAll, Cond.selects RX2 yX2_compareAll yX2_compareAll, Cond.initialized RX2]
def wsX7_best_r2 : List Cond := [Cond.code yX2_compareAll cX2_compareAll 7 none, Cond.fieldLink RX2 32 "SameAgain$Likeness" "code" "LSameAgain$Code;", Cond.methodLink RX2 50 yX0_lines, Cond.instanceMethod yX0_lines, Cond.selects RX0 yX0_lines yX0_lines, Cond.code yX0_lines cX0_lines 1 (some .int), Cond.fieldLink RX0 18 "SameAgain$Code" "lineCount" "I", Cond.methodLink RX2 84 yX2_setReach, Cond.instanceMethod yX2_setReach, Cond.selects RX2 yX2_setReach yX2_setReach, Cond.code yX2_setReach cX2_setReach 4 none, Cond.fieldLink RX2 18 "SameAgain$Likeness" "reach" "[I", Cond.methodLink RX2 88 yX0_hasLine, Cond.instanceMethod yX0_hasLine, Cond.selects RX0 yX0_hasLine yX0_hasLine, Cond.code yX0_hasLine cX0_hasLine 2 (some .boolean), Cond.methodLink RX2 40 yX2_linesAlike, Cond.instanceMethod yX2_linesAlike, Cond.selects RX2 yX2_linesAlike yX2_linesAlike, Cond.code yX2_linesAlike cX2_linesAlike 7 (some .int), Cond.fieldLink RX2 12 "SameAgain$Likeness" "pairing" "LSameAgain$Pairing;", Cond.methodLink RX2 56 yX3_clear, Cond.instanceMethod yX3_clear, Cond.selects RX3 yX3_clear yX3_clear]
def wsX7_best_r3 : List Cond := [Cond.initialized RX3, Cond.code yX3_clear cX3_clear 1 none, Cond.fieldLink RX3 15 "SameAgain$Pairing" "namesOfOne" "I", Cond.fieldLink RX3 19 "SameAgain$Pairing" "namesOfOther" "I", Cond.methodLink RX2 59 yX2_lineFits, Cond.instanceMethod yX2_lineFits, Cond.selects RX2 yX2_lineFits yX2_lineFits, Cond.code yX2_lineFits cX2_lineFits 10 (some .boolean), Cond.methodLink RX2 63 yX0_sizeOf, Cond.instanceMethod yX0_sizeOf, Cond.selects RX0 yX0_sizeOf yX0_sizeOf, Cond.code yX0_sizeOf cX0_sizeOf 3 (some .int), Cond.fieldLink RX0 15 "SameAgain$Code" "sizes" "[I", Cond.methodLink RX2 66 yX0_signAt, Cond.instanceMethod yX0_signAt, Cond.selects RX0 yX0_signAt yX0_signAt, Cond.code yX0_signAt cX0_signAt 5 (some .int), Cond.fieldLink RX0 9 "SameAgain$Code" "signs" "[I", Cond.methodLink RX2 70 yX2_signFits, Cond.instanceMethod yX2_signFits, Cond.selects RX2 yX2_signFits yX2_signFits, Cond.code yX2_signFits cX2_signFits 4 (some .boolean), Cond.static yX7_isName, Cond.code yX7_isName cX7_isName 1 (some .boolean)]
def wsX7_best_r4 : List Cond := [Cond.methodLink RX2 77 yX3_join, Cond.instanceMethod yX3_join, Cond.selects RX3 yX3_join yX3_join, Cond.code yX3_join cX3_join 5 (some .boolean), Cond.fieldLink RX3 9 "SameAgain$Pairing" "partners" "[I", Cond.static yX7_isNumber, Cond.code yX7_isNumber cX7_isNumber 1 (some .boolean), Cond.methodLink RX7 176 yX4_lookAtAll, Cond.instanceMethod yX4_lookAtAll, Cond.selects RX4 yX4_lookAtAll yX4_lookAtAll, Cond.initialized RX4, Cond.code yX4_lookAtAll cX4_lookAtAll 4 none, Cond.fieldLink RX4 18 "SameAgain$Plan" "count" "I", Cond.fieldLink RX4 22 "SameAgain$Plan" "bestSaved" "I", Cond.fieldLink RX4 31 "SameAgain$Plan" "code" "LSameAgain$Code;", Cond.fieldLink RX4 35 "SameAgain$Plan" "likeness" "LSameAgain$Likeness;", Cond.fieldLink RX4 39 "SameAgain$Plan" "procedure" "LSameAgain$Procedure;", Cond.methodLink RX4 43 yX0_lines, Cond.methodLink RX4 48 yX2_isLeastOfGroup, Cond.instanceMethod yX2_isLeastOfGroup, Cond.selects RX2 yX2_isLeastOfGroup yX2_isLeastOfGroup, Cond.code yX2_isLeastOfGroup cX2_isLeastOfGroup 4 (some .boolean), Cond.methodLink RX2 97 yX2_startsLike, Cond.instanceMethod yX2_startsLike]
def wsX7_best_r5 : List Cond := [Cond.selects RX2 yX2_startsLike yX2_startsLike, Cond.code yX2_startsLike cX2_startsLike 5 (some .int), Cond.methodLink RX2 91 yX2_reachOf, Cond.instanceMethod yX2_reachOf, Cond.selects RX2 yX2_reachOf yX2_reachOf, Cond.code yX2_reachOf cX2_reachOf 3 (some .int), Cond.methodLink RX2 100 yJ6_bitCount_0f7a4, Cond.static yJ6_bitCount_0f7a4, Cond.initialized RJ6, Cond.code yJ6_bitCount_0f7a4 cJ6_bitCount_0f7a4 1 (some .int), Cond.constant RJ6 265 (1431655765), Cond.constant RJ6 266 (858993459), Cond.constant RJ6 267 (252645135), Cond.methodLink RX2 106 yX2_leastOf, Cond.static yX2_leastOf, Cond.code yX2_leastOf cX2_leastOf 2 (some .int), Cond.methodLink RX4 54 yX5_pullOut, Cond.instanceMethod yX5_pullOut, Cond.selects RX5 yX5_pullOut yX5_pullOut, Cond.initialized RX5, Cond.code yX5_pullOut cX5_pullOut 4 none, Cond.fieldLink RX5 15 "SameAgain$Procedure" "versionAt" "I", Cond.fieldLink RX5 38 "SameAgain$Procedure" "likeness" "LSameAgain$Likeness;", Cond.fieldLink RX5 19 "SameAgain$Procedure" "takenCount" "I"]
def wsX7_best_r6 : List Cond := [Cond.fieldLink RX5 28 "SameAgain$Procedure" "toldCount" "I", Cond.fieldLink RX5 31 "SameAgain$Procedure" "saved" "I", Cond.methodLink RX5 42 yX2_startsLike, Cond.methodLink RX5 48 yX5_take, Cond.instanceMethod yX5_take, Cond.selects RX5 yX5_take yX5_take, Cond.code yX5_take cX5_take 5 none, Cond.fieldLink RX5 22 "SameAgain$Procedure" "takenStarts" "I", Cond.fieldLink RX5 25 "SameAgain$Procedure" "takenLines" "I", Cond.fieldLink RX5 9 "SameAgain$Procedure" "starts" "[I", Cond.methodLink RX5 52 yX5_countTold, Cond.instanceMethod yX5_countTold, Cond.selects RX5 yX5_countTold yX5_countTold, Cond.code yX5_countTold cX5_countTold 5 none, Cond.methodLink RX5 56 yX5_signsOfLine, Cond.instanceMethod yX5_signsOfLine, Cond.selects RX5 yX5_signsOfLine yX5_signsOfLine, Cond.code yX5_signsOfLine cX5_signsOfLine 2 (some .int), Cond.fieldLink RX5 34 "SameAgain$Procedure" "code" "LSameAgain$Code;", Cond.methodLink RX5 67 yX0_sizeOf, Cond.methodLink RX5 60 yX5_differs, Cond.instanceMethod yX5_differs, Cond.selects RX5 yX5_differs yX5_differs, Cond.code yX5_differs cX5_differs 5 (some .boolean)]
def wsX7_best_r7 : List Cond := [Cond.methodLink RX5 72 yX0_signAt, Cond.methodLink RX5 64 yX5_stoodAhead, Cond.instanceMethod yX5_stoodAhead, Cond.selects RX5 yX5_stoodAhead yX5_stoodAhead, Cond.code yX5_stoodAhead cX5_stoodAhead 6 (some .boolean), Cond.methodLink RX5 76 yX5_hasSameAtBoth, Cond.instanceMethod yX5_hasSameAtBoth, Cond.selects RX5 yX5_hasSameAtBoth yX5_hasSameAtBoth, Cond.code yX5_hasSameAtBoth cX5_hasSameAtBoth 7 (some .boolean), Cond.methodLink RX4 60 yX4_note, Cond.instanceMethod yX4_note, Cond.selects RX4 yX4_note yX4_note, Cond.code yX4_note cX4_note 3 none, Cond.fieldLink RX4 9 "SameAgain$Plan" "saves" "[I", Cond.fieldLink RX4 15 "SameAgain$Plan" "lines" "[I", Cond.fieldLink RX4 25 "SameAgain$Plan" "bestStart" "I", Cond.fieldLink RX4 28 "SameAgain$Plan" "bestLength" "I"]
def wsX7_best : List Cond := .code yX7_best cX7_best 5 (some .int) :: ((wsX7_best_r1 ++ (wsX7_best_r2 ++ (wsX7_best_r3 ++ (wsX7_best_r4 ++ (wsX7_best_r5 ++ (wsX7_best_r6 ++ wsX7_best_r7)))))) ++ wsX70 ++ wsX40 ++ wsX00 ++ wsX20 ++ wsX30 ++ wsX50)
def wsX7_two_r1 : List Cond := [Cond.fieldLink RX7 31 "SameAgain" "likeness" "LSameAgain$Likeness;", Cond.fieldLink RX7 49 "SameAgain" "plan" "LSameAgain$Plan;", Cond.methodLink RX7 104 yX7_isWay, Cond.static yX7_isWay, Cond.initialized RX7, Cond.code yX7_isWay cX7_isWay 1 (some .boolean), Cond.methodLink RX7 119 yX7_isUpTo, Cond.static yX7_isUpTo, Cond.code yX7_isUpTo cX7_isUpTo 2 (some .boolean), Cond.methodLink RX7 111 yX7_refusalIn, Cond.instanceMethod yX7_refusalIn, Cond.selects RX7 yX7_refusalIn yX7_refusalIn, Cond.code yX7_refusalIn cX7_refusalIn 3 (some .int), Cond.fieldLink RX7 10 "SameAgain" "code" "LSameAgain$Code;", Cond.methodLink RX7 93 yX0_hasVersion, Cond.instanceMethod yX0_hasVersion, Cond.selects RX0 yX0_hasVersion yX0_hasVersion, Cond.initialized RX0, Cond.code yX0_hasVersion cX0_hasVersion 2 (some .boolean), Cond.fieldLink RX0 22 "SameAgain$Code" "versionCount" "I", Cond.methodLink RX7 123 yX2_compareAll, Cond.instanceMethod yX2_compareAll, Cond.selects RX2 yX2_compareAll yX2_compareAll, Cond.initialized RX2]
def wsX7_two_r2 : List Cond := [Cond.code yX2_compareAll cX2_compareAll 7 none, Cond.fieldLink RX2 32 "SameAgain$Likeness" "code" "LSameAgain$Code;", Cond.methodLink RX2 50 yX0_lines, Cond.instanceMethod yX0_lines, Cond.selects RX0 yX0_lines yX0_lines, Cond.code yX0_lines cX0_lines 1 (some .int), Cond.fieldLink RX0 18 "SameAgain$Code" "lineCount" "I", Cond.methodLink RX2 84 yX2_setReach, Cond.instanceMethod yX2_setReach, Cond.selects RX2 yX2_setReach yX2_setReach, Cond.code yX2_setReach cX2_setReach 4 none, Cond.fieldLink RX2 18 "SameAgain$Likeness" "reach" "[I", Cond.methodLink RX2 88 yX0_hasLine, Cond.instanceMethod yX0_hasLine, Cond.selects RX0 yX0_hasLine yX0_hasLine, Cond.code yX0_hasLine cX0_hasLine 2 (some .boolean), Cond.methodLink RX2 40 yX2_linesAlike, Cond.instanceMethod yX2_linesAlike, Cond.selects RX2 yX2_linesAlike yX2_linesAlike, Cond.code yX2_linesAlike cX2_linesAlike 7 (some .int), Cond.fieldLink RX2 12 "SameAgain$Likeness" "pairing" "LSameAgain$Pairing;", Cond.methodLink RX2 56 yX3_clear, Cond.instanceMethod yX3_clear, Cond.selects RX3 yX3_clear yX3_clear]
def wsX7_two_r3 : List Cond := [Cond.initialized RX3, Cond.code yX3_clear cX3_clear 1 none, Cond.fieldLink RX3 15 "SameAgain$Pairing" "namesOfOne" "I", Cond.fieldLink RX3 19 "SameAgain$Pairing" "namesOfOther" "I", Cond.methodLink RX2 59 yX2_lineFits, Cond.instanceMethod yX2_lineFits, Cond.selects RX2 yX2_lineFits yX2_lineFits, Cond.code yX2_lineFits cX2_lineFits 10 (some .boolean), Cond.methodLink RX2 63 yX0_sizeOf, Cond.instanceMethod yX0_sizeOf, Cond.selects RX0 yX0_sizeOf yX0_sizeOf, Cond.code yX0_sizeOf cX0_sizeOf 3 (some .int), Cond.fieldLink RX0 15 "SameAgain$Code" "sizes" "[I", Cond.methodLink RX2 66 yX0_signAt, Cond.instanceMethod yX0_signAt, Cond.selects RX0 yX0_signAt yX0_signAt, Cond.code yX0_signAt cX0_signAt 5 (some .int), Cond.fieldLink RX0 9 "SameAgain$Code" "signs" "[I", Cond.methodLink RX2 70 yX2_signFits, Cond.instanceMethod yX2_signFits, Cond.selects RX2 yX2_signFits yX2_signFits, Cond.code yX2_signFits cX2_signFits 4 (some .boolean), Cond.static yX7_isName, Cond.code yX7_isName cX7_isName 1 (some .boolean)]
def wsX7_two_r4 : List Cond := [Cond.methodLink RX2 77 yX3_join, Cond.instanceMethod yX3_join, Cond.selects RX3 yX3_join yX3_join, Cond.code yX3_join cX3_join 5 (some .boolean), Cond.fieldLink RX3 9 "SameAgain$Pairing" "partners" "[I", Cond.static yX7_isNumber, Cond.code yX7_isNumber cX7_isNumber 1 (some .boolean), Cond.methodLink RX7 176 yX4_lookAtAll, Cond.instanceMethod yX4_lookAtAll, Cond.selects RX4 yX4_lookAtAll yX4_lookAtAll, Cond.initialized RX4, Cond.code yX4_lookAtAll cX4_lookAtAll 4 none, Cond.fieldLink RX4 18 "SameAgain$Plan" "count" "I", Cond.fieldLink RX4 22 "SameAgain$Plan" "bestSaved" "I", Cond.fieldLink RX4 31 "SameAgain$Plan" "code" "LSameAgain$Code;", Cond.fieldLink RX4 35 "SameAgain$Plan" "likeness" "LSameAgain$Likeness;", Cond.fieldLink RX4 39 "SameAgain$Plan" "procedure" "LSameAgain$Procedure;", Cond.methodLink RX4 43 yX0_lines, Cond.methodLink RX4 48 yX2_isLeastOfGroup, Cond.instanceMethod yX2_isLeastOfGroup, Cond.selects RX2 yX2_isLeastOfGroup yX2_isLeastOfGroup, Cond.code yX2_isLeastOfGroup cX2_isLeastOfGroup 4 (some .boolean), Cond.methodLink RX2 97 yX2_startsLike, Cond.instanceMethod yX2_startsLike]
def wsX7_two_r5 : List Cond := [Cond.selects RX2 yX2_startsLike yX2_startsLike, Cond.code yX2_startsLike cX2_startsLike 5 (some .int), Cond.methodLink RX2 91 yX2_reachOf, Cond.instanceMethod yX2_reachOf, Cond.selects RX2 yX2_reachOf yX2_reachOf, Cond.code yX2_reachOf cX2_reachOf 3 (some .int), Cond.methodLink RX2 100 yJ6_bitCount_0f7a4, Cond.static yJ6_bitCount_0f7a4, Cond.initialized RJ6, Cond.code yJ6_bitCount_0f7a4 cJ6_bitCount_0f7a4 1 (some .int), Cond.constant RJ6 265 (1431655765), Cond.constant RJ6 266 (858993459), Cond.constant RJ6 267 (252645135), Cond.methodLink RX2 106 yX2_leastOf, Cond.static yX2_leastOf, Cond.code yX2_leastOf cX2_leastOf 2 (some .int), Cond.methodLink RX4 54 yX5_pullOut, Cond.instanceMethod yX5_pullOut, Cond.selects RX5 yX5_pullOut yX5_pullOut, Cond.initialized RX5, Cond.code yX5_pullOut cX5_pullOut 4 none, Cond.fieldLink RX5 15 "SameAgain$Procedure" "versionAt" "I", Cond.fieldLink RX5 38 "SameAgain$Procedure" "likeness" "LSameAgain$Likeness;", Cond.fieldLink RX5 19 "SameAgain$Procedure" "takenCount" "I"]
def wsX7_two_r6 : List Cond := [Cond.fieldLink RX5 28 "SameAgain$Procedure" "toldCount" "I", Cond.fieldLink RX5 31 "SameAgain$Procedure" "saved" "I", Cond.methodLink RX5 42 yX2_startsLike, Cond.methodLink RX5 48 yX5_take, Cond.instanceMethod yX5_take, Cond.selects RX5 yX5_take yX5_take, Cond.code yX5_take cX5_take 5 none, Cond.fieldLink RX5 22 "SameAgain$Procedure" "takenStarts" "I", Cond.fieldLink RX5 25 "SameAgain$Procedure" "takenLines" "I", Cond.fieldLink RX5 9 "SameAgain$Procedure" "starts" "[I", Cond.methodLink RX5 52 yX5_countTold, Cond.instanceMethod yX5_countTold, Cond.selects RX5 yX5_countTold yX5_countTold, Cond.code yX5_countTold cX5_countTold 5 none, Cond.methodLink RX5 56 yX5_signsOfLine, Cond.instanceMethod yX5_signsOfLine, Cond.selects RX5 yX5_signsOfLine yX5_signsOfLine, Cond.code yX5_signsOfLine cX5_signsOfLine 2 (some .int), Cond.fieldLink RX5 34 "SameAgain$Procedure" "code" "LSameAgain$Code;", Cond.methodLink RX5 67 yX0_sizeOf, Cond.methodLink RX5 60 yX5_differs, Cond.instanceMethod yX5_differs, Cond.selects RX5 yX5_differs yX5_differs, Cond.code yX5_differs cX5_differs 5 (some .boolean)]
def wsX7_two_r7 : List Cond := [Cond.methodLink RX5 72 yX0_signAt, Cond.methodLink RX5 64 yX5_stoodAhead, Cond.instanceMethod yX5_stoodAhead, Cond.selects RX5 yX5_stoodAhead yX5_stoodAhead, Cond.code yX5_stoodAhead cX5_stoodAhead 6 (some .boolean), Cond.methodLink RX5 76 yX5_hasSameAtBoth, Cond.instanceMethod yX5_hasSameAtBoth, Cond.selects RX5 yX5_hasSameAtBoth yX5_hasSameAtBoth, Cond.code yX5_hasSameAtBoth cX5_hasSameAtBoth 7 (some .boolean), Cond.methodLink RX4 60 yX4_note, Cond.instanceMethod yX4_note, Cond.selects RX4 yX4_note yX4_note, Cond.code yX4_note cX4_note 3 none, Cond.fieldLink RX4 9 "SameAgain$Plan" "saves" "[I", Cond.fieldLink RX4 15 "SameAgain$Plan" "lines" "[I", Cond.fieldLink RX4 25 "SameAgain$Plan" "bestStart" "I", Cond.fieldLink RX4 28 "SameAgain$Plan" "bestLength" "I", Cond.methodLink RX7 189 yX4_bestSumOfTwo, Cond.instanceMethod yX4_bestSumOfTwo, Cond.selects RX4 yX4_bestSumOfTwo yX4_bestSumOfTwo, Cond.code yX4_bestSumOfTwo cX4_bestSumOfTwo 4 (some .int), Cond.methodLink RX4 70 Lib.Math.max.name, Cond.static Lib.Math.max.name, Cond.initialized "java/lang/Math"]
def wsX7_two_r8 : List Cond := [Cond.code Lib.Math.max.name Lib.Math.max.code 2 (some .int)]
def wsX7_two : List Cond := .code yX7_two cX7_two 4 (some .int) :: ((wsX7_two_r1 ++ (wsX7_two_r2 ++ (wsX7_two_r3 ++ (wsX7_two_r4 ++ (wsX7_two_r5 ++ (wsX7_two_r6 ++ (wsX7_two_r7 ++ wsX7_two_r8))))))) ++ wsX70 ++ wsX00 ++ wsX20 ++ wsX30 ++ wsX40 ++ wsX50)
def wsX7_forgotten_r1 : List Cond := [Cond.fieldLink RX7 56 "SameAgain" "slip" "LSameAgain$Slip;", Cond.methodLink RX7 107 yX7_areRows, Cond.static yX7_areRows, Cond.initialized RX7, Cond.code yX7_areRows cX7_areRows 3 (some .boolean), Cond.methodLink RX7 139 yX7_isStart, Cond.static yX7_isStart, Cond.code yX7_isStart cX7_isStart 1 (some .boolean), Cond.methodLink RX7 119 yX7_isUpTo, Cond.static yX7_isUpTo, Cond.code yX7_isUpTo cX7_isUpTo 2 (some .boolean), Cond.methodLink RX7 142 yX7_isLength, Cond.static yX7_isLength, Cond.code yX7_isLength cX7_isLength 1 (some .boolean), Cond.methodLink RX7 111 yX7_refusalIn, Cond.instanceMethod yX7_refusalIn, Cond.selects RX7 yX7_refusalIn yX7_refusalIn, Cond.code yX7_refusalIn cX7_refusalIn 3 (some .int), Cond.fieldLink RX7 10 "SameAgain" "code" "LSameAgain$Code;", Cond.methodLink RX7 93 yX0_hasVersion, Cond.instanceMethod yX0_hasVersion, Cond.selects RX0 yX0_hasVersion yX0_hasVersion, Cond.initialized RX0, Cond.code yX0_hasVersion cX0_hasVersion 2 (some .boolean)]
def wsX7_forgotten_r2 : List Cond := [Cond.fieldLink RX0 22 "SameAgain$Code" "versionCount" "I", Cond.methodLink RX7 192 yX6_seek, Cond.instanceMethod yX6_seek, Cond.selects RX6 yX6_seek yX6_seek, Cond.initialized RX6, Cond.code yX6_seek cX6_seek 10 none, Cond.fieldLink RX6 15 "SameAgain$Slip" "name" "I", Cond.methodLink RX6 26 Lib.Math.abs.name, Cond.static Lib.Math.abs.name, Cond.initialized "java/lang/Math", Cond.code Lib.Math.abs.name Lib.Math.abs.code 1 (some .int), Cond.fieldLink RX6 22 "SameAgain$Slip" "likeness" "LSameAgain$Likeness;", Cond.fieldLink RX6 18 "SameAgain$Slip" "code" "LSameAgain$Code;", Cond.fieldLink RX6 9 "SameAgain$Slip" "place" "I", Cond.methodLink RX6 32 yX2_areThere, Cond.instanceMethod yX2_areThere, Cond.selects RX2 yX2_areThere yX2_areThere, Cond.initialized RX2, Cond.code yX2_areThere cX2_areThere 4 (some .boolean), Cond.methodLink RX2 44 Lib.Math.max.name, Cond.static Lib.Math.max.name, Cond.code Lib.Math.max.name Lib.Math.max.code 2 (some .int), Cond.fieldLink RX2 32 "SameAgain$Likeness" "code" "LSameAgain$Code;", Cond.methodLink RX2 50 yX0_lines]
def wsX7_forgotten_r3 : List Cond := [Cond.instanceMethod yX0_lines, Cond.selects RX0 yX0_lines yX0_lines, Cond.code yX0_lines cX0_lines 1 (some .int), Cond.fieldLink RX0 18 "SameAgain$Code" "lineCount" "I", Cond.methodLink RX6 38 yX2_rowsAlike, Cond.instanceMethod yX2_rowsAlike, Cond.selects RX2 yX2_rowsAlike yX2_rowsAlike, Cond.code yX2_rowsAlike cX2_rowsAlike 6 (some .boolean), Cond.methodLink RX2 36 yX2_areThere, Cond.methodLink RX2 40 yX2_linesAlike, Cond.instanceMethod yX2_linesAlike, Cond.selects RX2 yX2_linesAlike yX2_linesAlike, Cond.code yX2_linesAlike cX2_linesAlike 7 (some .int), Cond.fieldLink RX2 12 "SameAgain$Likeness" "pairing" "LSameAgain$Pairing;", Cond.methodLink RX2 56 yX3_clear, Cond.instanceMethod yX3_clear, Cond.selects RX3 yX3_clear yX3_clear, Cond.initialized RX3, Cond.code yX3_clear cX3_clear 1 none, Cond.fieldLink RX3 15 "SameAgain$Pairing" "namesOfOne" "I", Cond.fieldLink RX3 19 "SameAgain$Pairing" "namesOfOther" "I", Cond.methodLink RX2 59 yX2_lineFits, Cond.instanceMethod yX2_lineFits, Cond.selects RX2 yX2_lineFits yX2_lineFits]
def wsX7_forgotten_r4 : List Cond := [Cond.code yX2_lineFits cX2_lineFits 10 (some .boolean), Cond.methodLink RX2 63 yX0_sizeOf, Cond.instanceMethod yX0_sizeOf, Cond.selects RX0 yX0_sizeOf yX0_sizeOf, Cond.code yX0_sizeOf cX0_sizeOf 3 (some .int), Cond.fieldLink RX0 15 "SameAgain$Code" "sizes" "[I", Cond.methodLink RX2 66 yX0_signAt, Cond.instanceMethod yX0_signAt, Cond.selects RX0 yX0_signAt yX0_signAt, Cond.code yX0_signAt cX0_signAt 5 (some .int), Cond.fieldLink RX0 9 "SameAgain$Code" "signs" "[I", Cond.methodLink RX2 70 yX2_signFits, Cond.instanceMethod yX2_signFits, Cond.selects RX2 yX2_signFits yX2_signFits, Cond.code yX2_signFits cX2_signFits 4 (some .boolean), Cond.static yX7_isName, Cond.code yX7_isName cX7_isName 1 (some .boolean), Cond.methodLink RX2 77 yX3_join, Cond.instanceMethod yX3_join, Cond.selects RX3 yX3_join yX3_join, Cond.code yX3_join cX3_join 5 (some .boolean), Cond.fieldLink RX3 9 "SameAgain$Pairing" "partners" "[I", Cond.static yX7_isNumber, Cond.code yX7_isNumber cX7_isNumber 1 (some .boolean)]
def wsX7_forgotten_r5 : List Cond := [Cond.methodLink RX6 42 yX0_sizeOf, Cond.methodLink RX6 48 yX0_signAt, Cond.methodLink RX6 56 yX2_rowsAlikeBut, Cond.instanceMethod yX2_rowsAlikeBut, Cond.selects RX2 yX2_rowsAlikeBut yX2_rowsAlikeBut, Cond.code yX2_rowsAlikeBut cX2_rowsAlikeBut 8 (some .boolean), Cond.methodLink RX6 63 yX3_firstNameThatFits, Cond.instanceMethod yX3_firstNameThatFits, Cond.selects RX3 yX3_firstNameThatFits yX3_firstNameThatFits, Cond.code yX3_firstNameThatFits cX3_firstNameThatFits 3 (some .int), Cond.methodLink RX3 26 yX3_hasPartner, Cond.instanceMethod yX3_hasPartner, Cond.selects RX3 yX3_hasPartner yX3_hasPartner, Cond.code yX3_hasPartner cX3_hasPartner 2 (some .boolean), Cond.methodLink RX3 29 yX3_renamed, Cond.instanceMethod yX3_renamed, Cond.selects RX3 yX3_renamed yX3_renamed, Cond.code yX3_renamed cX3_renamed 2 (some .int)]
def wsX7_forgotten : List Cond := .code yX7_forgotten cX7_forgotten 7 (some .int) :: ((wsX7_forgotten_r1 ++ (wsX7_forgotten_r2 ++ (wsX7_forgotten_r3 ++ (wsX7_forgotten_r4 ++ wsX7_forgotten_r5)))) ++ wsX70 ++ wsX60 ++ wsX00 ++ wsX20 ++ wsX30)
def wsX7_parted_r1 : List Cond := [Cond.fieldLink RX7 10 "SameAgain" "code" "LSameAgain$Code;", Cond.fieldLink RX7 31 "SameAgain" "likeness" "LSameAgain$Likeness;", Cond.methodLink RX7 104 yX7_isWay, Cond.static yX7_isWay, Cond.initialized RX7, Cond.code yX7_isWay cX7_isWay 1 (some .boolean), Cond.methodLink RX7 119 yX7_isUpTo, Cond.static yX7_isUpTo, Cond.code yX7_isUpTo cX7_isUpTo 2 (some .boolean), Cond.methodLink RX7 107 yX7_areRows, Cond.static yX7_areRows, Cond.code yX7_areRows cX7_areRows 3 (some .boolean), Cond.methodLink RX7 139 yX7_isStart, Cond.static yX7_isStart, Cond.code yX7_isStart cX7_isStart 1 (some .boolean), Cond.methodLink RX7 142 yX7_isLength, Cond.static yX7_isLength, Cond.code yX7_isLength cX7_isLength 1 (some .boolean), Cond.methodLink RX7 83 yX0_versions, Cond.instanceMethod yX0_versions, Cond.selects RX0 yX0_versions yX0_versions, Cond.initialized RX0, Cond.code yX0_versions cX0_versions 1 (some .int), Cond.fieldLink RX0 22 "SameAgain$Code" "versionCount" "I"]
def wsX7_parted_r2 : List Cond := [Cond.methodLink RX7 115 yX2_rowsAlike, Cond.instanceMethod yX2_rowsAlike, Cond.selects RX2 yX2_rowsAlike yX2_rowsAlike, Cond.initialized RX2, Cond.code yX2_rowsAlike cX2_rowsAlike 6 (some .boolean), Cond.methodLink RX2 36 yX2_areThere, Cond.instanceMethod yX2_areThere, Cond.selects RX2 yX2_areThere yX2_areThere, Cond.code yX2_areThere cX2_areThere 4 (some .boolean), Cond.methodLink RX2 44 Lib.Math.max.name, Cond.static Lib.Math.max.name, Cond.initialized "java/lang/Math", Cond.code Lib.Math.max.name Lib.Math.max.code 2 (some .int), Cond.fieldLink RX2 32 "SameAgain$Likeness" "code" "LSameAgain$Code;", Cond.methodLink RX2 50 yX0_lines, Cond.instanceMethod yX0_lines, Cond.selects RX0 yX0_lines yX0_lines, Cond.code yX0_lines cX0_lines 1 (some .int), Cond.fieldLink RX0 18 "SameAgain$Code" "lineCount" "I", Cond.methodLink RX2 40 yX2_linesAlike, Cond.instanceMethod yX2_linesAlike, Cond.selects RX2 yX2_linesAlike yX2_linesAlike, Cond.code yX2_linesAlike cX2_linesAlike 7 (some .int), Cond.fieldLink RX2 12 "SameAgain$Likeness" "pairing" "LSameAgain$Pairing;"]
def wsX7_parted_r3 : List Cond := [Cond.methodLink RX2 56 yX3_clear, Cond.instanceMethod yX3_clear, Cond.selects RX3 yX3_clear yX3_clear, Cond.initialized RX3, Cond.code yX3_clear cX3_clear 1 none, Cond.fieldLink RX3 15 "SameAgain$Pairing" "namesOfOne" "I", Cond.fieldLink RX3 19 "SameAgain$Pairing" "namesOfOther" "I", Cond.methodLink RX2 59 yX2_lineFits, Cond.instanceMethod yX2_lineFits, Cond.selects RX2 yX2_lineFits yX2_lineFits, Cond.code yX2_lineFits cX2_lineFits 10 (some .boolean), Cond.methodLink RX2 63 yX0_sizeOf, Cond.instanceMethod yX0_sizeOf, Cond.selects RX0 yX0_sizeOf yX0_sizeOf, Cond.code yX0_sizeOf cX0_sizeOf 3 (some .int), Cond.fieldLink RX0 15 "SameAgain$Code" "sizes" "[I", Cond.methodLink RX2 66 yX0_signAt, Cond.instanceMethod yX0_signAt, Cond.selects RX0 yX0_signAt yX0_signAt, Cond.code yX0_signAt cX0_signAt 5 (some .int), Cond.fieldLink RX0 9 "SameAgain$Code" "signs" "[I", Cond.methodLink RX2 70 yX2_signFits, Cond.instanceMethod yX2_signFits, Cond.selects RX2 yX2_signFits yX2_signFits]
def wsX7_parted_r4 : List Cond := [Cond.code yX2_signFits cX2_signFits 4 (some .boolean), Cond.static yX7_isName, Cond.code yX7_isName cX7_isName 1 (some .boolean), Cond.methodLink RX2 77 yX3_join, Cond.instanceMethod yX3_join, Cond.selects RX3 yX3_join yX3_join, Cond.code yX3_join cX3_join 5 (some .boolean), Cond.fieldLink RX3 9 "SameAgain$Pairing" "partners" "[I", Cond.static yX7_isNumber, Cond.code yX7_isNumber cX7_isNumber 1 (some .boolean)]
def wsX7_parted : List Cond := .code yX7_parted cX7_parted 8 (some .int) :: ((wsX7_parted_r1 ++ (wsX7_parted_r2 ++ (wsX7_parted_r3 ++ wsX7_parted_r4))) ++ wsX70 ++ wsX00 ++ wsX20 ++ wsX30)
def wsX7_refusalBehind : List Cond := .code yX7_refusalBehind cX7_refusalBehind 3 (some .int) :: ([.fieldLink RX7 10 "SameAgain" "code" "LSameAgain$Code;", .methodLink RX7 83 yX0_versions, .instanceMethod yX0_versions, .selects RX0 yX0_versions yX0_versions, .initialized RX0, .code yX0_versions cX0_versions 1 (some .int), .fieldLink RX0 22 "SameAgain$Code" "versionCount" "I", .methodLink RX7 111 yX7_refusalIn, .instanceMethod yX7_refusalIn, .selects RX7 yX7_refusalIn yX7_refusalIn, .initialized RX7, .code yX7_refusalIn cX7_refusalIn 3 (some .int), .methodLink RX7 93 yX0_hasVersion, .instanceMethod yX0_hasVersion, .selects RX0 yX0_hasVersion yX0_hasVersion, .code yX0_hasVersion cX0_hasVersion 2 (some .boolean)] ++ wsX70 ++ wsX00)
def wsX7_wasMendedInFirstAlone : List Cond := .code yX7_wasMendedInFirstAlone cX7_wasMendedInFirstAlone 4 (some .boolean) :: ([.fieldLink RX7 10 "SameAgain" "code" "LSameAgain$Code;", .methodLink RX7 230 yX0_staysAsItIs, .instanceMethod yX0_staysAsItIs, .selects RX0 yX0_staysAsItIs yX0_staysAsItIs, .initialized RX0, .code yX0_staysAsItIs cX0_staysAsItIs 5 (some .boolean), .methodLink RX0 42 yX0_sizeOf, .instanceMethod yX0_sizeOf, .selects RX0 yX0_sizeOf yX0_sizeOf, .code yX0_sizeOf cX0_sizeOf 3 (some .int), .fieldLink RX0 22 "SameAgain$Code" "versionCount" "I", .fieldLink RX0 18 "SameAgain$Code" "lineCount" "I", .fieldLink RX0 15 "SameAgain$Code" "sizes" "[I", .methodLink RX0 46 yX0_signAt, .instanceMethod yX0_signAt, .selects RX0 yX0_signAt yX0_signAt, .code yX0_signAt cX0_signAt 5 (some .int), .fieldLink RX0 9 "SameAgain$Code" "signs" "[I"] ++ wsX70 ++ wsX00)
def wsX7_mends_r1 : List Cond := [Cond.fieldLink RX7 31 "SameAgain" "likeness" "LSameAgain$Likeness;", Cond.methodLink RX7 107 yX7_areRows, Cond.static yX7_areRows, Cond.initialized RX7, Cond.code yX7_areRows cX7_areRows 3 (some .boolean), Cond.methodLink RX7 139 yX7_isStart, Cond.static yX7_isStart, Cond.code yX7_isStart cX7_isStart 1 (some .boolean), Cond.methodLink RX7 119 yX7_isUpTo, Cond.static yX7_isUpTo, Cond.code yX7_isUpTo cX7_isUpTo 2 (some .boolean), Cond.methodLink RX7 142 yX7_isLength, Cond.static yX7_isLength, Cond.code yX7_isLength cX7_isLength 1 (some .boolean), Cond.methodLink RX7 202 yX7_refusalBehind, Cond.instanceMethod yX7_refusalBehind, Cond.selects RX7 yX7_refusalBehind yX7_refusalBehind, Cond.code yX7_refusalBehind cX7_refusalBehind 3 (some .int), Cond.fieldLink RX7 10 "SameAgain" "code" "LSameAgain$Code;", Cond.methodLink RX7 83 yX0_versions, Cond.instanceMethod yX0_versions, Cond.selects RX0 yX0_versions yX0_versions, Cond.initialized RX0, Cond.code yX0_versions cX0_versions 1 (some .int)]
def wsX7_mends_r2 : List Cond := [Cond.fieldLink RX0 22 "SameAgain$Code" "versionCount" "I", Cond.methodLink RX7 111 yX7_refusalIn, Cond.instanceMethod yX7_refusalIn, Cond.selects RX7 yX7_refusalIn yX7_refusalIn, Cond.code yX7_refusalIn cX7_refusalIn 3 (some .int), Cond.methodLink RX7 93 yX0_hasVersion, Cond.instanceMethod yX0_hasVersion, Cond.selects RX0 yX0_hasVersion yX0_hasVersion, Cond.code yX0_hasVersion cX0_hasVersion 2 (some .boolean), Cond.methodLink RX7 115 yX2_rowsAlike, Cond.instanceMethod yX2_rowsAlike, Cond.selects RX2 yX2_rowsAlike yX2_rowsAlike, Cond.initialized RX2, Cond.code yX2_rowsAlike cX2_rowsAlike 6 (some .boolean), Cond.methodLink RX2 36 yX2_areThere, Cond.instanceMethod yX2_areThere, Cond.selects RX2 yX2_areThere yX2_areThere, Cond.code yX2_areThere cX2_areThere 4 (some .boolean), Cond.methodLink RX2 44 Lib.Math.max.name, Cond.static Lib.Math.max.name, Cond.initialized "java/lang/Math", Cond.code Lib.Math.max.name Lib.Math.max.code 2 (some .int), Cond.fieldLink RX2 32 "SameAgain$Likeness" "code" "LSameAgain$Code;", Cond.methodLink RX2 50 yX0_lines]
def wsX7_mends_r3 : List Cond := [Cond.instanceMethod yX0_lines, Cond.selects RX0 yX0_lines yX0_lines, Cond.code yX0_lines cX0_lines 1 (some .int), Cond.fieldLink RX0 18 "SameAgain$Code" "lineCount" "I", Cond.methodLink RX2 40 yX2_linesAlike, Cond.instanceMethod yX2_linesAlike, Cond.selects RX2 yX2_linesAlike yX2_linesAlike, Cond.code yX2_linesAlike cX2_linesAlike 7 (some .int), Cond.fieldLink RX2 12 "SameAgain$Likeness" "pairing" "LSameAgain$Pairing;", Cond.methodLink RX2 56 yX3_clear, Cond.instanceMethod yX3_clear, Cond.selects RX3 yX3_clear yX3_clear, Cond.initialized RX3, Cond.code yX3_clear cX3_clear 1 none, Cond.fieldLink RX3 15 "SameAgain$Pairing" "namesOfOne" "I", Cond.fieldLink RX3 19 "SameAgain$Pairing" "namesOfOther" "I", Cond.methodLink RX2 59 yX2_lineFits, Cond.instanceMethod yX2_lineFits, Cond.selects RX2 yX2_lineFits yX2_lineFits, Cond.code yX2_lineFits cX2_lineFits 10 (some .boolean), Cond.methodLink RX2 63 yX0_sizeOf, Cond.instanceMethod yX0_sizeOf, Cond.selects RX0 yX0_sizeOf yX0_sizeOf, Cond.code yX0_sizeOf cX0_sizeOf 3 (some .int)]
def wsX7_mends_r4 : List Cond := [Cond.fieldLink RX0 15 "SameAgain$Code" "sizes" "[I", Cond.methodLink RX2 66 yX0_signAt, Cond.instanceMethod yX0_signAt, Cond.selects RX0 yX0_signAt yX0_signAt, Cond.code yX0_signAt cX0_signAt 5 (some .int), Cond.fieldLink RX0 9 "SameAgain$Code" "signs" "[I", Cond.methodLink RX2 70 yX2_signFits, Cond.instanceMethod yX2_signFits, Cond.selects RX2 yX2_signFits yX2_signFits, Cond.code yX2_signFits cX2_signFits 4 (some .boolean), Cond.static yX7_isName, Cond.code yX7_isName cX7_isName 1 (some .boolean), Cond.methodLink RX2 77 yX3_join, Cond.instanceMethod yX3_join, Cond.selects RX3 yX3_join yX3_join, Cond.code yX3_join cX3_join 5 (some .boolean), Cond.fieldLink RX3 9 "SameAgain$Pairing" "partners" "[I", Cond.static yX7_isNumber, Cond.code yX7_isNumber cX7_isNumber 1 (some .boolean), Cond.methodLink RX7 205 yX7_wasMendedInFirstAlone, Cond.instanceMethod yX7_wasMendedInFirstAlone, Cond.selects RX7 yX7_wasMendedInFirstAlone yX7_wasMendedInFirstAlone, Cond.code yX7_wasMendedInFirstAlone cX7_wasMendedInFirstAlone 4 (some .boolean), Cond.methodLink RX7 230 yX0_staysAsItIs]
def wsX7_mends_r5 : List Cond := [Cond.instanceMethod yX0_staysAsItIs, Cond.selects RX0 yX0_staysAsItIs yX0_staysAsItIs, Cond.code yX0_staysAsItIs cX0_staysAsItIs 5 (some .boolean), Cond.methodLink RX0 42 yX0_sizeOf, Cond.methodLink RX0 46 yX0_signAt]
def wsX7_mends : List Cond := .code yX7_mends cX7_mends 8 (some .int) :: ((wsX7_mends_r1 ++ (wsX7_mends_r2 ++ (wsX7_mends_r3 ++ (wsX7_mends_r4 ++ wsX7_mends_r5)))) ++ wsX70 ++ wsX00 ++ wsX20 ++ wsX30)
def wsX7_mend_r1 : List Cond := [Cond.fieldLink RX7 31 "SameAgain" "likeness" "LSameAgain$Likeness;", Cond.fieldLink RX7 10 "SameAgain" "code" "LSameAgain$Code;", Cond.methodLink RX7 107 yX7_areRows, Cond.static yX7_areRows, Cond.initialized RX7, Cond.code yX7_areRows cX7_areRows 3 (some .boolean), Cond.methodLink RX7 139 yX7_isStart, Cond.static yX7_isStart, Cond.code yX7_isStart cX7_isStart 1 (some .boolean), Cond.methodLink RX7 119 yX7_isUpTo, Cond.static yX7_isUpTo, Cond.code yX7_isUpTo cX7_isUpTo 2 (some .boolean), Cond.methodLink RX7 142 yX7_isLength, Cond.static yX7_isLength, Cond.code yX7_isLength cX7_isLength 1 (some .boolean), Cond.methodLink RX7 202 yX7_refusalBehind, Cond.instanceMethod yX7_refusalBehind, Cond.selects RX7 yX7_refusalBehind yX7_refusalBehind, Cond.code yX7_refusalBehind cX7_refusalBehind 3 (some .int), Cond.methodLink RX7 83 yX0_versions, Cond.instanceMethod yX0_versions, Cond.selects RX0 yX0_versions yX0_versions, Cond.initialized RX0, Cond.code yX0_versions cX0_versions 1 (some .int)]
def wsX7_mend_r2 : List Cond := [Cond.fieldLink RX0 22 "SameAgain$Code" "versionCount" "I", Cond.methodLink RX7 111 yX7_refusalIn, Cond.instanceMethod yX7_refusalIn, Cond.selects RX7 yX7_refusalIn yX7_refusalIn, Cond.code yX7_refusalIn cX7_refusalIn 3 (some .int), Cond.methodLink RX7 93 yX0_hasVersion, Cond.instanceMethod yX0_hasVersion, Cond.selects RX0 yX0_hasVersion yX0_hasVersion, Cond.code yX0_hasVersion cX0_hasVersion 2 (some .boolean), Cond.methodLink RX7 115 yX2_rowsAlike, Cond.instanceMethod yX2_rowsAlike, Cond.selects RX2 yX2_rowsAlike yX2_rowsAlike, Cond.initialized RX2, Cond.code yX2_rowsAlike cX2_rowsAlike 6 (some .boolean), Cond.methodLink RX2 36 yX2_areThere, Cond.instanceMethod yX2_areThere, Cond.selects RX2 yX2_areThere yX2_areThere, Cond.code yX2_areThere cX2_areThere 4 (some .boolean), Cond.methodLink RX2 44 Lib.Math.max.name, Cond.static Lib.Math.max.name, Cond.initialized "java/lang/Math", Cond.code Lib.Math.max.name Lib.Math.max.code 2 (some .int), Cond.fieldLink RX2 32 "SameAgain$Likeness" "code" "LSameAgain$Code;", Cond.methodLink RX2 50 yX0_lines]
def wsX7_mend_r3 : List Cond := [Cond.instanceMethod yX0_lines, Cond.selects RX0 yX0_lines yX0_lines, Cond.code yX0_lines cX0_lines 1 (some .int), Cond.fieldLink RX0 18 "SameAgain$Code" "lineCount" "I", Cond.methodLink RX2 40 yX2_linesAlike, Cond.instanceMethod yX2_linesAlike, Cond.selects RX2 yX2_linesAlike yX2_linesAlike, Cond.code yX2_linesAlike cX2_linesAlike 7 (some .int), Cond.fieldLink RX2 12 "SameAgain$Likeness" "pairing" "LSameAgain$Pairing;", Cond.methodLink RX2 56 yX3_clear, Cond.instanceMethod yX3_clear, Cond.selects RX3 yX3_clear yX3_clear, Cond.initialized RX3, Cond.code yX3_clear cX3_clear 1 none, Cond.fieldLink RX3 15 "SameAgain$Pairing" "namesOfOne" "I", Cond.fieldLink RX3 19 "SameAgain$Pairing" "namesOfOther" "I", Cond.methodLink RX2 59 yX2_lineFits, Cond.instanceMethod yX2_lineFits, Cond.selects RX2 yX2_lineFits yX2_lineFits, Cond.code yX2_lineFits cX2_lineFits 10 (some .boolean), Cond.methodLink RX2 63 yX0_sizeOf, Cond.instanceMethod yX0_sizeOf, Cond.selects RX0 yX0_sizeOf yX0_sizeOf, Cond.code yX0_sizeOf cX0_sizeOf 3 (some .int)]
def wsX7_mend_r4 : List Cond := [Cond.fieldLink RX0 15 "SameAgain$Code" "sizes" "[I", Cond.methodLink RX2 66 yX0_signAt, Cond.instanceMethod yX0_signAt, Cond.selects RX0 yX0_signAt yX0_signAt, Cond.code yX0_signAt cX0_signAt 5 (some .int), Cond.fieldLink RX0 9 "SameAgain$Code" "signs" "[I", Cond.methodLink RX2 70 yX2_signFits, Cond.instanceMethod yX2_signFits, Cond.selects RX2 yX2_signFits yX2_signFits, Cond.code yX2_signFits cX2_signFits 4 (some .boolean), Cond.static yX7_isName, Cond.code yX7_isName cX7_isName 1 (some .boolean), Cond.methodLink RX2 77 yX3_join, Cond.instanceMethod yX3_join, Cond.selects RX3 yX3_join yX3_join, Cond.code yX3_join cX3_join 5 (some .boolean), Cond.fieldLink RX3 9 "SameAgain$Pairing" "partners" "[I", Cond.static yX7_isNumber, Cond.code yX7_isNumber cX7_isNumber 1 (some .boolean), Cond.methodLink RX7 205 yX7_wasMendedInFirstAlone, Cond.instanceMethod yX7_wasMendedInFirstAlone, Cond.selects RX7 yX7_wasMendedInFirstAlone yX7_wasMendedInFirstAlone, Cond.code yX7_wasMendedInFirstAlone cX7_wasMendedInFirstAlone 4 (some .boolean), Cond.methodLink RX7 230 yX0_staysAsItIs]
def wsX7_mend_r5 : List Cond := [Cond.instanceMethod yX0_staysAsItIs, Cond.selects RX0 yX0_staysAsItIs yX0_staysAsItIs, Cond.code yX0_staysAsItIs cX0_staysAsItIs 5 (some .boolean), Cond.methodLink RX0 42 yX0_sizeOf, Cond.methodLink RX0 46 yX0_signAt, Cond.methodLink RX7 96 yX0_sizeOf, Cond.methodLink RX7 100 yX0_signAt, Cond.methodLink RX7 212 yX3_renamed, Cond.instanceMethod yX3_renamed, Cond.selects RX3 yX3_renamed yX3_renamed, Cond.code yX3_renamed cX3_renamed 2 (some .int), Cond.methodLink RX3 26 yX3_hasPartner, Cond.instanceMethod yX3_hasPartner, Cond.selects RX3 yX3_hasPartner yX3_hasPartner, Cond.code yX3_hasPartner cX3_hasPartner 2 (some .boolean)]
def wsX7_mend : List Cond := .code yX7_mend cX7_mend 9 (some .int) :: ((wsX7_mend_r1 ++ (wsX7_mend_r2 ++ (wsX7_mend_r3 ++ (wsX7_mend_r4 ++ wsX7_mend_r5)))) ++ wsX70 ++ wsX20 ++ wsX00 ++ wsX30)
def wsX7_far_r1 : List Cond := [Cond.fieldLink RX7 10 "SameAgain" "code" "LSameAgain$Code;", Cond.fieldLink RX7 63 "SameAgain" "distance" "LSameAgain$Distance;", Cond.methodLink RX7 93 yX0_hasVersion, Cond.instanceMethod yX0_hasVersion, Cond.selects RX0 yX0_hasVersion yX0_hasVersion, Cond.initialized RX0, Cond.code yX0_hasVersion cX0_hasVersion 2 (some .boolean), Cond.fieldLink RX0 22 "SameAgain$Code" "versionCount" "I", Cond.methodLink RX7 79 yX0_hasLine, Cond.instanceMethod yX0_hasLine, Cond.selects RX0 yX0_hasLine yX0_hasLine, Cond.code yX0_hasLine cX0_hasLine 2 (some .boolean), Cond.fieldLink RX0 18 "SameAgain$Code" "lineCount" "I", Cond.methodLink RX7 217 yX1_between, Cond.instanceMethod yX1_between, Cond.selects RX1 yX1_between yX1_between, Cond.initialized RX1, Cond.code yX1_between cX1_between 12 (some .int), Cond.fieldLink RX1 15 "SameAgain$Distance" "code" "LSameAgain$Code;", Cond.methodLink RX1 25 Lib.Math.min.name, Cond.static Lib.Math.min.name, Cond.initialized "java/lang/Math", Cond.code Lib.Math.min.name Lib.Math.min.code 2 (some .int), Cond.fieldLink RX1 11 "SameAgain$Distance" "costs" "[I"]
def wsX7_far_r2 : List Cond := [Cond.methodLink RX1 19 yX0_sizeOf, Cond.instanceMethod yX0_sizeOf, Cond.selects RX0 yX0_sizeOf yX0_sizeOf, Cond.code yX0_sizeOf cX0_sizeOf 3 (some .int), Cond.fieldLink RX0 15 "SameAgain$Code" "sizes" "[I", Cond.methodLink RX1 30 yX0_signAt, Cond.instanceMethod yX0_signAt, Cond.selects RX0 yX0_signAt yX0_signAt, Cond.code yX0_signAt cX0_signAt 5 (some .int), Cond.fieldLink RX0 9 "SameAgain$Code" "signs" "[I", Cond.methodLink RX1 34 yX1_swapCost, Cond.static yX1_swapCost, Cond.code yX1_swapCost cX1_swapCost 3 (some .int), Cond.static yX7_isName, Cond.initialized RX7, Cond.code yX7_isName cX7_isName 1 (some .boolean), Cond.static yX7_isNumber, Cond.code yX7_isNumber cX7_isNumber 1 (some .boolean)]
def wsX7_far : List Cond := .code yX7_far cX7_far 4 (some .int) :: ((wsX7_far_r1 ++ wsX7_far_r2) ++ wsX70 ++ wsX00 ++ wsX10)
def wsX7_near_r1 : List Cond := [Cond.fieldLink RX7 10 "SameAgain" "code" "LSameAgain$Code;", Cond.fieldLink RX7 63 "SameAgain" "distance" "LSameAgain$Distance;", Cond.methodLink RX7 93 yX0_hasVersion, Cond.instanceMethod yX0_hasVersion, Cond.selects RX0 yX0_hasVersion yX0_hasVersion, Cond.initialized RX0, Cond.code yX0_hasVersion cX0_hasVersion 2 (some .boolean), Cond.fieldLink RX0 22 "SameAgain$Code" "versionCount" "I", Cond.methodLink RX7 79 yX0_hasLine, Cond.instanceMethod yX0_hasLine, Cond.selects RX0 yX0_hasLine yX0_hasLine, Cond.code yX0_hasLine cX0_hasLine 2 (some .boolean), Cond.fieldLink RX0 18 "SameAgain$Code" "lineCount" "I", Cond.methodLink RX7 119 yX7_isUpTo, Cond.static yX7_isUpTo, Cond.initialized RX7, Cond.code yX7_isUpTo cX7_isUpTo 2 (some .boolean), Cond.methodLink RX7 71 yX0_lines, Cond.instanceMethod yX0_lines, Cond.selects RX0 yX0_lines yX0_lines, Cond.code yX0_lines cX0_lines 1 (some .int), Cond.methodLink RX7 217 yX1_between, Cond.instanceMethod yX1_between, Cond.selects RX1 yX1_between yX1_between]
def wsX7_near_r2 : List Cond := [Cond.initialized RX1, Cond.code yX1_between cX1_between 12 (some .int), Cond.fieldLink RX1 15 "SameAgain$Distance" "code" "LSameAgain$Code;", Cond.methodLink RX1 25 Lib.Math.min.name, Cond.static Lib.Math.min.name, Cond.initialized "java/lang/Math", Cond.code Lib.Math.min.name Lib.Math.min.code 2 (some .int), Cond.fieldLink RX1 11 "SameAgain$Distance" "costs" "[I", Cond.methodLink RX1 19 yX0_sizeOf, Cond.instanceMethod yX0_sizeOf, Cond.selects RX0 yX0_sizeOf yX0_sizeOf, Cond.code yX0_sizeOf cX0_sizeOf 3 (some .int), Cond.fieldLink RX0 15 "SameAgain$Code" "sizes" "[I", Cond.methodLink RX1 30 yX0_signAt, Cond.instanceMethod yX0_signAt, Cond.selects RX0 yX0_signAt yX0_signAt, Cond.code yX0_signAt cX0_signAt 5 (some .int), Cond.fieldLink RX0 9 "SameAgain$Code" "signs" "[I", Cond.methodLink RX1 34 yX1_swapCost, Cond.static yX1_swapCost, Cond.code yX1_swapCost cX1_swapCost 3 (some .int), Cond.static yX7_isName, Cond.code yX7_isName cX7_isName 1 (some .boolean), Cond.static yX7_isNumber]
def wsX7_near_r3 : List Cond := [Cond.code yX7_isNumber cX7_isNumber 1 (some .boolean)]
def wsX7_near : List Cond := .code yX7_near cX7_near 6 (some .int) :: ((wsX7_near_r1 ++ (wsX7_near_r2 ++ wsX7_near_r3)) ++ wsX70 ++ wsX00 ++ wsX10)
def wsX7_image : List Cond := .code yX7_image cX7_image 2 (some .int) :: ([.fieldLink RX7 16 "SameAgain" "imageZero" "LSameAgain$Code;", .fieldLink RX7 10 "SameAgain" "code" "LSameAgain$Code;", .fieldLink RX7 223 "SameAgain" "keptZero" "Z", .fieldLink RX7 19 "SameAgain" "imageOne" "LSameAgain$Code;", .fieldLink RX7 227 "SameAgain" "keptOne" "Z", .methodLink RX7 119 yX7_isUpTo, .static yX7_isUpTo, .initialized RX7, .code yX7_isUpTo cX7_isUpTo 2 (some .boolean), .methodLink RX7 220 yX0_becomeAs, .instanceMethod yX0_becomeAs, .selects RX0 yX0_becomeAs yX0_becomeAs, .initialized RX0, .code yX0_becomeAs cX0_becomeAs 2 none, .fieldLink RX0 9 "SameAgain$Code" "signs" "[I", .methodLink RX0 32 arraycopyName, .native arraycopyName, .static arraycopyName, .initialized "java/lang/System", .fieldLink RX0 15 "SameAgain$Code" "sizes" "[I", .fieldLink RX0 18 "SameAgain$Code" "lineCount" "I", .fieldLink RX0 22 "SameAgain$Code" "versionCount" "I"] ++ wsX70 ++ wsX00)
def wsX7_restore : List Cond := .code yX7_restore cX7_restore 3 (some .int) :: ([.fieldLink RX7 223 "SameAgain" "keptZero" "Z", .fieldLink RX7 227 "SameAgain" "keptOne" "Z", .fieldLink RX7 10 "SameAgain" "code" "LSameAgain$Code;", .fieldLink RX7 16 "SameAgain" "imageZero" "LSameAgain$Code;", .fieldLink RX7 19 "SameAgain" "imageOne" "LSameAgain$Code;", .methodLink RX7 119 yX7_isUpTo, .static yX7_isUpTo, .initialized RX7, .code yX7_isUpTo cX7_isUpTo 2 (some .boolean), .methodLink RX7 220 yX0_becomeAs, .instanceMethod yX0_becomeAs, .selects RX0 yX0_becomeAs yX0_becomeAs, .initialized RX0, .code yX0_becomeAs cX0_becomeAs 2 none, .fieldLink RX0 9 "SameAgain$Code" "signs" "[I", .methodLink RX0 32 arraycopyName, .native arraycopyName, .static arraycopyName, .initialized "java/lang/System", .fieldLink RX0 15 "SameAgain$Code" "sizes" "[I", .fieldLink RX0 18 "SameAgain$Code" "lineCount" "I", .fieldLink RX0 22 "SameAgain$Code" "versionCount" "I"] ++ wsX70 ++ wsX00)
def wsX7_told : List Cond := .code yX7_told cX7_told 2 (some .int) :: ([.fieldLink RX7 67 "SameAgain" "padSize" "I", .fieldLink RX7 10 "SameAgain" "code" "LSameAgain$Code;", .methodLink RX7 71 yX0_lines, .instanceMethod yX0_lines, .selects RX0 yX0_lines yX0_lines, .initialized RX0, .code yX0_lines cX0_lines 1 (some .int), .fieldLink RX0 18 "SameAgain$Code" "lineCount" "I", .methodLink RX7 83 yX0_versions, .instanceMethod yX0_versions, .selects RX0 yX0_versions yX0_versions, .code yX0_versions cX0_versions 1 (some .int), .fieldLink RX0 22 "SameAgain$Code" "versionCount" "I"] ++ wsX70 ++ wsX00)
def wsX8_init : List Cond := .code yX8_init cX8_init 1 none :: ([.methodLink RX8 1 objectInit, .instanceMethod objectInit, .code objectInit ⟨#[0xb1]⟩ 1 none, .arrayClass .int, .fieldLink RX8 7 "SameAgainModel" "pad" "[I", .fieldLink RX8 13 "SameAgainModel" "sizes" "[I", .fieldLink RX8 16 "SameAgainModel" "code" "[I", .fieldLink RX8 19 "SameAgainModel" "beside" "[I", .fieldLink RX8 22 "SameAgainModel" "back" "[I", .fieldLink RX8 25 "SameAgainModel" "otherLine" "I", .fieldLink RX8 29 "SameAgainModel" "saves" "[I", .fieldLink RX8 32 "SameAgainModel" "savesStart" "[I", .fieldLink RX8 35 "SameAgainModel" "savesLength" "[I", .fieldLink RX8 38 "SameAgainModel" "savesLines" "[I", .fieldLink RX8 41 "SameAgainModel" "far" "[I", .fieldLink RX8 44 "SameAgainModel" "image" "[I", .arrayClass .boolean, .fieldLink RX8 47 "SameAgainModel" "isKept" "[Z", .fieldLink RX8 51 "SameAgainModel" "versions" "I"] ++ wsX80)
def wsX8_in : List Cond := .code yX8_in cX8_in 3 (some .boolean) :: ([])
def wsX8_isVersion : List Cond := .code yX8_isVersion cX8_isVersion 2 (some .boolean) :: ([.fieldLink RX8 51 "SameAgainModel" "versions" "I", .methodLink RX8 54 yX8_in, .static yX8_in, .initialized RX8, .code yX8_in cX8_in 3 (some .boolean)] ++ wsX80)
def wsX8_isLine : List Cond := .code yX8_isLine cX8_isLine 2 (some .boolean) :: ([.fieldLink RX8 58 "SameAgainModel" "lines" "I", .methodLink RX8 54 yX8_in, .static yX8_in, .initialized RX8, .code yX8_in cX8_in 3 (some .boolean)] ++ wsX80)
def wsX8_isStart : List Cond := .code yX8_isStart cX8_isStart 1 (some .boolean) :: ([.methodLink RX8 54 yX8_in, .static yX8_in, .initialized RX8, .code yX8_in cX8_in 3 (some .boolean)])
def wsX8_isLength : List Cond := .code yX8_isLength cX8_isLength 1 (some .boolean) :: ([.methodLink RX8 54 yX8_in, .static yX8_in, .initialized RX8, .code yX8_in cX8_in 3 (some .boolean)])
def wsX8_isWay : List Cond := .code yX8_isWay cX8_isWay 1 (some .boolean) :: ([.methodLink RX8 54 yX8_in, .static yX8_in, .initialized RX8, .code yX8_in cX8_in 3 (some .boolean)])
def wsX8_isName : List Cond := .code yX8_isName cX8_isName 1 (some .boolean) :: ([.methodLink RX8 54 yX8_in, .static yX8_in, .initialized RX8, .code yX8_in cX8_in 3 (some .boolean)])
def wsX8_isNumber : List Cond := .code yX8_isNumber cX8_isNumber 1 (some .boolean) :: ([.methodLink RX8 54 yX8_in, .static yX8_in, .initialized RX8, .code yX8_in cX8_in 3 (some .boolean)])
def wsX8_say : List Cond := .code yX8_say cX8_say 2 (some .int) :: ([.fieldLink RX8 61 "SameAgainModel" "signs" "I", .fieldLink RX8 7 "SameAgainModel" "pad" "[I", .methodLink RX8 54 yX8_in, .static yX8_in, .initialized RX8, .code yX8_in cX8_in 3 (some .boolean)] ++ wsX80)
def wsX8_wipe : List Cond := .code yX8_wipe cX8_wipe 2 (some .int) :: ([.fieldLink RX8 61 "SameAgainModel" "signs" "I"] ++ wsX80)
def wsX8_put : List Cond := .code yX8_put cX8_put 4 none :: ([.fieldLink RX8 13 "SameAgainModel" "sizes" "[I", .fieldLink RX8 61 "SameAgainModel" "signs" "I", .fieldLink RX8 16 "SameAgainModel" "code" "[I", .fieldLink RX8 7 "SameAgainModel" "pad" "[I"] ++ wsX80)
def wsX8_line : List Cond := .code yX8_line cX8_line 2 (some .int) :: ([.fieldLink RX8 58 "SameAgainModel" "lines" "I", .fieldLink RX8 61 "SameAgainModel" "signs" "I", .fieldLink RX8 51 "SameAgainModel" "versions" "I", .methodLink RX8 64 yX8_put, .instanceMethod yX8_put, .selects RX8 yX8_put yX8_put, .initialized RX8, .code yX8_put cX8_put 4 none, .fieldLink RX8 13 "SameAgainModel" "sizes" "[I", .fieldLink RX8 16 "SameAgainModel" "code" "[I", .fieldLink RX8 7 "SameAgainModel" "pad" "[I"] ++ wsX80)
def wsX8_change : List Cond := .code yX8_change cX8_change 2 (some .int) :: ([.fieldLink RX8 61 "SameAgainModel" "signs" "I", .fieldLink RX8 51 "SameAgainModel" "versions" "I", .methodLink RX8 68 yX8_isLine, .instanceMethod yX8_isLine, .selects RX8 yX8_isLine yX8_isLine, .initialized RX8, .code yX8_isLine cX8_isLine 2 (some .boolean), .fieldLink RX8 58 "SameAgainModel" "lines" "I", .methodLink RX8 54 yX8_in, .static yX8_in, .code yX8_in cX8_in 3 (some .boolean), .methodLink RX8 64 yX8_put, .instanceMethod yX8_put, .selects RX8 yX8_put yX8_put, .code yX8_put cX8_put 4 none, .fieldLink RX8 13 "SameAgainModel" "sizes" "[I", .fieldLink RX8 16 "SameAgainModel" "code" "[I", .fieldLink RX8 7 "SameAgainModel" "pad" "[I"] ++ wsX80)
def wsX8_version : List Cond := .code yX8_version cX8_version 2 (some .int) :: ([.fieldLink RX8 51 "SameAgainModel" "versions" "I", .fieldLink RX8 13 "SameAgainModel" "sizes" "[I", .fieldLink RX8 16 "SameAgainModel" "code" "[I"] ++ wsX80)
def wsX8_size : List Cond := .code yX8_size cX8_size 3 (some .int) :: ([.fieldLink RX8 13 "SameAgainModel" "sizes" "[I"] ++ wsX80)
def wsX8_signAt : List Cond := .code yX8_signAt cX8_signAt 4 (some .int) :: ([.fieldLink RX8 16 "SameAgainModel" "code" "[I"] ++ wsX80)
def wsX8_sign : List Cond := .code yX8_sign cX8_sign 4 (some .int) :: ([.methodLink RX8 72 yX8_isVersion, .instanceMethod yX8_isVersion, .selects RX8 yX8_isVersion yX8_isVersion, .initialized RX8, .code yX8_isVersion cX8_isVersion 2 (some .boolean), .fieldLink RX8 51 "SameAgainModel" "versions" "I", .methodLink RX8 54 yX8_in, .static yX8_in, .code yX8_in cX8_in 3 (some .boolean), .methodLink RX8 68 yX8_isLine, .instanceMethod yX8_isLine, .selects RX8 yX8_isLine yX8_isLine, .code yX8_isLine cX8_isLine 2 (some .boolean), .fieldLink RX8 58 "SameAgainModel" "lines" "I", .methodLink RX8 75 yX8_size, .instanceMethod yX8_size, .selects RX8 yX8_size yX8_size, .code yX8_size cX8_size 3 (some .int), .fieldLink RX8 13 "SameAgainModel" "sizes" "[I", .methodLink RX8 79 yX8_signAt, .instanceMethod yX8_signAt, .selects RX8 yX8_signAt yX8_signAt, .code yX8_signAt cX8_signAt 4 (some .int), .fieldLink RX8 16 "SameAgainModel" "code" "[I"] ++ wsX80)
def wsX8_goBeside : List Cond := .code yX8_goBeside cX8_goBeside 5 (some .boolean) :: ([.fieldLink RX8 19 "SameAgainModel" "beside" "[I", .fieldLink RX8 22 "SameAgainModel" "back" "[I"] ++ wsX80)
def wsX8_areAlike : List Cond := .code yX8_areAlike cX8_areAlike 4 (some .boolean) :: ([.methodLink RX8 83 yX8_isName, .static yX8_isName, .initialized RX8, .code yX8_isName cX8_isName 1 (some .boolean), .methodLink RX8 54 yX8_in, .static yX8_in, .code yX8_in cX8_in 3 (some .boolean), .methodLink RX8 86 yX8_goBeside, .instanceMethod yX8_goBeside, .selects RX8 yX8_goBeside yX8_goBeside, .code yX8_goBeside cX8_goBeside 5 (some .boolean), .fieldLink RX8 19 "SameAgainModel" "beside" "[I", .fieldLink RX8 22 "SameAgainModel" "back" "[I", .methodLink RX8 90 yX8_isNumber, .static yX8_isNumber, .code yX8_isNumber cX8_isNumber 1 (some .boolean)] ++ wsX80)
def wsX8_isThere : List Cond := .code yX8_isThere cX8_isThere 3 (some .boolean) :: ([.fieldLink RX8 58 "SameAgainModel" "lines" "I"] ++ wsX80)
def wsX8_rowsAlike_r1 : List Cond := [Cond.fieldLink RX8 19 "SameAgainModel" "beside" "[I", Cond.fieldLink RX8 22 "SameAgainModel" "back" "[I", Cond.fieldLink RX8 25 "SameAgainModel" "otherLine" "I", Cond.fieldLink RX8 96 "SameAgainModel" "otherPlace" "I", Cond.fieldLink RX8 99 "SameAgainModel" "otherSign" "I", Cond.methodLink RX8 93 yX8_isThere, Cond.instanceMethod yX8_isThere, Cond.selects RX8 yX8_isThere yX8_isThere, Cond.initialized RX8, Cond.code yX8_isThere cX8_isThere 3 (some .boolean), Cond.fieldLink RX8 58 "SameAgainModel" "lines" "I", Cond.methodLink RX8 75 yX8_size, Cond.instanceMethod yX8_size, Cond.selects RX8 yX8_size yX8_size, Cond.code yX8_size cX8_size 3 (some .int), Cond.fieldLink RX8 13 "SameAgainModel" "sizes" "[I", Cond.methodLink RX8 79 yX8_signAt, Cond.instanceMethod yX8_signAt, Cond.selects RX8 yX8_signAt yX8_signAt, Cond.code yX8_signAt cX8_signAt 4 (some .int), Cond.fieldLink RX8 16 "SameAgainModel" "code" "[I", Cond.methodLink RX8 102 yX8_areAlike, Cond.instanceMethod yX8_areAlike, Cond.selects RX8 yX8_areAlike yX8_areAlike]
def wsX8_rowsAlike_r2 : List Cond := [Cond.code yX8_areAlike cX8_areAlike 4 (some .boolean), Cond.methodLink RX8 83 yX8_isName, Cond.static yX8_isName, Cond.code yX8_isName cX8_isName 1 (some .boolean), Cond.methodLink RX8 54 yX8_in, Cond.static yX8_in, Cond.code yX8_in cX8_in 3 (some .boolean), Cond.methodLink RX8 86 yX8_goBeside, Cond.instanceMethod yX8_goBeside, Cond.selects RX8 yX8_goBeside yX8_goBeside, Cond.code yX8_goBeside cX8_goBeside 5 (some .boolean), Cond.methodLink RX8 90 yX8_isNumber, Cond.static yX8_isNumber, Cond.code yX8_isNumber cX8_isNumber 1 (some .boolean)]
def wsX8_rowsAlike : List Cond := .code yX8_rowsAlike cX8_rowsAlike 9 (some .boolean) :: ((wsX8_rowsAlike_r1 ++ wsX8_rowsAlike_r2) ++ wsX80)
def wsX8_areRows : List Cond := .code yX8_areRows cX8_areRows 4 (some .boolean) :: ([.methodLink RX8 105 yX8_isWay, .static yX8_isWay, .initialized RX8, .code yX8_isWay cX8_isWay 1 (some .boolean), .methodLink RX8 54 yX8_in, .static yX8_in, .code yX8_in cX8_in 3 (some .boolean), .methodLink RX8 108 yX8_isStart, .static yX8_isStart, .code yX8_isStart cX8_isStart 1 (some .boolean), .methodLink RX8 111 yX8_isLength, .static yX8_isLength, .code yX8_isLength cX8_isLength 1 (some .boolean)])
def wsX8_alike_r1 : List Cond := [Cond.methodLink RX8 72 yX8_isVersion, Cond.instanceMethod yX8_isVersion, Cond.selects RX8 yX8_isVersion yX8_isVersion, Cond.initialized RX8, Cond.code yX8_isVersion cX8_isVersion 2 (some .boolean), Cond.fieldLink RX8 51 "SameAgainModel" "versions" "I", Cond.methodLink RX8 54 yX8_in, Cond.static yX8_in, Cond.code yX8_in cX8_in 3 (some .boolean), Cond.methodLink RX8 114 yX8_areRows, Cond.static yX8_areRows, Cond.code yX8_areRows cX8_areRows 4 (some .boolean), Cond.methodLink RX8 105 yX8_isWay, Cond.static yX8_isWay, Cond.code yX8_isWay cX8_isWay 1 (some .boolean), Cond.methodLink RX8 108 yX8_isStart, Cond.static yX8_isStart, Cond.code yX8_isStart cX8_isStart 1 (some .boolean), Cond.methodLink RX8 111 yX8_isLength, Cond.static yX8_isLength, Cond.code yX8_isLength cX8_isLength 1 (some .boolean), Cond.methodLink RX8 118 yX8_rowsAlike, Cond.instanceMethod yX8_rowsAlike, Cond.selects RX8 yX8_rowsAlike yX8_rowsAlike]
def wsX8_alike_r2 : List Cond := [Cond.code yX8_rowsAlike cX8_rowsAlike 9 (some .boolean), Cond.fieldLink RX8 19 "SameAgainModel" "beside" "[I", Cond.fieldLink RX8 22 "SameAgainModel" "back" "[I", Cond.fieldLink RX8 25 "SameAgainModel" "otherLine" "I", Cond.fieldLink RX8 96 "SameAgainModel" "otherPlace" "I", Cond.fieldLink RX8 99 "SameAgainModel" "otherSign" "I", Cond.methodLink RX8 93 yX8_isThere, Cond.instanceMethod yX8_isThere, Cond.selects RX8 yX8_isThere yX8_isThere, Cond.code yX8_isThere cX8_isThere 3 (some .boolean), Cond.fieldLink RX8 58 "SameAgainModel" "lines" "I", Cond.methodLink RX8 75 yX8_size, Cond.instanceMethod yX8_size, Cond.selects RX8 yX8_size yX8_size, Cond.code yX8_size cX8_size 3 (some .int), Cond.fieldLink RX8 13 "SameAgainModel" "sizes" "[I", Cond.methodLink RX8 79 yX8_signAt, Cond.instanceMethod yX8_signAt, Cond.selects RX8 yX8_signAt yX8_signAt, Cond.code yX8_signAt cX8_signAt 4 (some .int), Cond.fieldLink RX8 16 "SameAgainModel" "code" "[I", Cond.methodLink RX8 102 yX8_areAlike, Cond.instanceMethod yX8_areAlike, Cond.selects RX8 yX8_areAlike yX8_areAlike]
def wsX8_alike_r3 : List Cond := [Cond.code yX8_areAlike cX8_areAlike 4 (some .boolean), Cond.methodLink RX8 83 yX8_isName, Cond.static yX8_isName, Cond.code yX8_isName cX8_isName 1 (some .boolean), Cond.methodLink RX8 86 yX8_goBeside, Cond.instanceMethod yX8_goBeside, Cond.selects RX8 yX8_goBeside yX8_goBeside, Cond.code yX8_goBeside cX8_goBeside 5 (some .boolean), Cond.methodLink RX8 90 yX8_isNumber, Cond.static yX8_isNumber, Cond.code yX8_isNumber cX8_isNumber 1 (some .boolean)]
def wsX8_alike : List Cond := .code yX8_alike cX8_alike 6 (some .int) :: ((wsX8_alike_r1 ++ (wsX8_alike_r2 ++ wsX8_alike_r3)) ++ wsX80)
def wsX8_longest_r1 : List Cond := [Cond.fieldLink RX8 58 "SameAgainModel" "lines" "I", Cond.methodLink RX8 72 yX8_isVersion, Cond.instanceMethod yX8_isVersion, Cond.selects RX8 yX8_isVersion yX8_isVersion, Cond.initialized RX8, Cond.code yX8_isVersion cX8_isVersion 2 (some .boolean), Cond.fieldLink RX8 51 "SameAgainModel" "versions" "I", Cond.methodLink RX8 54 yX8_in, Cond.static yX8_in, Cond.code yX8_in cX8_in 3 (some .boolean), Cond.methodLink RX8 105 yX8_isWay, Cond.static yX8_isWay, Cond.code yX8_isWay cX8_isWay 1 (some .boolean), Cond.methodLink RX8 118 yX8_rowsAlike, Cond.instanceMethod yX8_rowsAlike, Cond.selects RX8 yX8_rowsAlike yX8_rowsAlike, Cond.code yX8_rowsAlike cX8_rowsAlike 9 (some .boolean), Cond.fieldLink RX8 19 "SameAgainModel" "beside" "[I", Cond.fieldLink RX8 22 "SameAgainModel" "back" "[I", Cond.fieldLink RX8 25 "SameAgainModel" "otherLine" "I", Cond.fieldLink RX8 96 "SameAgainModel" "otherPlace" "I", Cond.fieldLink RX8 99 "SameAgainModel" "otherSign" "I", Cond.methodLink RX8 93 yX8_isThere, Cond.instanceMethod yX8_isThere]
def wsX8_longest_r2 : List Cond := [Cond.selects RX8 yX8_isThere yX8_isThere, Cond.code yX8_isThere cX8_isThere 3 (some .boolean), Cond.methodLink RX8 75 yX8_size, Cond.instanceMethod yX8_size, Cond.selects RX8 yX8_size yX8_size, Cond.code yX8_size cX8_size 3 (some .int), Cond.fieldLink RX8 13 "SameAgainModel" "sizes" "[I", Cond.methodLink RX8 79 yX8_signAt, Cond.instanceMethod yX8_signAt, Cond.selects RX8 yX8_signAt yX8_signAt, Cond.code yX8_signAt cX8_signAt 4 (some .int), Cond.fieldLink RX8 16 "SameAgainModel" "code" "[I", Cond.methodLink RX8 102 yX8_areAlike, Cond.instanceMethod yX8_areAlike, Cond.selects RX8 yX8_areAlike yX8_areAlike, Cond.code yX8_areAlike cX8_areAlike 4 (some .boolean), Cond.methodLink RX8 83 yX8_isName, Cond.static yX8_isName, Cond.code yX8_isName cX8_isName 1 (some .boolean), Cond.methodLink RX8 86 yX8_goBeside, Cond.instanceMethod yX8_goBeside, Cond.selects RX8 yX8_goBeside yX8_goBeside, Cond.code yX8_goBeside cX8_goBeside 5 (some .boolean), Cond.methodLink RX8 90 yX8_isNumber]
def wsX8_longest_r3 : List Cond := [Cond.static yX8_isNumber, Cond.code yX8_isNumber cX8_isNumber 1 (some .boolean)]
def wsX8_longest : List Cond := .code yX8_longest cX8_longest 7 (some .int) :: ((wsX8_longest_r1 ++ (wsX8_longest_r2 ++ wsX8_longest_r3)) ++ wsX80)
def wsX8_likeOf_r1 : List Cond := [Cond.fieldLink RX8 58 "SameAgainModel" "lines" "I", Cond.methodLink RX8 93 yX8_isThere, Cond.instanceMethod yX8_isThere, Cond.selects RX8 yX8_isThere yX8_isThere, Cond.initialized RX8, Cond.code yX8_isThere cX8_isThere 3 (some .boolean), Cond.methodLink RX8 118 yX8_rowsAlike, Cond.instanceMethod yX8_rowsAlike, Cond.selects RX8 yX8_rowsAlike yX8_rowsAlike, Cond.code yX8_rowsAlike cX8_rowsAlike 9 (some .boolean), Cond.fieldLink RX8 19 "SameAgainModel" "beside" "[I", Cond.fieldLink RX8 22 "SameAgainModel" "back" "[I", Cond.fieldLink RX8 25 "SameAgainModel" "otherLine" "I", Cond.fieldLink RX8 96 "SameAgainModel" "otherPlace" "I", Cond.fieldLink RX8 99 "SameAgainModel" "otherSign" "I", Cond.methodLink RX8 75 yX8_size, Cond.instanceMethod yX8_size, Cond.selects RX8 yX8_size yX8_size, Cond.code yX8_size cX8_size 3 (some .int), Cond.fieldLink RX8 13 "SameAgainModel" "sizes" "[I", Cond.methodLink RX8 79 yX8_signAt, Cond.instanceMethod yX8_signAt, Cond.selects RX8 yX8_signAt yX8_signAt, Cond.code yX8_signAt cX8_signAt 4 (some .int)]
def wsX8_likeOf_r2 : List Cond := [Cond.fieldLink RX8 16 "SameAgainModel" "code" "[I", Cond.methodLink RX8 102 yX8_areAlike, Cond.instanceMethod yX8_areAlike, Cond.selects RX8 yX8_areAlike yX8_areAlike, Cond.code yX8_areAlike cX8_areAlike 4 (some .boolean), Cond.methodLink RX8 83 yX8_isName, Cond.static yX8_isName, Cond.code yX8_isName cX8_isName 1 (some .boolean), Cond.methodLink RX8 54 yX8_in, Cond.static yX8_in, Cond.code yX8_in cX8_in 3 (some .boolean), Cond.methodLink RX8 86 yX8_goBeside, Cond.instanceMethod yX8_goBeside, Cond.selects RX8 yX8_goBeside yX8_goBeside, Cond.code yX8_goBeside cX8_goBeside 5 (some .boolean), Cond.methodLink RX8 90 yX8_isNumber, Cond.static yX8_isNumber, Cond.code yX8_isNumber cX8_isNumber 1 (some .boolean)]
def wsX8_likeOf : List Cond := .code yX8_likeOf cX8_likeOf 7 (some .int) :: ((wsX8_likeOf_r1 ++ wsX8_likeOf_r2) ++ wsX80)
def wsX8_like_r1 : List Cond := [Cond.methodLink RX8 72 yX8_isVersion, Cond.instanceMethod yX8_isVersion, Cond.selects RX8 yX8_isVersion yX8_isVersion, Cond.initialized RX8, Cond.code yX8_isVersion cX8_isVersion 2 (some .boolean), Cond.fieldLink RX8 51 "SameAgainModel" "versions" "I", Cond.methodLink RX8 54 yX8_in, Cond.static yX8_in, Cond.code yX8_in cX8_in 3 (some .boolean), Cond.methodLink RX8 105 yX8_isWay, Cond.static yX8_isWay, Cond.code yX8_isWay cX8_isWay 1 (some .boolean), Cond.methodLink RX8 108 yX8_isStart, Cond.static yX8_isStart, Cond.code yX8_isStart cX8_isStart 1 (some .boolean), Cond.methodLink RX8 111 yX8_isLength, Cond.static yX8_isLength, Cond.code yX8_isLength cX8_isLength 1 (some .boolean), Cond.methodLink RX8 122 yX8_likeOf, Cond.instanceMethod yX8_likeOf, Cond.selects RX8 yX8_likeOf yX8_likeOf, Cond.code yX8_likeOf cX8_likeOf 7 (some .int), Cond.fieldLink RX8 58 "SameAgainModel" "lines" "I", Cond.methodLink RX8 93 yX8_isThere]
def wsX8_like_r2 : List Cond := [Cond.instanceMethod yX8_isThere, Cond.selects RX8 yX8_isThere yX8_isThere, Cond.code yX8_isThere cX8_isThere 3 (some .boolean), Cond.methodLink RX8 118 yX8_rowsAlike, Cond.instanceMethod yX8_rowsAlike, Cond.selects RX8 yX8_rowsAlike yX8_rowsAlike, Cond.code yX8_rowsAlike cX8_rowsAlike 9 (some .boolean), Cond.fieldLink RX8 19 "SameAgainModel" "beside" "[I", Cond.fieldLink RX8 22 "SameAgainModel" "back" "[I", Cond.fieldLink RX8 25 "SameAgainModel" "otherLine" "I", Cond.fieldLink RX8 96 "SameAgainModel" "otherPlace" "I", Cond.fieldLink RX8 99 "SameAgainModel" "otherSign" "I", Cond.methodLink RX8 75 yX8_size, Cond.instanceMethod yX8_size, Cond.selects RX8 yX8_size yX8_size, Cond.code yX8_size cX8_size 3 (some .int), Cond.fieldLink RX8 13 "SameAgainModel" "sizes" "[I", Cond.methodLink RX8 79 yX8_signAt, Cond.instanceMethod yX8_signAt, Cond.selects RX8 yX8_signAt yX8_signAt, Cond.code yX8_signAt cX8_signAt 4 (some .int), Cond.fieldLink RX8 16 "SameAgainModel" "code" "[I", Cond.methodLink RX8 102 yX8_areAlike, Cond.instanceMethod yX8_areAlike]
def wsX8_like_r3 : List Cond := [Cond.selects RX8 yX8_areAlike yX8_areAlike, Cond.code yX8_areAlike cX8_areAlike 4 (some .boolean), Cond.methodLink RX8 83 yX8_isName, Cond.static yX8_isName, Cond.code yX8_isName cX8_isName 1 (some .boolean), Cond.methodLink RX8 86 yX8_goBeside, Cond.instanceMethod yX8_goBeside, Cond.selects RX8 yX8_goBeside yX8_goBeside, Cond.code yX8_goBeside cX8_goBeside 5 (some .boolean), Cond.methodLink RX8 90 yX8_isNumber, Cond.static yX8_isNumber, Cond.code yX8_isNumber cX8_isNumber 1 (some .boolean)]
def wsX8_like : List Cond := .code yX8_like cX8_like 5 (some .int) :: ((wsX8_like_r1 ++ (wsX8_like_r2 ++ wsX8_like_r3)) ++ wsX80)
def wsX8_bits : List Cond := .code yX8_bits cX8_bits 3 (some .int) :: ([])
def wsX8_least : List Cond := .code yX8_least cX8_least 2 (some .int) :: ([])
def wsX8_groups_r1 : List Cond := [Cond.fieldLink RX8 58 "SameAgainModel" "lines" "I", Cond.methodLink RX8 72 yX8_isVersion, Cond.instanceMethod yX8_isVersion, Cond.selects RX8 yX8_isVersion yX8_isVersion, Cond.initialized RX8, Cond.code yX8_isVersion cX8_isVersion 2 (some .boolean), Cond.fieldLink RX8 51 "SameAgainModel" "versions" "I", Cond.methodLink RX8 54 yX8_in, Cond.static yX8_in, Cond.code yX8_in cX8_in 3 (some .boolean), Cond.methodLink RX8 105 yX8_isWay, Cond.static yX8_isWay, Cond.code yX8_isWay cX8_isWay 1 (some .boolean), Cond.methodLink RX8 111 yX8_isLength, Cond.static yX8_isLength, Cond.code yX8_isLength cX8_isLength 1 (some .boolean), Cond.methodLink RX8 122 yX8_likeOf, Cond.instanceMethod yX8_likeOf, Cond.selects RX8 yX8_likeOf yX8_likeOf, Cond.code yX8_likeOf cX8_likeOf 7 (some .int), Cond.methodLink RX8 93 yX8_isThere, Cond.instanceMethod yX8_isThere, Cond.selects RX8 yX8_isThere yX8_isThere, Cond.code yX8_isThere cX8_isThere 3 (some .boolean)]
def wsX8_groups_r2 : List Cond := [Cond.methodLink RX8 118 yX8_rowsAlike, Cond.instanceMethod yX8_rowsAlike, Cond.selects RX8 yX8_rowsAlike yX8_rowsAlike, Cond.code yX8_rowsAlike cX8_rowsAlike 9 (some .boolean), Cond.fieldLink RX8 19 "SameAgainModel" "beside" "[I", Cond.fieldLink RX8 22 "SameAgainModel" "back" "[I", Cond.fieldLink RX8 25 "SameAgainModel" "otherLine" "I", Cond.fieldLink RX8 96 "SameAgainModel" "otherPlace" "I", Cond.fieldLink RX8 99 "SameAgainModel" "otherSign" "I", Cond.methodLink RX8 75 yX8_size, Cond.instanceMethod yX8_size, Cond.selects RX8 yX8_size yX8_size, Cond.code yX8_size cX8_size 3 (some .int), Cond.fieldLink RX8 13 "SameAgainModel" "sizes" "[I", Cond.methodLink RX8 79 yX8_signAt, Cond.instanceMethod yX8_signAt, Cond.selects RX8 yX8_signAt yX8_signAt, Cond.code yX8_signAt cX8_signAt 4 (some .int), Cond.fieldLink RX8 16 "SameAgainModel" "code" "[I", Cond.methodLink RX8 102 yX8_areAlike, Cond.instanceMethod yX8_areAlike, Cond.selects RX8 yX8_areAlike yX8_areAlike, Cond.code yX8_areAlike cX8_areAlike 4 (some .boolean), Cond.methodLink RX8 83 yX8_isName]
def wsX8_groups_r3 : List Cond := [Cond.static yX8_isName, Cond.code yX8_isName cX8_isName 1 (some .boolean), Cond.methodLink RX8 86 yX8_goBeside, Cond.instanceMethod yX8_goBeside, Cond.selects RX8 yX8_goBeside yX8_goBeside, Cond.code yX8_goBeside cX8_goBeside 5 (some .boolean), Cond.methodLink RX8 90 yX8_isNumber, Cond.static yX8_isNumber, Cond.code yX8_isNumber cX8_isNumber 1 (some .boolean), Cond.methodLink RX8 126 yX8_bits, Cond.static yX8_bits, Cond.code yX8_bits cX8_bits 3 (some .int), Cond.methodLink RX8 130 yX8_least, Cond.static yX8_least, Cond.code yX8_least cX8_least 2 (some .int)]
def wsX8_groups : List Cond := .code yX8_groups cX8_groups 8 (some .int) :: ((wsX8_groups_r1 ++ (wsX8_groups_r2 ++ wsX8_groups_r3)) ++ wsX80)
def wsX8_whole_r1 : List Cond := [Cond.methodLink RX8 72 yX8_isVersion, Cond.instanceMethod yX8_isVersion, Cond.selects RX8 yX8_isVersion yX8_isVersion, Cond.initialized RX8, Cond.code yX8_isVersion cX8_isVersion 2 (some .boolean), Cond.fieldLink RX8 51 "SameAgainModel" "versions" "I", Cond.methodLink RX8 54 yX8_in, Cond.static yX8_in, Cond.code yX8_in cX8_in 3 (some .boolean), Cond.methodLink RX8 105 yX8_isWay, Cond.static yX8_isWay, Cond.code yX8_isWay cX8_isWay 1 (some .boolean), Cond.methodLink RX8 108 yX8_isStart, Cond.static yX8_isStart, Cond.code yX8_isStart cX8_isStart 1 (some .boolean), Cond.methodLink RX8 111 yX8_isLength, Cond.static yX8_isLength, Cond.code yX8_isLength cX8_isLength 1 (some .boolean), Cond.methodLink RX8 122 yX8_likeOf, Cond.instanceMethod yX8_likeOf, Cond.selects RX8 yX8_likeOf yX8_likeOf, Cond.code yX8_likeOf cX8_likeOf 7 (some .int), Cond.fieldLink RX8 58 "SameAgainModel" "lines" "I", Cond.methodLink RX8 93 yX8_isThere]
def wsX8_whole_r2 : List Cond := [Cond.instanceMethod yX8_isThere, Cond.selects RX8 yX8_isThere yX8_isThere, Cond.code yX8_isThere cX8_isThere 3 (some .boolean), Cond.methodLink RX8 118 yX8_rowsAlike, Cond.instanceMethod yX8_rowsAlike, Cond.selects RX8 yX8_rowsAlike yX8_rowsAlike, Cond.code yX8_rowsAlike cX8_rowsAlike 9 (some .boolean), Cond.fieldLink RX8 19 "SameAgainModel" "beside" "[I", Cond.fieldLink RX8 22 "SameAgainModel" "back" "[I", Cond.fieldLink RX8 25 "SameAgainModel" "otherLine" "I", Cond.fieldLink RX8 96 "SameAgainModel" "otherPlace" "I", Cond.fieldLink RX8 99 "SameAgainModel" "otherSign" "I", Cond.methodLink RX8 75 yX8_size, Cond.instanceMethod yX8_size, Cond.selects RX8 yX8_size yX8_size, Cond.code yX8_size cX8_size 3 (some .int), Cond.fieldLink RX8 13 "SameAgainModel" "sizes" "[I", Cond.methodLink RX8 79 yX8_signAt, Cond.instanceMethod yX8_signAt, Cond.selects RX8 yX8_signAt yX8_signAt, Cond.code yX8_signAt cX8_signAt 4 (some .int), Cond.fieldLink RX8 16 "SameAgainModel" "code" "[I", Cond.methodLink RX8 102 yX8_areAlike, Cond.instanceMethod yX8_areAlike]
def wsX8_whole_r3 : List Cond := [Cond.selects RX8 yX8_areAlike yX8_areAlike, Cond.code yX8_areAlike cX8_areAlike 4 (some .boolean), Cond.methodLink RX8 83 yX8_isName, Cond.static yX8_isName, Cond.code yX8_isName cX8_isName 1 (some .boolean), Cond.methodLink RX8 86 yX8_goBeside, Cond.instanceMethod yX8_goBeside, Cond.selects RX8 yX8_goBeside yX8_goBeside, Cond.code yX8_goBeside cX8_goBeside 5 (some .boolean), Cond.methodLink RX8 90 yX8_isNumber, Cond.static yX8_isNumber, Cond.code yX8_isNumber cX8_isNumber 1 (some .boolean), Cond.methodLink RX8 126 yX8_bits, Cond.static yX8_bits, Cond.code yX8_bits cX8_bits 3 (some .int), Cond.methodLink RX8 130 yX8_least, Cond.static yX8_least, Cond.code yX8_least cX8_least 2 (some .int)]
def wsX8_whole : List Cond := .code yX8_whole cX8_whole 9 (some .int) :: ((wsX8_whole_r1 ++ (wsX8_whole_r2 ++ wsX8_whole_r3)) ++ wsX80)
def wsX8_takenOf : List Cond := .code yX8_takenOf cX8_takenOf 6 (some .int) :: ([.fieldLink RX8 58 "SameAgainModel" "lines" "I"] ++ wsX80)
def wsX8_isSame : List Cond := .code yX8_isSame cX8_isSame 8 (some .boolean) :: ([.fieldLink RX8 58 "SameAgainModel" "lines" "I", .methodLink RX8 130 yX8_least, .static yX8_least, .initialized RX8, .code yX8_least cX8_least 2 (some .int), .methodLink RX8 79 yX8_signAt, .instanceMethod yX8_signAt, .selects RX8 yX8_signAt yX8_signAt, .code yX8_signAt cX8_signAt 4 (some .int), .fieldLink RX8 16 "SameAgainModel" "code" "[I"] ++ wsX80)
def wsX8_areOne : List Cond := .code yX8_areOne cX8_areOne 9 (some .boolean) :: ([.fieldLink RX8 58 "SameAgainModel" "lines" "I", .methodLink RX8 79 yX8_signAt, .instanceMethod yX8_signAt, .selects RX8 yX8_signAt yX8_signAt, .initialized RX8, .code yX8_signAt cX8_signAt 4 (some .int), .fieldLink RX8 16 "SameAgainModel" "code" "[I"] ++ wsX80)
def wsX8_isTold : List Cond := .code yX8_isTold cX8_isTold 6 (some .boolean) :: ([.methodLink RX8 130 yX8_least, .static yX8_least, .initialized RX8, .code yX8_least cX8_least 2 (some .int), .methodLink RX8 79 yX8_signAt, .instanceMethod yX8_signAt, .selects RX8 yX8_signAt yX8_signAt, .code yX8_signAt cX8_signAt 4 (some .int), .fieldLink RX8 16 "SameAgainModel" "code" "[I", .methodLink RX8 83 yX8_isName, .static yX8_isName, .code yX8_isName cX8_isName 1 (some .boolean), .methodLink RX8 54 yX8_in, .static yX8_in, .code yX8_in cX8_in 3 (some .boolean), .methodLink RX8 90 yX8_isNumber, .static yX8_isNumber, .code yX8_isNumber cX8_isNumber 1 (some .boolean), .methodLink RX8 133 yX8_isSame, .instanceMethod yX8_isSame, .selects RX8 yX8_isSame yX8_isSame, .code yX8_isSame cX8_isSame 8 (some .boolean), .fieldLink RX8 58 "SameAgainModel" "lines" "I"] ++ wsX80)
def wsX8_toldOf_r1 : List Cond := [Cond.methodLink RX8 130 yX8_least, Cond.static yX8_least, Cond.initialized RX8, Cond.code yX8_least cX8_least 2 (some .int), Cond.methodLink RX8 75 yX8_size, Cond.instanceMethod yX8_size, Cond.selects RX8 yX8_size yX8_size, Cond.code yX8_size cX8_size 3 (some .int), Cond.fieldLink RX8 13 "SameAgainModel" "sizes" "[I", Cond.methodLink RX8 136 yX8_isTold, Cond.instanceMethod yX8_isTold, Cond.selects RX8 yX8_isTold yX8_isTold, Cond.code yX8_isTold cX8_isTold 6 (some .boolean), Cond.methodLink RX8 79 yX8_signAt, Cond.instanceMethod yX8_signAt, Cond.selects RX8 yX8_signAt yX8_signAt, Cond.code yX8_signAt cX8_signAt 4 (some .int), Cond.fieldLink RX8 16 "SameAgainModel" "code" "[I", Cond.methodLink RX8 83 yX8_isName, Cond.static yX8_isName, Cond.code yX8_isName cX8_isName 1 (some .boolean), Cond.methodLink RX8 54 yX8_in, Cond.static yX8_in, Cond.code yX8_in cX8_in 3 (some .boolean)]
def wsX8_toldOf_r2 : List Cond := [Cond.methodLink RX8 90 yX8_isNumber, Cond.static yX8_isNumber, Cond.code yX8_isNumber cX8_isNumber 1 (some .boolean), Cond.methodLink RX8 133 yX8_isSame, Cond.instanceMethod yX8_isSame, Cond.selects RX8 yX8_isSame yX8_isSame, Cond.code yX8_isSame cX8_isSame 8 (some .boolean), Cond.fieldLink RX8 58 "SameAgainModel" "lines" "I", Cond.methodLink RX8 139 yX8_areOne, Cond.instanceMethod yX8_areOne, Cond.selects RX8 yX8_areOne yX8_areOne, Cond.code yX8_areOne cX8_areOne 9 (some .boolean)]
def wsX8_toldOf : List Cond := .code yX8_toldOf cX8_toldOf 11 (some .int) :: ((wsX8_toldOf_r1 ++ wsX8_toldOf_r2) ++ wsX80)
def wsX8_savesOf_r1 : List Cond := [Cond.methodLink RX8 126 yX8_bits, Cond.static yX8_bits, Cond.initialized RX8, Cond.code yX8_bits cX8_bits 3 (some .int), Cond.methodLink RX8 143 yX8_toldOf, Cond.instanceMethod yX8_toldOf, Cond.selects RX8 yX8_toldOf yX8_toldOf, Cond.code yX8_toldOf cX8_toldOf 11 (some .int), Cond.methodLink RX8 130 yX8_least, Cond.static yX8_least, Cond.code yX8_least cX8_least 2 (some .int), Cond.methodLink RX8 75 yX8_size, Cond.instanceMethod yX8_size, Cond.selects RX8 yX8_size yX8_size, Cond.code yX8_size cX8_size 3 (some .int), Cond.fieldLink RX8 13 "SameAgainModel" "sizes" "[I", Cond.methodLink RX8 136 yX8_isTold, Cond.instanceMethod yX8_isTold, Cond.selects RX8 yX8_isTold yX8_isTold, Cond.code yX8_isTold cX8_isTold 6 (some .boolean), Cond.methodLink RX8 79 yX8_signAt, Cond.instanceMethod yX8_signAt, Cond.selects RX8 yX8_signAt yX8_signAt, Cond.code yX8_signAt cX8_signAt 4 (some .int)]
def wsX8_savesOf_r2 : List Cond := [Cond.fieldLink RX8 16 "SameAgainModel" "code" "[I", Cond.methodLink RX8 83 yX8_isName, Cond.static yX8_isName, Cond.code yX8_isName cX8_isName 1 (some .boolean), Cond.methodLink RX8 54 yX8_in, Cond.static yX8_in, Cond.code yX8_in cX8_in 3 (some .boolean), Cond.methodLink RX8 90 yX8_isNumber, Cond.static yX8_isNumber, Cond.code yX8_isNumber cX8_isNumber 1 (some .boolean), Cond.methodLink RX8 133 yX8_isSame, Cond.instanceMethod yX8_isSame, Cond.selects RX8 yX8_isSame yX8_isSame, Cond.code yX8_isSame cX8_isSame 8 (some .boolean), Cond.fieldLink RX8 58 "SameAgainModel" "lines" "I", Cond.methodLink RX8 139 yX8_areOne, Cond.instanceMethod yX8_areOne, Cond.selects RX8 yX8_areOne yX8_areOne, Cond.code yX8_areOne cX8_areOne 9 (some .boolean)]
def wsX8_savesOf : List Cond := .code yX8_savesOf cX8_savesOf 5 (some .int) :: ((wsX8_savesOf_r1 ++ wsX8_savesOf_r2) ++ wsX80)
def wsX8_pulled_r1 : List Cond := [Cond.methodLink RX8 72 yX8_isVersion, Cond.instanceMethod yX8_isVersion, Cond.selects RX8 yX8_isVersion yX8_isVersion, Cond.initialized RX8, Cond.code yX8_isVersion cX8_isVersion 2 (some .boolean), Cond.fieldLink RX8 51 "SameAgainModel" "versions" "I", Cond.methodLink RX8 54 yX8_in, Cond.static yX8_in, Cond.code yX8_in cX8_in 3 (some .boolean), Cond.methodLink RX8 105 yX8_isWay, Cond.static yX8_isWay, Cond.code yX8_isWay cX8_isWay 1 (some .boolean), Cond.methodLink RX8 108 yX8_isStart, Cond.static yX8_isStart, Cond.code yX8_isStart cX8_isStart 1 (some .boolean), Cond.methodLink RX8 111 yX8_isLength, Cond.static yX8_isLength, Cond.code yX8_isLength cX8_isLength 1 (some .boolean), Cond.methodLink RX8 122 yX8_likeOf, Cond.instanceMethod yX8_likeOf, Cond.selects RX8 yX8_likeOf yX8_likeOf, Cond.code yX8_likeOf cX8_likeOf 7 (some .int), Cond.fieldLink RX8 58 "SameAgainModel" "lines" "I", Cond.methodLink RX8 93 yX8_isThere]
def wsX8_pulled_r2 : List Cond := [Cond.instanceMethod yX8_isThere, Cond.selects RX8 yX8_isThere yX8_isThere, Cond.code yX8_isThere cX8_isThere 3 (some .boolean), Cond.methodLink RX8 118 yX8_rowsAlike, Cond.instanceMethod yX8_rowsAlike, Cond.selects RX8 yX8_rowsAlike yX8_rowsAlike, Cond.code yX8_rowsAlike cX8_rowsAlike 9 (some .boolean), Cond.fieldLink RX8 19 "SameAgainModel" "beside" "[I", Cond.fieldLink RX8 22 "SameAgainModel" "back" "[I", Cond.fieldLink RX8 25 "SameAgainModel" "otherLine" "I", Cond.fieldLink RX8 96 "SameAgainModel" "otherPlace" "I", Cond.fieldLink RX8 99 "SameAgainModel" "otherSign" "I", Cond.methodLink RX8 75 yX8_size, Cond.instanceMethod yX8_size, Cond.selects RX8 yX8_size yX8_size, Cond.code yX8_size cX8_size 3 (some .int), Cond.fieldLink RX8 13 "SameAgainModel" "sizes" "[I", Cond.methodLink RX8 79 yX8_signAt, Cond.instanceMethod yX8_signAt, Cond.selects RX8 yX8_signAt yX8_signAt, Cond.code yX8_signAt cX8_signAt 4 (some .int), Cond.fieldLink RX8 16 "SameAgainModel" "code" "[I", Cond.methodLink RX8 102 yX8_areAlike, Cond.instanceMethod yX8_areAlike]
def wsX8_pulled_r3 : List Cond := [Cond.selects RX8 yX8_areAlike yX8_areAlike, Cond.code yX8_areAlike cX8_areAlike 4 (some .boolean), Cond.methodLink RX8 83 yX8_isName, Cond.static yX8_isName, Cond.code yX8_isName cX8_isName 1 (some .boolean), Cond.methodLink RX8 86 yX8_goBeside, Cond.instanceMethod yX8_goBeside, Cond.selects RX8 yX8_goBeside yX8_goBeside, Cond.code yX8_goBeside cX8_goBeside 5 (some .boolean), Cond.methodLink RX8 90 yX8_isNumber, Cond.static yX8_isNumber, Cond.code yX8_isNumber cX8_isNumber 1 (some .boolean), Cond.methodLink RX8 146 yX8_takenOf, Cond.instanceMethod yX8_takenOf, Cond.selects RX8 yX8_takenOf yX8_takenOf, Cond.code yX8_takenOf cX8_takenOf 6 (some .int), Cond.methodLink RX8 126 yX8_bits, Cond.static yX8_bits, Cond.code yX8_bits cX8_bits 3 (some .int), Cond.methodLink RX8 143 yX8_toldOf, Cond.instanceMethod yX8_toldOf, Cond.selects RX8 yX8_toldOf yX8_toldOf, Cond.code yX8_toldOf cX8_toldOf 11 (some .int), Cond.methodLink RX8 130 yX8_least]
def wsX8_pulled_r4 : List Cond := [Cond.static yX8_least, Cond.code yX8_least cX8_least 2 (some .int), Cond.methodLink RX8 136 yX8_isTold, Cond.instanceMethod yX8_isTold, Cond.selects RX8 yX8_isTold yX8_isTold, Cond.code yX8_isTold cX8_isTold 6 (some .boolean), Cond.methodLink RX8 133 yX8_isSame, Cond.instanceMethod yX8_isSame, Cond.selects RX8 yX8_isSame yX8_isSame, Cond.code yX8_isSame cX8_isSame 8 (some .boolean), Cond.methodLink RX8 139 yX8_areOne, Cond.instanceMethod yX8_areOne, Cond.selects RX8 yX8_areOne yX8_areOne, Cond.code yX8_areOne cX8_areOne 9 (some .boolean), Cond.methodLink RX8 149 yX8_savesOf, Cond.instanceMethod yX8_savesOf, Cond.selects RX8 yX8_savesOf yX8_savesOf, Cond.code yX8_savesOf cX8_savesOf 5 (some .int)]
def wsX8_pulled : List Cond := .code yX8_pulled cX8_pulled 7 (some .int) :: ((wsX8_pulled_r1 ++ (wsX8_pulled_r2 ++ (wsX8_pulled_r3 ++ wsX8_pulled_r4))) ++ wsX80)
def wsX8_laySavings_r1 : List Cond := [Cond.fieldLink RX8 152 "SameAgainModel" "savings" "I", Cond.fieldLink RX8 58 "SameAgainModel" "lines" "I", Cond.fieldLink RX8 29 "SameAgainModel" "saves" "[I", Cond.fieldLink RX8 32 "SameAgainModel" "savesStart" "[I", Cond.fieldLink RX8 35 "SameAgainModel" "savesLength" "[I", Cond.fieldLink RX8 38 "SameAgainModel" "savesLines" "[I", Cond.methodLink RX8 122 yX8_likeOf, Cond.instanceMethod yX8_likeOf, Cond.selects RX8 yX8_likeOf yX8_likeOf, Cond.initialized RX8, Cond.code yX8_likeOf cX8_likeOf 7 (some .int), Cond.methodLink RX8 93 yX8_isThere, Cond.instanceMethod yX8_isThere, Cond.selects RX8 yX8_isThere yX8_isThere, Cond.code yX8_isThere cX8_isThere 3 (some .boolean), Cond.methodLink RX8 118 yX8_rowsAlike, Cond.instanceMethod yX8_rowsAlike, Cond.selects RX8 yX8_rowsAlike yX8_rowsAlike, Cond.code yX8_rowsAlike cX8_rowsAlike 9 (some .boolean), Cond.fieldLink RX8 19 "SameAgainModel" "beside" "[I", Cond.fieldLink RX8 22 "SameAgainModel" "back" "[I", Cond.fieldLink RX8 25 "SameAgainModel" "otherLine" "I", Cond.fieldLink RX8 96 "SameAgainModel" "otherPlace" "I", Cond.fieldLink RX8 99 "SameAgainModel" "otherSign" "I"]
def wsX8_laySavings_r2 : List Cond := [Cond.methodLink RX8 75 yX8_size, Cond.instanceMethod yX8_size, Cond.selects RX8 yX8_size yX8_size, Cond.code yX8_size cX8_size 3 (some .int), Cond.fieldLink RX8 13 "SameAgainModel" "sizes" "[I", Cond.methodLink RX8 79 yX8_signAt, Cond.instanceMethod yX8_signAt, Cond.selects RX8 yX8_signAt yX8_signAt, Cond.code yX8_signAt cX8_signAt 4 (some .int), Cond.fieldLink RX8 16 "SameAgainModel" "code" "[I", Cond.methodLink RX8 102 yX8_areAlike, Cond.instanceMethod yX8_areAlike, Cond.selects RX8 yX8_areAlike yX8_areAlike, Cond.code yX8_areAlike cX8_areAlike 4 (some .boolean), Cond.methodLink RX8 83 yX8_isName, Cond.static yX8_isName, Cond.code yX8_isName cX8_isName 1 (some .boolean), Cond.methodLink RX8 54 yX8_in, Cond.static yX8_in, Cond.code yX8_in cX8_in 3 (some .boolean), Cond.methodLink RX8 86 yX8_goBeside, Cond.instanceMethod yX8_goBeside, Cond.selects RX8 yX8_goBeside yX8_goBeside, Cond.code yX8_goBeside cX8_goBeside 5 (some .boolean)]
def wsX8_laySavings_r3 : List Cond := [Cond.methodLink RX8 90 yX8_isNumber, Cond.static yX8_isNumber, Cond.code yX8_isNumber cX8_isNumber 1 (some .boolean), Cond.methodLink RX8 130 yX8_least, Cond.static yX8_least, Cond.code yX8_least cX8_least 2 (some .int), Cond.methodLink RX8 146 yX8_takenOf, Cond.instanceMethod yX8_takenOf, Cond.selects RX8 yX8_takenOf yX8_takenOf, Cond.code yX8_takenOf cX8_takenOf 6 (some .int), Cond.methodLink RX8 126 yX8_bits, Cond.static yX8_bits, Cond.code yX8_bits cX8_bits 3 (some .int), Cond.methodLink RX8 149 yX8_savesOf, Cond.instanceMethod yX8_savesOf, Cond.selects RX8 yX8_savesOf yX8_savesOf, Cond.code yX8_savesOf cX8_savesOf 5 (some .int), Cond.methodLink RX8 143 yX8_toldOf, Cond.instanceMethod yX8_toldOf, Cond.selects RX8 yX8_toldOf yX8_toldOf, Cond.code yX8_toldOf cX8_toldOf 11 (some .int), Cond.methodLink RX8 136 yX8_isTold, Cond.instanceMethod yX8_isTold, Cond.selects RX8 yX8_isTold yX8_isTold]
def wsX8_laySavings_r4 : List Cond := [Cond.code yX8_isTold cX8_isTold 6 (some .boolean), Cond.methodLink RX8 133 yX8_isSame, Cond.instanceMethod yX8_isSame, Cond.selects RX8 yX8_isSame yX8_isSame, Cond.code yX8_isSame cX8_isSame 8 (some .boolean), Cond.methodLink RX8 139 yX8_areOne, Cond.instanceMethod yX8_areOne, Cond.selects RX8 yX8_areOne yX8_areOne, Cond.code yX8_areOne cX8_areOne 9 (some .boolean)]
def wsX8_laySavings : List Cond := .code yX8_laySavings cX8_laySavings 10 none :: ((wsX8_laySavings_r1 ++ (wsX8_laySavings_r2 ++ (wsX8_laySavings_r3 ++ wsX8_laySavings_r4))) ++ wsX80)
def wsX8_best_r1 : List Cond := [Cond.fieldLink RX8 152 "SameAgainModel" "savings" "I", Cond.fieldLink RX8 29 "SameAgainModel" "saves" "[I", Cond.fieldLink RX8 32 "SameAgainModel" "savesStart" "[I", Cond.fieldLink RX8 35 "SameAgainModel" "savesLength" "[I", Cond.methodLink RX8 72 yX8_isVersion, Cond.instanceMethod yX8_isVersion, Cond.selects RX8 yX8_isVersion yX8_isVersion, Cond.initialized RX8, Cond.code yX8_isVersion cX8_isVersion 2 (some .boolean), Cond.fieldLink RX8 51 "SameAgainModel" "versions" "I", Cond.methodLink RX8 54 yX8_in, Cond.static yX8_in, Cond.code yX8_in cX8_in 3 (some .boolean), Cond.methodLink RX8 105 yX8_isWay, Cond.static yX8_isWay, Cond.code yX8_isWay cX8_isWay 1 (some .boolean), Cond.methodLink RX8 155 yX8_laySavings, Cond.instanceMethod yX8_laySavings, Cond.selects RX8 yX8_laySavings yX8_laySavings, Cond.code yX8_laySavings cX8_laySavings 10 none, Cond.fieldLink RX8 58 "SameAgainModel" "lines" "I", Cond.fieldLink RX8 38 "SameAgainModel" "savesLines" "[I", Cond.methodLink RX8 122 yX8_likeOf, Cond.instanceMethod yX8_likeOf]
def wsX8_best_r2 : List Cond := [Cond.selects RX8 yX8_likeOf yX8_likeOf, Cond.code yX8_likeOf cX8_likeOf 7 (some .int), Cond.methodLink RX8 93 yX8_isThere, Cond.instanceMethod yX8_isThere, Cond.selects RX8 yX8_isThere yX8_isThere, Cond.code yX8_isThere cX8_isThere 3 (some .boolean), Cond.methodLink RX8 118 yX8_rowsAlike, Cond.instanceMethod yX8_rowsAlike, Cond.selects RX8 yX8_rowsAlike yX8_rowsAlike, Cond.code yX8_rowsAlike cX8_rowsAlike 9 (some .boolean), Cond.fieldLink RX8 19 "SameAgainModel" "beside" "[I", Cond.fieldLink RX8 22 "SameAgainModel" "back" "[I", Cond.fieldLink RX8 25 "SameAgainModel" "otherLine" "I", Cond.fieldLink RX8 96 "SameAgainModel" "otherPlace" "I", Cond.fieldLink RX8 99 "SameAgainModel" "otherSign" "I", Cond.methodLink RX8 75 yX8_size, Cond.instanceMethod yX8_size, Cond.selects RX8 yX8_size yX8_size, Cond.code yX8_size cX8_size 3 (some .int), Cond.fieldLink RX8 13 "SameAgainModel" "sizes" "[I", Cond.methodLink RX8 79 yX8_signAt, Cond.instanceMethod yX8_signAt, Cond.selects RX8 yX8_signAt yX8_signAt, Cond.code yX8_signAt cX8_signAt 4 (some .int)]
def wsX8_best_r3 : List Cond := [Cond.fieldLink RX8 16 "SameAgainModel" "code" "[I", Cond.methodLink RX8 102 yX8_areAlike, Cond.instanceMethod yX8_areAlike, Cond.selects RX8 yX8_areAlike yX8_areAlike, Cond.code yX8_areAlike cX8_areAlike 4 (some .boolean), Cond.methodLink RX8 83 yX8_isName, Cond.static yX8_isName, Cond.code yX8_isName cX8_isName 1 (some .boolean), Cond.methodLink RX8 86 yX8_goBeside, Cond.instanceMethod yX8_goBeside, Cond.selects RX8 yX8_goBeside yX8_goBeside, Cond.code yX8_goBeside cX8_goBeside 5 (some .boolean), Cond.methodLink RX8 90 yX8_isNumber, Cond.static yX8_isNumber, Cond.code yX8_isNumber cX8_isNumber 1 (some .boolean), Cond.methodLink RX8 130 yX8_least, Cond.static yX8_least, Cond.code yX8_least cX8_least 2 (some .int), Cond.methodLink RX8 146 yX8_takenOf, Cond.instanceMethod yX8_takenOf, Cond.selects RX8 yX8_takenOf yX8_takenOf, Cond.code yX8_takenOf cX8_takenOf 6 (some .int), Cond.methodLink RX8 126 yX8_bits, Cond.static yX8_bits]
def wsX8_best_r4 : List Cond := [Cond.code yX8_bits cX8_bits 3 (some .int), Cond.methodLink RX8 149 yX8_savesOf, Cond.instanceMethod yX8_savesOf, Cond.selects RX8 yX8_savesOf yX8_savesOf, Cond.code yX8_savesOf cX8_savesOf 5 (some .int), Cond.methodLink RX8 143 yX8_toldOf, Cond.instanceMethod yX8_toldOf, Cond.selects RX8 yX8_toldOf yX8_toldOf, Cond.code yX8_toldOf cX8_toldOf 11 (some .int), Cond.methodLink RX8 136 yX8_isTold, Cond.instanceMethod yX8_isTold, Cond.selects RX8 yX8_isTold yX8_isTold, Cond.code yX8_isTold cX8_isTold 6 (some .boolean), Cond.methodLink RX8 133 yX8_isSame, Cond.instanceMethod yX8_isSame, Cond.selects RX8 yX8_isSame yX8_isSame, Cond.code yX8_isSame cX8_isSame 8 (some .boolean), Cond.methodLink RX8 139 yX8_areOne, Cond.instanceMethod yX8_areOne, Cond.selects RX8 yX8_areOne yX8_areOne, Cond.code yX8_areOne cX8_areOne 9 (some .boolean)]
def wsX8_best : List Cond := .code yX8_best cX8_best 6 (some .int) :: ((wsX8_best_r1 ++ (wsX8_best_r2 ++ (wsX8_best_r3 ++ wsX8_best_r4))) ++ wsX80)
def wsX8_two_r1 : List Cond := [Cond.fieldLink RX8 152 "SameAgainModel" "savings" "I", Cond.fieldLink RX8 29 "SameAgainModel" "saves" "[I", Cond.fieldLink RX8 38 "SameAgainModel" "savesLines" "[I", Cond.methodLink RX8 72 yX8_isVersion, Cond.instanceMethod yX8_isVersion, Cond.selects RX8 yX8_isVersion yX8_isVersion, Cond.initialized RX8, Cond.code yX8_isVersion cX8_isVersion 2 (some .boolean), Cond.fieldLink RX8 51 "SameAgainModel" "versions" "I", Cond.methodLink RX8 54 yX8_in, Cond.static yX8_in, Cond.code yX8_in cX8_in 3 (some .boolean), Cond.methodLink RX8 105 yX8_isWay, Cond.static yX8_isWay, Cond.code yX8_isWay cX8_isWay 1 (some .boolean), Cond.methodLink RX8 155 yX8_laySavings, Cond.instanceMethod yX8_laySavings, Cond.selects RX8 yX8_laySavings yX8_laySavings, Cond.code yX8_laySavings cX8_laySavings 10 none, Cond.fieldLink RX8 58 "SameAgainModel" "lines" "I", Cond.fieldLink RX8 32 "SameAgainModel" "savesStart" "[I", Cond.fieldLink RX8 35 "SameAgainModel" "savesLength" "[I", Cond.methodLink RX8 122 yX8_likeOf, Cond.instanceMethod yX8_likeOf]
def wsX8_two_r2 : List Cond := [Cond.selects RX8 yX8_likeOf yX8_likeOf, Cond.code yX8_likeOf cX8_likeOf 7 (some .int), Cond.methodLink RX8 93 yX8_isThere, Cond.instanceMethod yX8_isThere, Cond.selects RX8 yX8_isThere yX8_isThere, Cond.code yX8_isThere cX8_isThere 3 (some .boolean), Cond.methodLink RX8 118 yX8_rowsAlike, Cond.instanceMethod yX8_rowsAlike, Cond.selects RX8 yX8_rowsAlike yX8_rowsAlike, Cond.code yX8_rowsAlike cX8_rowsAlike 9 (some .boolean), Cond.fieldLink RX8 19 "SameAgainModel" "beside" "[I", Cond.fieldLink RX8 22 "SameAgainModel" "back" "[I", Cond.fieldLink RX8 25 "SameAgainModel" "otherLine" "I", Cond.fieldLink RX8 96 "SameAgainModel" "otherPlace" "I", Cond.fieldLink RX8 99 "SameAgainModel" "otherSign" "I", Cond.methodLink RX8 75 yX8_size, Cond.instanceMethod yX8_size, Cond.selects RX8 yX8_size yX8_size, Cond.code yX8_size cX8_size 3 (some .int), Cond.fieldLink RX8 13 "SameAgainModel" "sizes" "[I", Cond.methodLink RX8 79 yX8_signAt, Cond.instanceMethod yX8_signAt, Cond.selects RX8 yX8_signAt yX8_signAt, Cond.code yX8_signAt cX8_signAt 4 (some .int)]
def wsX8_two_r3 : List Cond := [Cond.fieldLink RX8 16 "SameAgainModel" "code" "[I", Cond.methodLink RX8 102 yX8_areAlike, Cond.instanceMethod yX8_areAlike, Cond.selects RX8 yX8_areAlike yX8_areAlike, Cond.code yX8_areAlike cX8_areAlike 4 (some .boolean), Cond.methodLink RX8 83 yX8_isName, Cond.static yX8_isName, Cond.code yX8_isName cX8_isName 1 (some .boolean), Cond.methodLink RX8 86 yX8_goBeside, Cond.instanceMethod yX8_goBeside, Cond.selects RX8 yX8_goBeside yX8_goBeside, Cond.code yX8_goBeside cX8_goBeside 5 (some .boolean), Cond.methodLink RX8 90 yX8_isNumber, Cond.static yX8_isNumber, Cond.code yX8_isNumber cX8_isNumber 1 (some .boolean), Cond.methodLink RX8 130 yX8_least, Cond.static yX8_least, Cond.code yX8_least cX8_least 2 (some .int), Cond.methodLink RX8 146 yX8_takenOf, Cond.instanceMethod yX8_takenOf, Cond.selects RX8 yX8_takenOf yX8_takenOf, Cond.code yX8_takenOf cX8_takenOf 6 (some .int), Cond.methodLink RX8 126 yX8_bits, Cond.static yX8_bits]
def wsX8_two_r4 : List Cond := [Cond.code yX8_bits cX8_bits 3 (some .int), Cond.methodLink RX8 149 yX8_savesOf, Cond.instanceMethod yX8_savesOf, Cond.selects RX8 yX8_savesOf yX8_savesOf, Cond.code yX8_savesOf cX8_savesOf 5 (some .int), Cond.methodLink RX8 143 yX8_toldOf, Cond.instanceMethod yX8_toldOf, Cond.selects RX8 yX8_toldOf yX8_toldOf, Cond.code yX8_toldOf cX8_toldOf 11 (some .int), Cond.methodLink RX8 136 yX8_isTold, Cond.instanceMethod yX8_isTold, Cond.selects RX8 yX8_isTold yX8_isTold, Cond.code yX8_isTold cX8_isTold 6 (some .boolean), Cond.methodLink RX8 133 yX8_isSame, Cond.instanceMethod yX8_isSame, Cond.selects RX8 yX8_isSame yX8_isSame, Cond.code yX8_isSame cX8_isSame 8 (some .boolean), Cond.methodLink RX8 139 yX8_areOne, Cond.instanceMethod yX8_areOne, Cond.selects RX8 yX8_areOne yX8_areOne, Cond.code yX8_areOne cX8_areOne 9 (some .boolean)]
def wsX8_two : List Cond := .code yX8_two cX8_two 7 (some .int) :: ((wsX8_two_r1 ++ (wsX8_two_r2 ++ (wsX8_two_r3 ++ wsX8_two_r4))) ++ wsX80)
def wsX8_forgotten_r1 : List Cond := [Cond.fieldLink RX8 25 "SameAgainModel" "otherLine" "I", Cond.fieldLink RX8 96 "SameAgainModel" "otherPlace" "I", Cond.fieldLink RX8 99 "SameAgainModel" "otherSign" "I", Cond.methodLink RX8 72 yX8_isVersion, Cond.instanceMethod yX8_isVersion, Cond.selects RX8 yX8_isVersion yX8_isVersion, Cond.initialized RX8, Cond.code yX8_isVersion cX8_isVersion 2 (some .boolean), Cond.fieldLink RX8 51 "SameAgainModel" "versions" "I", Cond.methodLink RX8 54 yX8_in, Cond.static yX8_in, Cond.code yX8_in cX8_in 3 (some .boolean), Cond.methodLink RX8 114 yX8_areRows, Cond.static yX8_areRows, Cond.code yX8_areRows cX8_areRows 4 (some .boolean), Cond.methodLink RX8 105 yX8_isWay, Cond.static yX8_isWay, Cond.code yX8_isWay cX8_isWay 1 (some .boolean), Cond.methodLink RX8 108 yX8_isStart, Cond.static yX8_isStart, Cond.code yX8_isStart cX8_isStart 1 (some .boolean), Cond.methodLink RX8 111 yX8_isLength, Cond.static yX8_isLength, Cond.code yX8_isLength cX8_isLength 1 (some .boolean)]
def wsX8_forgotten_r2 : List Cond := [Cond.methodLink RX8 93 yX8_isThere, Cond.instanceMethod yX8_isThere, Cond.selects RX8 yX8_isThere yX8_isThere, Cond.code yX8_isThere cX8_isThere 3 (some .boolean), Cond.fieldLink RX8 58 "SameAgainModel" "lines" "I", Cond.methodLink RX8 118 yX8_rowsAlike, Cond.instanceMethod yX8_rowsAlike, Cond.selects RX8 yX8_rowsAlike yX8_rowsAlike, Cond.code yX8_rowsAlike cX8_rowsAlike 9 (some .boolean), Cond.fieldLink RX8 19 "SameAgainModel" "beside" "[I", Cond.fieldLink RX8 22 "SameAgainModel" "back" "[I", Cond.methodLink RX8 75 yX8_size, Cond.instanceMethod yX8_size, Cond.selects RX8 yX8_size yX8_size, Cond.code yX8_size cX8_size 3 (some .int), Cond.fieldLink RX8 13 "SameAgainModel" "sizes" "[I", Cond.methodLink RX8 79 yX8_signAt, Cond.instanceMethod yX8_signAt, Cond.selects RX8 yX8_signAt yX8_signAt, Cond.code yX8_signAt cX8_signAt 4 (some .int), Cond.fieldLink RX8 16 "SameAgainModel" "code" "[I", Cond.methodLink RX8 102 yX8_areAlike, Cond.instanceMethod yX8_areAlike, Cond.selects RX8 yX8_areAlike yX8_areAlike]
def wsX8_forgotten_r3 : List Cond := [Cond.code yX8_areAlike cX8_areAlike 4 (some .boolean), Cond.methodLink RX8 83 yX8_isName, Cond.static yX8_isName, Cond.code yX8_isName cX8_isName 1 (some .boolean), Cond.methodLink RX8 86 yX8_goBeside, Cond.instanceMethod yX8_goBeside, Cond.selects RX8 yX8_goBeside yX8_goBeside, Cond.code yX8_goBeside cX8_goBeside 5 (some .boolean), Cond.methodLink RX8 90 yX8_isNumber, Cond.static yX8_isNumber, Cond.code yX8_isNumber cX8_isNumber 1 (some .boolean)]
def wsX8_forgotten : List Cond := .code yX8_forgotten cX8_forgotten 12 (some .int) :: ((wsX8_forgotten_r1 ++ (wsX8_forgotten_r2 ++ wsX8_forgotten_r3)) ++ wsX80)
def wsX8_parted_r1 : List Cond := [Cond.fieldLink RX8 51 "SameAgainModel" "versions" "I", Cond.methodLink RX8 114 yX8_areRows, Cond.static yX8_areRows, Cond.initialized RX8, Cond.code yX8_areRows cX8_areRows 4 (some .boolean), Cond.methodLink RX8 105 yX8_isWay, Cond.static yX8_isWay, Cond.code yX8_isWay cX8_isWay 1 (some .boolean), Cond.methodLink RX8 54 yX8_in, Cond.static yX8_in, Cond.code yX8_in cX8_in 3 (some .boolean), Cond.methodLink RX8 108 yX8_isStart, Cond.static yX8_isStart, Cond.code yX8_isStart cX8_isStart 1 (some .boolean), Cond.methodLink RX8 111 yX8_isLength, Cond.static yX8_isLength, Cond.code yX8_isLength cX8_isLength 1 (some .boolean), Cond.methodLink RX8 118 yX8_rowsAlike, Cond.instanceMethod yX8_rowsAlike, Cond.selects RX8 yX8_rowsAlike yX8_rowsAlike, Cond.code yX8_rowsAlike cX8_rowsAlike 9 (some .boolean), Cond.fieldLink RX8 19 "SameAgainModel" "beside" "[I", Cond.fieldLink RX8 22 "SameAgainModel" "back" "[I", Cond.fieldLink RX8 25 "SameAgainModel" "otherLine" "I"]
def wsX8_parted_r2 : List Cond := [Cond.fieldLink RX8 96 "SameAgainModel" "otherPlace" "I", Cond.fieldLink RX8 99 "SameAgainModel" "otherSign" "I", Cond.methodLink RX8 93 yX8_isThere, Cond.instanceMethod yX8_isThere, Cond.selects RX8 yX8_isThere yX8_isThere, Cond.code yX8_isThere cX8_isThere 3 (some .boolean), Cond.fieldLink RX8 58 "SameAgainModel" "lines" "I", Cond.methodLink RX8 75 yX8_size, Cond.instanceMethod yX8_size, Cond.selects RX8 yX8_size yX8_size, Cond.code yX8_size cX8_size 3 (some .int), Cond.fieldLink RX8 13 "SameAgainModel" "sizes" "[I", Cond.methodLink RX8 79 yX8_signAt, Cond.instanceMethod yX8_signAt, Cond.selects RX8 yX8_signAt yX8_signAt, Cond.code yX8_signAt cX8_signAt 4 (some .int), Cond.fieldLink RX8 16 "SameAgainModel" "code" "[I", Cond.methodLink RX8 102 yX8_areAlike, Cond.instanceMethod yX8_areAlike, Cond.selects RX8 yX8_areAlike yX8_areAlike, Cond.code yX8_areAlike cX8_areAlike 4 (some .boolean), Cond.methodLink RX8 83 yX8_isName, Cond.static yX8_isName, Cond.code yX8_isName cX8_isName 1 (some .boolean)]
def wsX8_parted_r3 : List Cond := [Cond.methodLink RX8 86 yX8_goBeside, Cond.instanceMethod yX8_goBeside, Cond.selects RX8 yX8_goBeside yX8_goBeside, Cond.code yX8_goBeside cX8_goBeside 5 (some .boolean), Cond.methodLink RX8 90 yX8_isNumber, Cond.static yX8_isNumber, Cond.code yX8_isNumber cX8_isNumber 1 (some .boolean)]
def wsX8_parted : List Cond := .code yX8_parted cX8_parted 8 (some .int) :: ((wsX8_parted_r1 ++ (wsX8_parted_r2 ++ wsX8_parted_r3)) ++ wsX80)
def wsX8_isOther : List Cond := .code yX8_isOther cX8_isOther 5 (some .boolean) :: ([.methodLink RX8 75 yX8_size, .instanceMethod yX8_size, .selects RX8 yX8_size yX8_size, .initialized RX8, .code yX8_size cX8_size 3 (some .int), .fieldLink RX8 13 "SameAgainModel" "sizes" "[I", .methodLink RX8 79 yX8_signAt, .instanceMethod yX8_signAt, .selects RX8 yX8_signAt yX8_signAt, .code yX8_signAt cX8_signAt 4 (some .int), .fieldLink RX8 16 "SameAgainModel" "code" "[I"] ++ wsX80)
def wsX8_mendsOf_r1 : List Cond := [Cond.methodLink RX8 118 yX8_rowsAlike, Cond.instanceMethod yX8_rowsAlike, Cond.selects RX8 yX8_rowsAlike yX8_rowsAlike, Cond.initialized RX8, Cond.code yX8_rowsAlike cX8_rowsAlike 9 (some .boolean), Cond.fieldLink RX8 19 "SameAgainModel" "beside" "[I", Cond.fieldLink RX8 22 "SameAgainModel" "back" "[I", Cond.fieldLink RX8 25 "SameAgainModel" "otherLine" "I", Cond.fieldLink RX8 96 "SameAgainModel" "otherPlace" "I", Cond.fieldLink RX8 99 "SameAgainModel" "otherSign" "I", Cond.methodLink RX8 93 yX8_isThere, Cond.instanceMethod yX8_isThere, Cond.selects RX8 yX8_isThere yX8_isThere, Cond.code yX8_isThere cX8_isThere 3 (some .boolean), Cond.fieldLink RX8 58 "SameAgainModel" "lines" "I", Cond.methodLink RX8 75 yX8_size, Cond.instanceMethod yX8_size, Cond.selects RX8 yX8_size yX8_size, Cond.code yX8_size cX8_size 3 (some .int), Cond.fieldLink RX8 13 "SameAgainModel" "sizes" "[I", Cond.methodLink RX8 79 yX8_signAt, Cond.instanceMethod yX8_signAt, Cond.selects RX8 yX8_signAt yX8_signAt, Cond.code yX8_signAt cX8_signAt 4 (some .int)]
def wsX8_mendsOf_r2 : List Cond := [Cond.fieldLink RX8 16 "SameAgainModel" "code" "[I", Cond.methodLink RX8 102 yX8_areAlike, Cond.instanceMethod yX8_areAlike, Cond.selects RX8 yX8_areAlike yX8_areAlike, Cond.code yX8_areAlike cX8_areAlike 4 (some .boolean), Cond.methodLink RX8 83 yX8_isName, Cond.static yX8_isName, Cond.code yX8_isName cX8_isName 1 (some .boolean), Cond.methodLink RX8 54 yX8_in, Cond.static yX8_in, Cond.code yX8_in cX8_in 3 (some .boolean), Cond.methodLink RX8 86 yX8_goBeside, Cond.instanceMethod yX8_goBeside, Cond.selects RX8 yX8_goBeside yX8_goBeside, Cond.code yX8_goBeside cX8_goBeside 5 (some .boolean), Cond.methodLink RX8 90 yX8_isNumber, Cond.static yX8_isNumber, Cond.code yX8_isNumber cX8_isNumber 1 (some .boolean), Cond.methodLink RX8 158 yX8_isOther, Cond.instanceMethod yX8_isOther, Cond.selects RX8 yX8_isOther yX8_isOther, Cond.code yX8_isOther cX8_isOther 5 (some .boolean)]
def wsX8_mendsOf : List Cond := .code yX8_mendsOf cX8_mendsOf 7 (some .int) :: ((wsX8_mendsOf_r1 ++ wsX8_mendsOf_r2) ++ wsX80)
def wsX8_mends_r1 : List Cond := [Cond.fieldLink RX8 51 "SameAgainModel" "versions" "I", Cond.methodLink RX8 54 yX8_in, Cond.static yX8_in, Cond.initialized RX8, Cond.code yX8_in cX8_in 3 (some .boolean), Cond.methodLink RX8 114 yX8_areRows, Cond.static yX8_areRows, Cond.code yX8_areRows cX8_areRows 4 (some .boolean), Cond.methodLink RX8 105 yX8_isWay, Cond.static yX8_isWay, Cond.code yX8_isWay cX8_isWay 1 (some .boolean), Cond.methodLink RX8 108 yX8_isStart, Cond.static yX8_isStart, Cond.code yX8_isStart cX8_isStart 1 (some .boolean), Cond.methodLink RX8 111 yX8_isLength, Cond.static yX8_isLength, Cond.code yX8_isLength cX8_isLength 1 (some .boolean), Cond.methodLink RX8 161 yX8_mendsOf, Cond.instanceMethod yX8_mendsOf, Cond.selects RX8 yX8_mendsOf yX8_mendsOf, Cond.code yX8_mendsOf cX8_mendsOf 7 (some .int), Cond.methodLink RX8 118 yX8_rowsAlike, Cond.instanceMethod yX8_rowsAlike, Cond.selects RX8 yX8_rowsAlike yX8_rowsAlike]
def wsX8_mends_r2 : List Cond := [Cond.code yX8_rowsAlike cX8_rowsAlike 9 (some .boolean), Cond.fieldLink RX8 19 "SameAgainModel" "beside" "[I", Cond.fieldLink RX8 22 "SameAgainModel" "back" "[I", Cond.fieldLink RX8 25 "SameAgainModel" "otherLine" "I", Cond.fieldLink RX8 96 "SameAgainModel" "otherPlace" "I", Cond.fieldLink RX8 99 "SameAgainModel" "otherSign" "I", Cond.methodLink RX8 93 yX8_isThere, Cond.instanceMethod yX8_isThere, Cond.selects RX8 yX8_isThere yX8_isThere, Cond.code yX8_isThere cX8_isThere 3 (some .boolean), Cond.fieldLink RX8 58 "SameAgainModel" "lines" "I", Cond.methodLink RX8 75 yX8_size, Cond.instanceMethod yX8_size, Cond.selects RX8 yX8_size yX8_size, Cond.code yX8_size cX8_size 3 (some .int), Cond.fieldLink RX8 13 "SameAgainModel" "sizes" "[I", Cond.methodLink RX8 79 yX8_signAt, Cond.instanceMethod yX8_signAt, Cond.selects RX8 yX8_signAt yX8_signAt, Cond.code yX8_signAt cX8_signAt 4 (some .int), Cond.fieldLink RX8 16 "SameAgainModel" "code" "[I", Cond.methodLink RX8 102 yX8_areAlike, Cond.instanceMethod yX8_areAlike, Cond.selects RX8 yX8_areAlike yX8_areAlike]
def wsX8_mends_r3 : List Cond := [Cond.code yX8_areAlike cX8_areAlike 4 (some .boolean), Cond.methodLink RX8 83 yX8_isName, Cond.static yX8_isName, Cond.code yX8_isName cX8_isName 1 (some .boolean), Cond.methodLink RX8 86 yX8_goBeside, Cond.instanceMethod yX8_goBeside, Cond.selects RX8 yX8_goBeside yX8_goBeside, Cond.code yX8_goBeside cX8_goBeside 5 (some .boolean), Cond.methodLink RX8 90 yX8_isNumber, Cond.static yX8_isNumber, Cond.code yX8_isNumber cX8_isNumber 1 (some .boolean), Cond.methodLink RX8 158 yX8_isOther, Cond.instanceMethod yX8_isOther, Cond.selects RX8 yX8_isOther yX8_isOther, Cond.code yX8_isOther cX8_isOther 5 (some .boolean)]
def wsX8_mends : List Cond := .code yX8_mends cX8_mends 5 (some .int) :: ((wsX8_mends_r1 ++ (wsX8_mends_r2 ++ wsX8_mends_r3)) ++ wsX80)
def wsX8_mend_r1 : List Cond := [Cond.fieldLink RX8 51 "SameAgainModel" "versions" "I", Cond.fieldLink RX8 19 "SameAgainModel" "beside" "[I", Cond.methodLink RX8 54 yX8_in, Cond.static yX8_in, Cond.initialized RX8, Cond.code yX8_in cX8_in 3 (some .boolean), Cond.methodLink RX8 114 yX8_areRows, Cond.static yX8_areRows, Cond.code yX8_areRows cX8_areRows 4 (some .boolean), Cond.methodLink RX8 105 yX8_isWay, Cond.static yX8_isWay, Cond.code yX8_isWay cX8_isWay 1 (some .boolean), Cond.methodLink RX8 108 yX8_isStart, Cond.static yX8_isStart, Cond.code yX8_isStart cX8_isStart 1 (some .boolean), Cond.methodLink RX8 111 yX8_isLength, Cond.static yX8_isLength, Cond.code yX8_isLength cX8_isLength 1 (some .boolean), Cond.methodLink RX8 161 yX8_mendsOf, Cond.instanceMethod yX8_mendsOf, Cond.selects RX8 yX8_mendsOf yX8_mendsOf, Cond.code yX8_mendsOf cX8_mendsOf 7 (some .int), Cond.methodLink RX8 118 yX8_rowsAlike, Cond.instanceMethod yX8_rowsAlike]
def wsX8_mend_r2 : List Cond := [Cond.selects RX8 yX8_rowsAlike yX8_rowsAlike, Cond.code yX8_rowsAlike cX8_rowsAlike 9 (some .boolean), Cond.fieldLink RX8 22 "SameAgainModel" "back" "[I", Cond.fieldLink RX8 25 "SameAgainModel" "otherLine" "I", Cond.fieldLink RX8 96 "SameAgainModel" "otherPlace" "I", Cond.fieldLink RX8 99 "SameAgainModel" "otherSign" "I", Cond.methodLink RX8 93 yX8_isThere, Cond.instanceMethod yX8_isThere, Cond.selects RX8 yX8_isThere yX8_isThere, Cond.code yX8_isThere cX8_isThere 3 (some .boolean), Cond.fieldLink RX8 58 "SameAgainModel" "lines" "I", Cond.methodLink RX8 75 yX8_size, Cond.instanceMethod yX8_size, Cond.selects RX8 yX8_size yX8_size, Cond.code yX8_size cX8_size 3 (some .int), Cond.fieldLink RX8 13 "SameAgainModel" "sizes" "[I", Cond.methodLink RX8 79 yX8_signAt, Cond.instanceMethod yX8_signAt, Cond.selects RX8 yX8_signAt yX8_signAt, Cond.code yX8_signAt cX8_signAt 4 (some .int), Cond.fieldLink RX8 16 "SameAgainModel" "code" "[I", Cond.methodLink RX8 102 yX8_areAlike, Cond.instanceMethod yX8_areAlike, Cond.selects RX8 yX8_areAlike yX8_areAlike]
def wsX8_mend_r3 : List Cond := [Cond.code yX8_areAlike cX8_areAlike 4 (some .boolean), Cond.methodLink RX8 83 yX8_isName, Cond.static yX8_isName, Cond.code yX8_isName cX8_isName 1 (some .boolean), Cond.methodLink RX8 86 yX8_goBeside, Cond.instanceMethod yX8_goBeside, Cond.selects RX8 yX8_goBeside yX8_goBeside, Cond.code yX8_goBeside cX8_goBeside 5 (some .boolean), Cond.methodLink RX8 90 yX8_isNumber, Cond.static yX8_isNumber, Cond.code yX8_isNumber cX8_isNumber 1 (some .boolean), Cond.methodLink RX8 158 yX8_isOther, Cond.instanceMethod yX8_isOther, Cond.selects RX8 yX8_isOther yX8_isOther, Cond.code yX8_isOther cX8_isOther 5 (some .boolean)]
def wsX8_mend : List Cond := .code yX8_mend cX8_mend 9 (some .int) :: ((wsX8_mend_r1 ++ (wsX8_mend_r2 ++ wsX8_mend_r3)) ++ wsX80)
def wsX8_changes : List Cond := .code yX8_changes cX8_changes 2 (some .int) :: ([.methodLink RX8 83 yX8_isName, .static yX8_isName, .initialized RX8, .code yX8_isName cX8_isName 1 (some .boolean), .methodLink RX8 54 yX8_in, .static yX8_in, .code yX8_in cX8_in 3 (some .boolean), .methodLink RX8 90 yX8_isNumber, .static yX8_isNumber, .code yX8_isNumber cX8_isNumber 1 (some .boolean)])
def wsX8_farOf : List Cond := .code yX8_farOf cX8_farOf 10 (some .int) :: ([.fieldLink RX8 41 "SameAgainModel" "far" "[I", .methodLink RX8 75 yX8_size, .instanceMethod yX8_size, .selects RX8 yX8_size yX8_size, .initialized RX8, .code yX8_size cX8_size 3 (some .int), .fieldLink RX8 13 "SameAgainModel" "sizes" "[I", .methodLink RX8 79 yX8_signAt, .instanceMethod yX8_signAt, .selects RX8 yX8_signAt yX8_signAt, .code yX8_signAt cX8_signAt 4 (some .int), .fieldLink RX8 16 "SameAgainModel" "code" "[I", .methodLink RX8 164 yX8_changes, .static yX8_changes, .code yX8_changes cX8_changes 2 (some .int), .methodLink RX8 83 yX8_isName, .static yX8_isName, .code yX8_isName cX8_isName 1 (some .boolean), .methodLink RX8 54 yX8_in, .static yX8_in, .code yX8_in cX8_in 3 (some .boolean), .methodLink RX8 90 yX8_isNumber, .static yX8_isNumber, .code yX8_isNumber cX8_isNumber 1 (some .boolean)] ++ wsX80)
def wsX8_far_r1 : List Cond := [Cond.methodLink RX8 72 yX8_isVersion, Cond.instanceMethod yX8_isVersion, Cond.selects RX8 yX8_isVersion yX8_isVersion, Cond.initialized RX8, Cond.code yX8_isVersion cX8_isVersion 2 (some .boolean), Cond.fieldLink RX8 51 "SameAgainModel" "versions" "I", Cond.methodLink RX8 54 yX8_in, Cond.static yX8_in, Cond.code yX8_in cX8_in 3 (some .boolean), Cond.methodLink RX8 68 yX8_isLine, Cond.instanceMethod yX8_isLine, Cond.selects RX8 yX8_isLine yX8_isLine, Cond.code yX8_isLine cX8_isLine 2 (some .boolean), Cond.fieldLink RX8 58 "SameAgainModel" "lines" "I", Cond.methodLink RX8 167 yX8_farOf, Cond.instanceMethod yX8_farOf, Cond.selects RX8 yX8_farOf yX8_farOf, Cond.code yX8_farOf cX8_farOf 10 (some .int), Cond.fieldLink RX8 41 "SameAgainModel" "far" "[I", Cond.methodLink RX8 75 yX8_size, Cond.instanceMethod yX8_size, Cond.selects RX8 yX8_size yX8_size, Cond.code yX8_size cX8_size 3 (some .int), Cond.fieldLink RX8 13 "SameAgainModel" "sizes" "[I"]
def wsX8_far_r2 : List Cond := [Cond.methodLink RX8 79 yX8_signAt, Cond.instanceMethod yX8_signAt, Cond.selects RX8 yX8_signAt yX8_signAt, Cond.code yX8_signAt cX8_signAt 4 (some .int), Cond.fieldLink RX8 16 "SameAgainModel" "code" "[I", Cond.methodLink RX8 164 yX8_changes, Cond.static yX8_changes, Cond.code yX8_changes cX8_changes 2 (some .int), Cond.methodLink RX8 83 yX8_isName, Cond.static yX8_isName, Cond.code yX8_isName cX8_isName 1 (some .boolean), Cond.methodLink RX8 90 yX8_isNumber, Cond.static yX8_isNumber, Cond.code yX8_isNumber cX8_isNumber 1 (some .boolean)]
def wsX8_far : List Cond := .code yX8_far cX8_far 4 (some .int) :: ((wsX8_far_r1 ++ wsX8_far_r2) ++ wsX80)
def wsX8_near_r1 : List Cond := [Cond.fieldLink RX8 58 "SameAgainModel" "lines" "I", Cond.methodLink RX8 72 yX8_isVersion, Cond.instanceMethod yX8_isVersion, Cond.selects RX8 yX8_isVersion yX8_isVersion, Cond.initialized RX8, Cond.code yX8_isVersion cX8_isVersion 2 (some .boolean), Cond.fieldLink RX8 51 "SameAgainModel" "versions" "I", Cond.methodLink RX8 54 yX8_in, Cond.static yX8_in, Cond.code yX8_in cX8_in 3 (some .boolean), Cond.methodLink RX8 68 yX8_isLine, Cond.instanceMethod yX8_isLine, Cond.selects RX8 yX8_isLine yX8_isLine, Cond.code yX8_isLine cX8_isLine 2 (some .boolean), Cond.methodLink RX8 167 yX8_farOf, Cond.instanceMethod yX8_farOf, Cond.selects RX8 yX8_farOf yX8_farOf, Cond.code yX8_farOf cX8_farOf 10 (some .int), Cond.fieldLink RX8 41 "SameAgainModel" "far" "[I", Cond.methodLink RX8 75 yX8_size, Cond.instanceMethod yX8_size, Cond.selects RX8 yX8_size yX8_size, Cond.code yX8_size cX8_size 3 (some .int), Cond.fieldLink RX8 13 "SameAgainModel" "sizes" "[I"]
def wsX8_near_r2 : List Cond := [Cond.methodLink RX8 79 yX8_signAt, Cond.instanceMethod yX8_signAt, Cond.selects RX8 yX8_signAt yX8_signAt, Cond.code yX8_signAt cX8_signAt 4 (some .int), Cond.fieldLink RX8 16 "SameAgainModel" "code" "[I", Cond.methodLink RX8 164 yX8_changes, Cond.static yX8_changes, Cond.code yX8_changes cX8_changes 2 (some .int), Cond.methodLink RX8 83 yX8_isName, Cond.static yX8_isName, Cond.code yX8_isName cX8_isName 1 (some .boolean), Cond.methodLink RX8 90 yX8_isNumber, Cond.static yX8_isNumber, Cond.code yX8_isNumber cX8_isNumber 1 (some .boolean)]
def wsX8_near : List Cond := .code yX8_near cX8_near 6 (some .int) :: ((wsX8_near_r1 ++ wsX8_near_r2) ++ wsX80)
def wsX8_image : List Cond := .code yX8_image cX8_image 4 (some .int) :: ([.fieldLink RX8 44 "SameAgainModel" "image" "[I", .fieldLink RX8 58 "SameAgainModel" "lines" "I", .fieldLink RX8 51 "SameAgainModel" "versions" "I", .fieldLink RX8 13 "SameAgainModel" "sizes" "[I", .fieldLink RX8 16 "SameAgainModel" "code" "[I", .fieldLink RX8 47 "SameAgainModel" "isKept" "[Z", .methodLink RX8 54 yX8_in, .static yX8_in, .initialized RX8, .code yX8_in cX8_in 3 (some .boolean)] ++ wsX80)
def wsX8_restore : List Cond := .code yX8_restore cX8_restore 4 (some .int) :: ([.fieldLink RX8 47 "SameAgainModel" "isKept" "[Z", .fieldLink RX8 44 "SameAgainModel" "image" "[I", .fieldLink RX8 58 "SameAgainModel" "lines" "I", .fieldLink RX8 51 "SameAgainModel" "versions" "I", .fieldLink RX8 13 "SameAgainModel" "sizes" "[I", .fieldLink RX8 16 "SameAgainModel" "code" "[I", .methodLink RX8 54 yX8_in, .static yX8_in, .initialized RX8, .code yX8_in cX8_in 3 (some .boolean)] ++ wsX80)
def wsX8_told : List Cond := .code yX8_told cX8_told 2 (some .int) :: ([.fieldLink RX8 61 "SameAgainModel" "signs" "I", .fieldLink RX8 58 "SameAgainModel" "lines" "I", .fieldLink RX8 51 "SameAgainModel" "versions" "I"] ++ wsX80)
def wsJ9_abs_0f7a4 : List Cond := .code yJ9_abs_0f7a4 cJ9_abs_0f7a4 1 (some .int) :: ([])
def wsJ9_max_7cf53 : List Cond := .code yJ9_max_7cf53 cJ9_max_7cf53 2 (some .int) :: ([])
def wsJ9_min_7cf53 : List Cond := .code yJ9_min_7cf53 cJ9_min_7cf53 2 (some .int) :: ([])
abbrev vwCl : List vw_C := [(RX0, TX0, 4), (RX1, TX1, 2), (RX2, TX2, 6), (RX3, TX3, 3), (RX4, TX4, 9), (RX5, TX5, 9), (RX6, TX6, 4), (RX7, TX7, 12), (RX8, TX8, 19)]
end
section
theorem dJ6_bitCount_0f7a4_0 : decode cJ6_bitCount_0f7a4 0 = .ok (.iload_n 0, 1) := by decide +kernel
theorem dJ6_bitCount_0f7a4_1 : decode cJ6_bitCount_0f7a4 1 = .ok (.iload_n 0, 1) := by decide +kernel
theorem dJ6_bitCount_0f7a4_2 : decode cJ6_bitCount_0f7a4 2 = .ok (.iconst 1, 1) := by decide +kernel
theorem dJ6_bitCount_0f7a4_3 : decode cJ6_bitCount_0f7a4 3 = .ok (.iushr, 1) := by decide +kernel
theorem dJ6_bitCount_0f7a4_4 : decode cJ6_bitCount_0f7a4 4 = .ok (.ldc_w 265, 3) := by decide +kernel
theorem dJ6_bitCount_0f7a4_7 : decode cJ6_bitCount_0f7a4 7 = .ok (.iand, 1) := by decide +kernel
theorem dJ6_bitCount_0f7a4_8 : decode cJ6_bitCount_0f7a4 8 = .ok (.isub, 1) := by decide +kernel
theorem dJ6_bitCount_0f7a4_9 : decode cJ6_bitCount_0f7a4 9 = .ok (.istore_n 0, 1) := by decide +kernel
theorem dJ6_bitCount_0f7a4_10 : decode cJ6_bitCount_0f7a4 10 = .ok (.iload_n 0, 1) := by decide +kernel
theorem dJ6_bitCount_0f7a4_11 : decode cJ6_bitCount_0f7a4 11 = .ok (.ldc_w 266, 3) := by decide +kernel
theorem dJ6_bitCount_0f7a4_14 : decode cJ6_bitCount_0f7a4 14 = .ok (.iand, 1) := by decide +kernel
theorem dJ6_bitCount_0f7a4_15 : decode cJ6_bitCount_0f7a4 15 = .ok (.iload_n 0, 1) := by decide +kernel
theorem dJ6_bitCount_0f7a4_16 : decode cJ6_bitCount_0f7a4 16 = .ok (.iconst 2, 1) := by decide +kernel
theorem dJ6_bitCount_0f7a4_17 : decode cJ6_bitCount_0f7a4 17 = .ok (.iushr, 1) := by decide +kernel
theorem dJ6_bitCount_0f7a4_18 : decode cJ6_bitCount_0f7a4 18 = .ok (.ldc_w 266, 3) := by decide +kernel
theorem dJ6_bitCount_0f7a4_21 : decode cJ6_bitCount_0f7a4 21 = .ok (.iand, 1) := by decide +kernel
theorem dJ6_bitCount_0f7a4_22 : decode cJ6_bitCount_0f7a4 22 = .ok (.iadd, 1) := by decide +kernel
theorem dJ6_bitCount_0f7a4_23 : decode cJ6_bitCount_0f7a4 23 = .ok (.istore_n 0, 1) := by decide +kernel
theorem dJ6_bitCount_0f7a4_24 : decode cJ6_bitCount_0f7a4 24 = .ok (.iload_n 0, 1) := by decide +kernel
theorem dJ6_bitCount_0f7a4_25 : decode cJ6_bitCount_0f7a4 25 = .ok (.iload_n 0, 1) := by decide +kernel
theorem dJ6_bitCount_0f7a4_26 : decode cJ6_bitCount_0f7a4 26 = .ok (.iconst 4, 1) := by decide +kernel
theorem dJ6_bitCount_0f7a4_27 : decode cJ6_bitCount_0f7a4 27 = .ok (.iushr, 1) := by decide +kernel
theorem dJ6_bitCount_0f7a4_28 : decode cJ6_bitCount_0f7a4 28 = .ok (.iadd, 1) := by decide +kernel
theorem dJ6_bitCount_0f7a4_29 : decode cJ6_bitCount_0f7a4 29 = .ok (.ldc_w 267, 3) := by decide +kernel
theorem dJ6_bitCount_0f7a4_32 : decode cJ6_bitCount_0f7a4 32 = .ok (.iand, 1) := by decide +kernel
theorem dJ6_bitCount_0f7a4_33 : decode cJ6_bitCount_0f7a4 33 = .ok (.istore_n 0, 1) := by decide +kernel
theorem dJ6_bitCount_0f7a4_34 : decode cJ6_bitCount_0f7a4 34 = .ok (.iload_n 0, 1) := by decide +kernel
theorem dJ6_bitCount_0f7a4_35 : decode cJ6_bitCount_0f7a4 35 = .ok (.iload_n 0, 1) := by decide +kernel
theorem dJ6_bitCount_0f7a4_36 : decode cJ6_bitCount_0f7a4 36 = .ok (.bipush 8, 2) := by decide +kernel
theorem dJ6_bitCount_0f7a4_38 : decode cJ6_bitCount_0f7a4 38 = .ok (.iushr, 1) := by decide +kernel
theorem dJ6_bitCount_0f7a4_39 : decode cJ6_bitCount_0f7a4 39 = .ok (.iadd, 1) := by decide +kernel
theorem dJ6_bitCount_0f7a4_40 : decode cJ6_bitCount_0f7a4 40 = .ok (.istore_n 0, 1) := by decide +kernel
theorem dJ6_bitCount_0f7a4_41 : decode cJ6_bitCount_0f7a4 41 = .ok (.iload_n 0, 1) := by decide +kernel
theorem dJ6_bitCount_0f7a4_42 : decode cJ6_bitCount_0f7a4 42 = .ok (.iload_n 0, 1) := by decide +kernel
theorem dJ6_bitCount_0f7a4_43 : decode cJ6_bitCount_0f7a4 43 = .ok (.bipush 16, 2) := by decide +kernel
theorem dJ6_bitCount_0f7a4_45 : decode cJ6_bitCount_0f7a4 45 = .ok (.iushr, 1) := by decide +kernel
theorem dJ6_bitCount_0f7a4_46 : decode cJ6_bitCount_0f7a4 46 = .ok (.iadd, 1) := by decide +kernel
theorem dJ6_bitCount_0f7a4_47 : decode cJ6_bitCount_0f7a4 47 = .ok (.istore_n 0, 1) := by decide +kernel
theorem dJ6_bitCount_0f7a4_48 : decode cJ6_bitCount_0f7a4 48 = .ok (.iload_n 0, 1) := by decide +kernel
theorem dJ6_bitCount_0f7a4_49 : decode cJ6_bitCount_0f7a4 49 = .ok (.bipush 63, 2) := by decide +kernel
theorem dJ6_bitCount_0f7a4_51 : decode cJ6_bitCount_0f7a4 51 = .ok (.iand, 1) := by decide +kernel
theorem dJ6_bitCount_0f7a4_52 : decode cJ6_bitCount_0f7a4 52 = .ok (.ireturn, 1) := by decide +kernel
end
section
theorem dJ9_abs_0f7a4_0 : decode cJ9_abs_0f7a4 0 = .ok (.iload_n 0, 1) := by decide +kernel
theorem dJ9_abs_0f7a4_1 : decode cJ9_abs_0f7a4 1 = .ok (.ifCond .ge 8, 3) := by decide +kernel
theorem dJ9_abs_0f7a4_4 : decode cJ9_abs_0f7a4 4 = .ok (.iload_n 0, 1) := by decide +kernel
theorem dJ9_abs_0f7a4_5 : decode cJ9_abs_0f7a4 5 = .ok (.ineg, 1) := by decide +kernel
theorem dJ9_abs_0f7a4_6 : decode cJ9_abs_0f7a4 6 = .ok (.goto 4, 3) := by decide +kernel
theorem dJ9_abs_0f7a4_9 : decode cJ9_abs_0f7a4 9 = .ok (.iload_n 0, 1) := by decide +kernel
theorem dJ9_abs_0f7a4_10 : decode cJ9_abs_0f7a4 10 = .ok (.ireturn, 1) := by decide +kernel
theorem dJ9_max_7cf53_0 : decode cJ9_max_7cf53 0 = .ok (.iload_n 0, 1) := by decide +kernel
theorem dJ9_max_7cf53_1 : decode cJ9_max_7cf53 1 = .ok (.iload_n 1, 1) := by decide +kernel
theorem dJ9_max_7cf53_2 : decode cJ9_max_7cf53 2 = .ok (.if_icmp .lt 7, 3) := by decide +kernel
theorem dJ9_max_7cf53_5 : decode cJ9_max_7cf53 5 = .ok (.iload_n 0, 1) := by decide +kernel
theorem dJ9_max_7cf53_6 : decode cJ9_max_7cf53 6 = .ok (.goto 4, 3) := by decide +kernel
theorem dJ9_max_7cf53_9 : decode cJ9_max_7cf53 9 = .ok (.iload_n 1, 1) := by decide +kernel
theorem dJ9_max_7cf53_10 : decode cJ9_max_7cf53 10 = .ok (.ireturn, 1) := by decide +kernel
theorem dJ9_min_7cf53_0 : decode cJ9_min_7cf53 0 = .ok (.iload_n 0, 1) := by decide +kernel
theorem dJ9_min_7cf53_1 : decode cJ9_min_7cf53 1 = .ok (.iload_n 1, 1) := by decide +kernel
theorem dJ9_min_7cf53_2 : decode cJ9_min_7cf53 2 = .ok (.if_icmp .gt 7, 3) := by decide +kernel
theorem dJ9_min_7cf53_5 : decode cJ9_min_7cf53 5 = .ok (.iload_n 0, 1) := by decide +kernel
theorem dJ9_min_7cf53_6 : decode cJ9_min_7cf53 6 = .ok (.goto 4, 3) := by decide +kernel
theorem dJ9_min_7cf53_9 : decode cJ9_min_7cf53 9 = .ok (.iload_n 1, 1) := by decide +kernel
theorem dJ9_min_7cf53_10 : decode cJ9_min_7cf53 10 = .ok (.ireturn, 1) := by decide +kernel
end
section
theorem dX0_init_0 : decode cX0_init 0 = .ok (.aload_n 0, 1) := by decide +kernel
theorem dX0_init_1 : decode cX0_init 1 = .ok (.invokespecial 3, 3) := by decide +kernel
theorem dX0_init_4 : decode cX0_init 4 = .ok (.aload_n 0, 1) := by decide +kernel
theorem dX0_init_5 : decode cX0_init 5 = .ok (.sipush 640, 3) := by decide +kernel
theorem dX0_init_8 : decode cX0_init 8 = .ok (.newarray .int, 2) := by decide +kernel
theorem dX0_init_10 : decode cX0_init 10 = .ok (.putfield 9, 3) := by decide +kernel
theorem dX0_init_13 : decode cX0_init 13 = .ok (.aload_n 0, 1) := by decide +kernel
theorem dX0_init_14 : decode cX0_init 14 = .ok (.bipush 80, 2) := by decide +kernel
theorem dX0_init_16 : decode cX0_init 16 = .ok (.newarray .int, 2) := by decide +kernel
theorem dX0_init_18 : decode cX0_init 18 = .ok (.putfield 15, 3) := by decide +kernel
theorem dX0_init_21 : decode cX0_init 21 = .ok (.aload_n 0, 1) := by decide +kernel
theorem dX0_init_22 : decode cX0_init 22 = .ok (.iconst 0, 1) := by decide +kernel
theorem dX0_init_23 : decode cX0_init 23 = .ok (.putfield 18, 3) := by decide +kernel
theorem dX0_init_26 : decode cX0_init 26 = .ok (.aload_n 0, 1) := by decide +kernel
theorem dX0_init_27 : decode cX0_init 27 = .ok (.iconst 1, 1) := by decide +kernel
theorem dX0_init_28 : decode cX0_init 28 = .ok (.putfield 22, 3) := by decide +kernel
theorem dX0_init_31 : decode cX0_init 31 = .ok (.return_, 1) := by decide +kernel
theorem dX0_lines_0 : decode cX0_lines 0 = .ok (.aload_n 0, 1) := by decide +kernel
theorem dX0_lines_1 : decode cX0_lines 1 = .ok (.getfield 18, 3) := by decide +kernel
theorem dX0_lines_4 : decode cX0_lines 4 = .ok (.ireturn, 1) := by decide +kernel
theorem dX0_versions_0 : decode cX0_versions 0 = .ok (.aload_n 0, 1) := by decide +kernel
theorem dX0_versions_1 : decode cX0_versions 1 = .ok (.getfield 22, 3) := by decide +kernel
theorem dX0_versions_4 : decode cX0_versions 4 = .ok (.ireturn, 1) := by decide +kernel
theorem dX0_hasVersion_0 : decode cX0_hasVersion 0 = .ok (.iload_n 1, 1) := by decide +kernel
theorem dX0_hasVersion_1 : decode cX0_hasVersion 1 = .ok (.ifCond .lt 15, 3) := by decide +kernel
theorem dX0_hasVersion_4 : decode cX0_hasVersion 4 = .ok (.iload_n 1, 1) := by decide +kernel
theorem dX0_hasVersion_5 : decode cX0_hasVersion 5 = .ok (.aload_n 0, 1) := by decide +kernel
theorem dX0_hasVersion_6 : decode cX0_hasVersion 6 = .ok (.getfield 22, 3) := by decide +kernel
theorem dX0_hasVersion_9 : decode cX0_hasVersion 9 = .ok (.if_icmp .ge 7, 3) := by decide +kernel
theorem dX0_hasVersion_12 : decode cX0_hasVersion 12 = .ok (.iconst 1, 1) := by decide +kernel
theorem dX0_hasVersion_13 : decode cX0_hasVersion 13 = .ok (.goto 4, 3) := by decide +kernel
theorem dX0_hasVersion_16 : decode cX0_hasVersion 16 = .ok (.iconst 0, 1) := by decide +kernel
theorem dX0_hasVersion_17 : decode cX0_hasVersion 17 = .ok (.ireturn, 1) := by decide +kernel
theorem dX0_hasLine_0 : decode cX0_hasLine 0 = .ok (.iload_n 1, 1) := by decide +kernel
theorem dX0_hasLine_1 : decode cX0_hasLine 1 = .ok (.ifCond .lt 15, 3) := by decide +kernel
theorem dX0_hasLine_4 : decode cX0_hasLine 4 = .ok (.iload_n 1, 1) := by decide +kernel
theorem dX0_hasLine_5 : decode cX0_hasLine 5 = .ok (.aload_n 0, 1) := by decide +kernel
theorem dX0_hasLine_6 : decode cX0_hasLine 6 = .ok (.getfield 18, 3) := by decide +kernel
theorem dX0_hasLine_9 : decode cX0_hasLine 9 = .ok (.if_icmp .ge 7, 3) := by decide +kernel
theorem dX0_hasLine_12 : decode cX0_hasLine 12 = .ok (.iconst 1, 1) := by decide +kernel
theorem dX0_hasLine_13 : decode cX0_hasLine 13 = .ok (.goto 4, 3) := by decide +kernel
theorem dX0_hasLine_16 : decode cX0_hasLine 16 = .ok (.iconst 0, 1) := by decide +kernel
theorem dX0_hasLine_17 : decode cX0_hasLine 17 = .ok (.ireturn, 1) := by decide +kernel
theorem dX0_sizeOf_0 : decode cX0_sizeOf 0 = .ok (.iload_n 1, 1) := by decide +kernel
theorem dX0_sizeOf_1 : decode cX0_sizeOf 1 = .ok (.ifCond .lt 23, 3) := by decide +kernel
theorem dX0_sizeOf_4 : decode cX0_sizeOf 4 = .ok (.iload_n 1, 1) := by decide +kernel
theorem dX0_sizeOf_5 : decode cX0_sizeOf 5 = .ok (.aload_n 0, 1) := by decide +kernel
theorem dX0_sizeOf_6 : decode cX0_sizeOf 6 = .ok (.getfield 22, 3) := by decide +kernel
theorem dX0_sizeOf_9 : decode cX0_sizeOf 9 = .ok (.if_icmp .ge 15, 3) := by decide +kernel
theorem dX0_sizeOf_12 : decode cX0_sizeOf 12 = .ok (.iload_n 2, 1) := by decide +kernel
theorem dX0_sizeOf_13 : decode cX0_sizeOf 13 = .ok (.ifCond .lt 11, 3) := by decide +kernel
theorem dX0_sizeOf_16 : decode cX0_sizeOf 16 = .ok (.iload_n 2, 1) := by decide +kernel
theorem dX0_sizeOf_17 : decode cX0_sizeOf 17 = .ok (.aload_n 0, 1) := by decide +kernel
theorem dX0_sizeOf_18 : decode cX0_sizeOf 18 = .ok (.getfield 18, 3) := by decide +kernel
theorem dX0_sizeOf_21 : decode cX0_sizeOf 21 = .ok (.if_icmp .lt 5, 3) := by decide +kernel
theorem dX0_sizeOf_24 : decode cX0_sizeOf 24 = .ok (.iconst 0, 1) := by decide +kernel
theorem dX0_sizeOf_25 : decode cX0_sizeOf 25 = .ok (.ireturn, 1) := by decide +kernel
theorem dX0_sizeOf_26 : decode cX0_sizeOf 26 = .ok (.aload_n 0, 1) := by decide +kernel
theorem dX0_sizeOf_27 : decode cX0_sizeOf 27 = .ok (.getfield 15, 3) := by decide +kernel
theorem dX0_sizeOf_30 : decode cX0_sizeOf 30 = .ok (.iload_n 1, 1) := by decide +kernel
theorem dX0_sizeOf_31 : decode cX0_sizeOf 31 = .ok (.bipush 20, 2) := by decide +kernel
theorem dX0_sizeOf_33 : decode cX0_sizeOf 33 = .ok (.imul, 1) := by decide +kernel
theorem dX0_sizeOf_34 : decode cX0_sizeOf 34 = .ok (.iload_n 2, 1) := by decide +kernel
theorem dX0_sizeOf_35 : decode cX0_sizeOf 35 = .ok (.iadd, 1) := by decide +kernel
theorem dX0_sizeOf_36 : decode cX0_sizeOf 36 = .ok (.iaload, 1) := by decide +kernel
theorem dX0_sizeOf_37 : decode cX0_sizeOf 37 = .ok (.ireturn, 1) := by decide +kernel
theorem dX0_signAt_0 : decode cX0_signAt 0 = .ok (.iload_n 1, 1) := by decide +kernel
theorem dX0_signAt_1 : decode cX0_signAt 1 = .ok (.ifCond .lt 23, 3) := by decide +kernel
theorem dX0_signAt_4 : decode cX0_signAt 4 = .ok (.iload_n 1, 1) := by decide +kernel
theorem dX0_signAt_5 : decode cX0_signAt 5 = .ok (.aload_n 0, 1) := by decide +kernel
theorem dX0_signAt_6 : decode cX0_signAt 6 = .ok (.getfield 22, 3) := by decide +kernel
theorem dX0_signAt_9 : decode cX0_signAt 9 = .ok (.if_icmp .ge 15, 3) := by decide +kernel
theorem dX0_signAt_12 : decode cX0_signAt 12 = .ok (.iload_n 2, 1) := by decide +kernel
theorem dX0_signAt_13 : decode cX0_signAt 13 = .ok (.ifCond .lt 11, 3) := by decide +kernel
theorem dX0_signAt_16 : decode cX0_signAt 16 = .ok (.iload_n 2, 1) := by decide +kernel
theorem dX0_signAt_17 : decode cX0_signAt 17 = .ok (.aload_n 0, 1) := by decide +kernel
theorem dX0_signAt_18 : decode cX0_signAt 18 = .ok (.getfield 18, 3) := by decide +kernel
theorem dX0_signAt_21 : decode cX0_signAt 21 = .ok (.if_icmp .lt 5, 3) := by decide +kernel
theorem dX0_signAt_24 : decode cX0_signAt 24 = .ok (.iconst 0, 1) := by decide +kernel
theorem dX0_signAt_25 : decode cX0_signAt 25 = .ok (.ireturn, 1) := by decide +kernel
theorem dX0_signAt_26 : decode cX0_signAt 26 = .ok (.iload_n 1, 1) := by decide +kernel
theorem dX0_signAt_27 : decode cX0_signAt 27 = .ok (.bipush 20, 2) := by decide +kernel
theorem dX0_signAt_29 : decode cX0_signAt 29 = .ok (.imul, 1) := by decide +kernel
theorem dX0_signAt_30 : decode cX0_signAt 30 = .ok (.iload_n 2, 1) := by decide +kernel
theorem dX0_signAt_31 : decode cX0_signAt 31 = .ok (.iadd, 1) := by decide +kernel
theorem dX0_signAt_32 : decode cX0_signAt 32 = .ok (.istore 4, 2) := by decide +kernel
theorem dX0_signAt_34 : decode cX0_signAt 34 = .ok (.iload_n 3, 1) := by decide +kernel
theorem dX0_signAt_35 : decode cX0_signAt 35 = .ok (.ifCond .lt 29, 3) := by decide +kernel
theorem dX0_signAt_38 : decode cX0_signAt 38 = .ok (.iload_n 3, 1) := by decide +kernel
theorem dX0_signAt_39 : decode cX0_signAt 39 = .ok (.aload_n 0, 1) := by decide +kernel
theorem dX0_signAt_40 : decode cX0_signAt 40 = .ok (.getfield 15, 3) := by decide +kernel
theorem dX0_signAt_43 : decode cX0_signAt 43 = .ok (.iload 4, 2) := by decide +kernel
theorem dX0_signAt_45 : decode cX0_signAt 45 = .ok (.iaload, 1) := by decide +kernel
theorem dX0_signAt_46 : decode cX0_signAt 46 = .ok (.if_icmp .ge 18, 3) := by decide +kernel
theorem dX0_signAt_49 : decode cX0_signAt 49 = .ok (.aload_n 0, 1) := by decide +kernel
theorem dX0_signAt_50 : decode cX0_signAt 50 = .ok (.getfield 9, 3) := by decide +kernel
theorem dX0_signAt_53 : decode cX0_signAt 53 = .ok (.iload 4, 2) := by decide +kernel
theorem dX0_signAt_55 : decode cX0_signAt 55 = .ok (.bipush 8, 2) := by decide +kernel
theorem dX0_signAt_57 : decode cX0_signAt 57 = .ok (.imul, 1) := by decide +kernel
theorem dX0_signAt_58 : decode cX0_signAt 58 = .ok (.iload_n 3, 1) := by decide +kernel
theorem dX0_signAt_59 : decode cX0_signAt 59 = .ok (.iadd, 1) := by decide +kernel
theorem dX0_signAt_60 : decode cX0_signAt 60 = .ok (.iaload, 1) := by decide +kernel
theorem dX0_signAt_61 : decode cX0_signAt 61 = .ok (.goto 4, 3) := by decide +kernel
theorem dX0_signAt_64 : decode cX0_signAt 64 = .ok (.iconst 0, 1) := by decide +kernel
theorem dX0_signAt_65 : decode cX0_signAt 65 = .ok (.ireturn, 1) := by decide +kernel
set_option maxRecDepth 20000 in
theorem ggX0_write_X0_hasVersion : GoodIn wsX0_write wsX0_hasVersion := goodIn_r _ [11, 12, 18, 19, 20, 21] (by decide +kernel) (by decide +kernel)
set_option maxRecDepth 20000 in
theorem gX0_write_X0_hasVersion : GoodIn wsX0_write (wsV RX0 25 RX0 yX0_hasVersion wsX0_hasVersion) := goodIn_app (goodIn_of _ (by decide +kernel)) ggX0_write_X0_hasVersion
set_option maxRecDepth 20000 in
theorem ggX0_write_X0_hasLine : GoodIn wsX0_write wsX0_hasLine := goodIn_r _ [16, 17, 18, 19, 20, 21] (by decide +kernel) (by decide +kernel)
set_option maxRecDepth 20000 in
theorem gX0_write_X0_hasLine : GoodIn wsX0_write (wsV RX0 29 RX0 yX0_hasLine wsX0_hasLine) := goodIn_app (goodIn_of _ (by decide +kernel)) ggX0_write_X0_hasLine
theorem dX0_write_0 : decode cX0_write 0 = .ok (.aload_n 0, 1) := by decide +kernel
theorem dX0_write_1 : decode cX0_write 1 = .ok (.iload_n 1, 1) := by decide +kernel
theorem dX0_write_2 : decode cX0_write 2 = .ok (.invokevirtual 25, 3) := by decide +kernel
theorem dX0_write_5 : decode cX0_write 5 = .ok (.ifCond .eq 30, 3) := by decide +kernel
theorem dX0_write_8 : decode cX0_write 8 = .ok (.aload_n 0, 1) := by decide +kernel
theorem dX0_write_9 : decode cX0_write 9 = .ok (.iload_n 2, 1) := by decide +kernel
theorem dX0_write_10 : decode cX0_write 10 = .ok (.invokevirtual 29, 3) := by decide +kernel
theorem dX0_write_13 : decode cX0_write 13 = .ok (.ifCond .eq 22, 3) := by decide +kernel
theorem dX0_write_16 : decode cX0_write 16 = .ok (.iload 4, 2) := by decide +kernel
theorem dX0_write_18 : decode cX0_write 18 = .ok (.ifCond .lt 17, 3) := by decide +kernel
theorem dX0_write_21 : decode cX0_write 21 = .ok (.iload 4, 2) := by decide +kernel
theorem dX0_write_23 : decode cX0_write 23 = .ok (.bipush 8, 2) := by decide +kernel
theorem dX0_write_25 : decode cX0_write 25 = .ok (.if_icmp .gt 10, 3) := by decide +kernel
theorem dX0_write_28 : decode cX0_write 28 = .ok (.iload 4, 2) := by decide +kernel
theorem dX0_write_30 : decode cX0_write 30 = .ok (.aload_n 3, 1) := by decide +kernel
theorem dX0_write_31 : decode cX0_write 31 = .ok (.arraylength, 1) := by decide +kernel
theorem dX0_write_32 : decode cX0_write 32 = .ok (.if_icmp .le 4, 3) := by decide +kernel
theorem dX0_write_35 : decode cX0_write 35 = .ok (.return_, 1) := by decide +kernel
theorem dX0_write_36 : decode cX0_write 36 = .ok (.iload_n 1, 1) := by decide +kernel
theorem dX0_write_37 : decode cX0_write 37 = .ok (.bipush 20, 2) := by decide +kernel
theorem dX0_write_39 : decode cX0_write 39 = .ok (.imul, 1) := by decide +kernel
theorem dX0_write_40 : decode cX0_write 40 = .ok (.iload_n 2, 1) := by decide +kernel
theorem dX0_write_41 : decode cX0_write 41 = .ok (.iadd, 1) := by decide +kernel
theorem dX0_write_42 : decode cX0_write 42 = .ok (.istore 5, 2) := by decide +kernel
theorem dX0_write_44 : decode cX0_write 44 = .ok (.aload_n 3, 1) := by decide +kernel
theorem dX0_write_45 : decode cX0_write 45 = .ok (.iconst 0, 1) := by decide +kernel
theorem dX0_write_46 : decode cX0_write 46 = .ok (.aload_n 0, 1) := by decide +kernel
theorem dX0_write_47 : decode cX0_write 47 = .ok (.getfield 9, 3) := by decide +kernel
theorem dX0_write_50 : decode cX0_write 50 = .ok (.iload 5, 2) := by decide +kernel
theorem dX0_write_52 : decode cX0_write 52 = .ok (.bipush 8, 2) := by decide +kernel
theorem dX0_write_54 : decode cX0_write 54 = .ok (.imul, 1) := by decide +kernel
theorem dX0_write_55 : decode cX0_write 55 = .ok (.iload 4, 2) := by decide +kernel
theorem dX0_write_57 : decode cX0_write 57 = .ok (.invokestatic 32, 3) := by decide +kernel
theorem dX0_write_60 : decode cX0_write 60 = .ok (.aload_n 0, 1) := by decide +kernel
theorem dX0_write_61 : decode cX0_write 61 = .ok (.getfield 15, 3) := by decide +kernel
theorem dX0_write_64 : decode cX0_write 64 = .ok (.iload 5, 2) := by decide +kernel
theorem dX0_write_66 : decode cX0_write 66 = .ok (.iload 4, 2) := by decide +kernel
theorem dX0_write_68 : decode cX0_write 68 = .ok (.iastore, 1) := by decide +kernel
theorem dX0_write_69 : decode cX0_write 69 = .ok (.return_, 1) := by decide +kernel
set_option maxRecDepth 20000 in
theorem ggX0_addLine_X0_write : GoodIn wsX0_addLine wsX0_write := goodIn_r _ [7, 8, 9, 10, 11, 12, 13, 14, 15, 16, 6, 17, 2, 18, 19, 20, 21, 1, 22, 23, 24, 25] (by decide +kernel) (by decide +kernel)
set_option maxRecDepth 20000 in
theorem gX0_addLine_X0_write : GoodIn wsX0_addLine (wsV RX0 38 RX0 yX0_write wsX0_write) := goodIn_app (goodIn_of _ (by decide +kernel)) ggX0_addLine_X0_write
theorem dX0_addLine_0 : decode cX0_addLine 0 = .ok (.aload_n 0, 1) := by decide +kernel
theorem dX0_addLine_1 : decode cX0_addLine 1 = .ok (.getfield 18, 3) := by decide +kernel
theorem dX0_addLine_4 : decode cX0_addLine 4 = .ok (.bipush 20, 2) := by decide +kernel
theorem dX0_addLine_6 : decode cX0_addLine 6 = .ok (.if_icmp .lt 4, 3) := by decide +kernel
theorem dX0_addLine_9 : decode cX0_addLine 9 = .ok (.return_, 1) := by decide +kernel
theorem dX0_addLine_10 : decode cX0_addLine 10 = .ok (.aload_n 0, 1) := by decide +kernel
theorem dX0_addLine_11 : decode cX0_addLine 11 = .ok (.dup, 1) := by decide +kernel
theorem dX0_addLine_12 : decode cX0_addLine 12 = .ok (.getfield 18, 3) := by decide +kernel
theorem dX0_addLine_15 : decode cX0_addLine 15 = .ok (.iconst 1, 1) := by decide +kernel
theorem dX0_addLine_16 : decode cX0_addLine 16 = .ok (.iadd, 1) := by decide +kernel
theorem dX0_addLine_17 : decode cX0_addLine 17 = .ok (.putfield 18, 3) := by decide +kernel
theorem dX0_addLine_20 : decode cX0_addLine 20 = .ok (.iconst 0, 1) := by decide +kernel
theorem dX0_addLine_21 : decode cX0_addLine 21 = .ok (.istore_n 3, 1) := by decide +kernel
theorem dX0_addLine_22 : decode cX0_addLine 22 = .ok (.iload_n 3, 1) := by decide +kernel
theorem dX0_addLine_23 : decode cX0_addLine 23 = .ok (.aload_n 0, 1) := by decide +kernel
theorem dX0_addLine_24 : decode cX0_addLine 24 = .ok (.getfield 22, 3) := by decide +kernel
theorem dX0_addLine_27 : decode cX0_addLine 27 = .ok (.if_icmp .ge 22, 3) := by decide +kernel
theorem dX0_addLine_30 : decode cX0_addLine 30 = .ok (.aload_n 0, 1) := by decide +kernel
theorem dX0_addLine_31 : decode cX0_addLine 31 = .ok (.iload_n 3, 1) := by decide +kernel
theorem dX0_addLine_32 : decode cX0_addLine 32 = .ok (.aload_n 0, 1) := by decide +kernel
theorem dX0_addLine_33 : decode cX0_addLine 33 = .ok (.getfield 18, 3) := by decide +kernel
theorem dX0_addLine_36 : decode cX0_addLine 36 = .ok (.iconst 1, 1) := by decide +kernel
theorem dX0_addLine_37 : decode cX0_addLine 37 = .ok (.isub, 1) := by decide +kernel
theorem dX0_addLine_38 : decode cX0_addLine 38 = .ok (.aload_n 1, 1) := by decide +kernel
theorem dX0_addLine_39 : decode cX0_addLine 39 = .ok (.iload_n 2, 1) := by decide +kernel
theorem dX0_addLine_40 : decode cX0_addLine 40 = .ok (.invokevirtual 38, 3) := by decide +kernel
theorem dX0_addLine_43 : decode cX0_addLine 43 = .ok (.iinc 3 1, 3) := by decide +kernel
theorem dX0_addLine_46 : decode cX0_addLine 46 = .ok (.goto (-24), 3) := by decide +kernel
theorem dX0_addLine_49 : decode cX0_addLine 49 = .ok (.return_, 1) := by decide +kernel
theorem dX0_addVersion_0 : decode cX0_addVersion 0 = .ok (.aload_n 0, 1) := by decide +kernel
theorem dX0_addVersion_1 : decode cX0_addVersion 1 = .ok (.getfield 22, 3) := by decide +kernel
theorem dX0_addVersion_4 : decode cX0_addVersion 4 = .ok (.iconst 1, 1) := by decide +kernel
theorem dX0_addVersion_5 : decode cX0_addVersion 5 = .ok (.if_icmp .lt 11, 3) := by decide +kernel
theorem dX0_addVersion_8 : decode cX0_addVersion 8 = .ok (.aload_n 0, 1) := by decide +kernel
theorem dX0_addVersion_9 : decode cX0_addVersion 9 = .ok (.getfield 22, 3) := by decide +kernel
theorem dX0_addVersion_12 : decode cX0_addVersion 12 = .ok (.iconst 4, 1) := by decide +kernel
theorem dX0_addVersion_13 : decode cX0_addVersion 13 = .ok (.if_icmp .lt 4, 3) := by decide +kernel
theorem dX0_addVersion_16 : decode cX0_addVersion 16 = .ok (.return_, 1) := by decide +kernel
theorem dX0_addVersion_17 : decode cX0_addVersion 17 = .ok (.aload_n 0, 1) := by decide +kernel
theorem dX0_addVersion_18 : decode cX0_addVersion 18 = .ok (.getfield 22, 3) := by decide +kernel
theorem dX0_addVersion_21 : decode cX0_addVersion 21 = .ok (.iconst 1, 1) := by decide +kernel
theorem dX0_addVersion_22 : decode cX0_addVersion 22 = .ok (.isub, 1) := by decide +kernel
theorem dX0_addVersion_23 : decode cX0_addVersion 23 = .ok (.bipush 20, 2) := by decide +kernel
theorem dX0_addVersion_25 : decode cX0_addVersion 25 = .ok (.imul, 1) := by decide +kernel
theorem dX0_addVersion_26 : decode cX0_addVersion 26 = .ok (.istore_n 1, 1) := by decide +kernel
theorem dX0_addVersion_27 : decode cX0_addVersion 27 = .ok (.aload_n 0, 1) := by decide +kernel
theorem dX0_addVersion_28 : decode cX0_addVersion 28 = .ok (.getfield 22, 3) := by decide +kernel
theorem dX0_addVersion_31 : decode cX0_addVersion 31 = .ok (.bipush 20, 2) := by decide +kernel
theorem dX0_addVersion_33 : decode cX0_addVersion 33 = .ok (.imul, 1) := by decide +kernel
theorem dX0_addVersion_34 : decode cX0_addVersion 34 = .ok (.istore_n 2, 1) := by decide +kernel
theorem dX0_addVersion_35 : decode cX0_addVersion 35 = .ok (.aload_n 0, 1) := by decide +kernel
theorem dX0_addVersion_36 : decode cX0_addVersion 36 = .ok (.getfield 15, 3) := by decide +kernel
theorem dX0_addVersion_39 : decode cX0_addVersion 39 = .ok (.iload_n 1, 1) := by decide +kernel
theorem dX0_addVersion_40 : decode cX0_addVersion 40 = .ok (.aload_n 0, 1) := by decide +kernel
theorem dX0_addVersion_41 : decode cX0_addVersion 41 = .ok (.getfield 15, 3) := by decide +kernel
theorem dX0_addVersion_44 : decode cX0_addVersion 44 = .ok (.iload_n 2, 1) := by decide +kernel
theorem dX0_addVersion_45 : decode cX0_addVersion 45 = .ok (.bipush 20, 2) := by decide +kernel
theorem dX0_addVersion_47 : decode cX0_addVersion 47 = .ok (.invokestatic 32, 3) := by decide +kernel
theorem dX0_addVersion_50 : decode cX0_addVersion 50 = .ok (.aload_n 0, 1) := by decide +kernel
theorem dX0_addVersion_51 : decode cX0_addVersion 51 = .ok (.getfield 9, 3) := by decide +kernel
theorem dX0_addVersion_54 : decode cX0_addVersion 54 = .ok (.iload_n 1, 1) := by decide +kernel
theorem dX0_addVersion_55 : decode cX0_addVersion 55 = .ok (.bipush 8, 2) := by decide +kernel
theorem dX0_addVersion_57 : decode cX0_addVersion 57 = .ok (.imul, 1) := by decide +kernel
theorem dX0_addVersion_58 : decode cX0_addVersion 58 = .ok (.aload_n 0, 1) := by decide +kernel
theorem dX0_addVersion_59 : decode cX0_addVersion 59 = .ok (.getfield 9, 3) := by decide +kernel
theorem dX0_addVersion_62 : decode cX0_addVersion 62 = .ok (.iload_n 2, 1) := by decide +kernel
theorem dX0_addVersion_63 : decode cX0_addVersion 63 = .ok (.bipush 8, 2) := by decide +kernel
theorem dX0_addVersion_65 : decode cX0_addVersion 65 = .ok (.imul, 1) := by decide +kernel
theorem dX0_addVersion_66 : decode cX0_addVersion 66 = .ok (.sipush 160, 3) := by decide +kernel
theorem dX0_addVersion_69 : decode cX0_addVersion 69 = .ok (.invokestatic 32, 3) := by decide +kernel
theorem dX0_addVersion_72 : decode cX0_addVersion 72 = .ok (.aload_n 0, 1) := by decide +kernel
theorem dX0_addVersion_73 : decode cX0_addVersion 73 = .ok (.dup, 1) := by decide +kernel
theorem dX0_addVersion_74 : decode cX0_addVersion 74 = .ok (.getfield 22, 3) := by decide +kernel
theorem dX0_addVersion_77 : decode cX0_addVersion 77 = .ok (.iconst 1, 1) := by decide +kernel
theorem dX0_addVersion_78 : decode cX0_addVersion 78 = .ok (.iadd, 1) := by decide +kernel
theorem dX0_addVersion_79 : decode cX0_addVersion 79 = .ok (.putfield 22, 3) := by decide +kernel
theorem dX0_addVersion_82 : decode cX0_addVersion 82 = .ok (.return_, 1) := by decide +kernel
theorem dX0_becomeAs_0 : decode cX0_becomeAs 0 = .ok (.aload_n 1, 1) := by decide +kernel
theorem dX0_becomeAs_1 : decode cX0_becomeAs 1 = .ok (.getfield 9, 3) := by decide +kernel
theorem dX0_becomeAs_4 : decode cX0_becomeAs 4 = .ok (.iconst 0, 1) := by decide +kernel
theorem dX0_becomeAs_5 : decode cX0_becomeAs 5 = .ok (.aload_n 0, 1) := by decide +kernel
theorem dX0_becomeAs_6 : decode cX0_becomeAs 6 = .ok (.getfield 9, 3) := by decide +kernel
theorem dX0_becomeAs_9 : decode cX0_becomeAs 9 = .ok (.iconst 0, 1) := by decide +kernel
theorem dX0_becomeAs_10 : decode cX0_becomeAs 10 = .ok (.aload_n 0, 1) := by decide +kernel
theorem dX0_becomeAs_11 : decode cX0_becomeAs 11 = .ok (.getfield 9, 3) := by decide +kernel
theorem dX0_becomeAs_14 : decode cX0_becomeAs 14 = .ok (.arraylength, 1) := by decide +kernel
theorem dX0_becomeAs_15 : decode cX0_becomeAs 15 = .ok (.invokestatic 32, 3) := by decide +kernel
theorem dX0_becomeAs_18 : decode cX0_becomeAs 18 = .ok (.aload_n 1, 1) := by decide +kernel
theorem dX0_becomeAs_19 : decode cX0_becomeAs 19 = .ok (.getfield 15, 3) := by decide +kernel
theorem dX0_becomeAs_22 : decode cX0_becomeAs 22 = .ok (.iconst 0, 1) := by decide +kernel
theorem dX0_becomeAs_23 : decode cX0_becomeAs 23 = .ok (.aload_n 0, 1) := by decide +kernel
theorem dX0_becomeAs_24 : decode cX0_becomeAs 24 = .ok (.getfield 15, 3) := by decide +kernel
theorem dX0_becomeAs_27 : decode cX0_becomeAs 27 = .ok (.iconst 0, 1) := by decide +kernel
theorem dX0_becomeAs_28 : decode cX0_becomeAs 28 = .ok (.aload_n 0, 1) := by decide +kernel
theorem dX0_becomeAs_29 : decode cX0_becomeAs 29 = .ok (.getfield 15, 3) := by decide +kernel
theorem dX0_becomeAs_32 : decode cX0_becomeAs 32 = .ok (.arraylength, 1) := by decide +kernel
theorem dX0_becomeAs_33 : decode cX0_becomeAs 33 = .ok (.invokestatic 32, 3) := by decide +kernel
theorem dX0_becomeAs_36 : decode cX0_becomeAs 36 = .ok (.aload_n 0, 1) := by decide +kernel
theorem dX0_becomeAs_37 : decode cX0_becomeAs 37 = .ok (.aload_n 1, 1) := by decide +kernel
theorem dX0_becomeAs_38 : decode cX0_becomeAs 38 = .ok (.getfield 18, 3) := by decide +kernel
theorem dX0_becomeAs_41 : decode cX0_becomeAs 41 = .ok (.putfield 18, 3) := by decide +kernel
theorem dX0_becomeAs_44 : decode cX0_becomeAs 44 = .ok (.aload_n 0, 1) := by decide +kernel
theorem dX0_becomeAs_45 : decode cX0_becomeAs 45 = .ok (.aload_n 1, 1) := by decide +kernel
theorem dX0_becomeAs_46 : decode cX0_becomeAs 46 = .ok (.getfield 22, 3) := by decide +kernel
theorem dX0_becomeAs_49 : decode cX0_becomeAs 49 = .ok (.putfield 22, 3) := by decide +kernel
theorem dX0_becomeAs_52 : decode cX0_becomeAs 52 = .ok (.return_, 1) := by decide +kernel
set_option maxRecDepth 20000 in
theorem ggX0_staysAsItIs_X0_sizeOf : GoodIn wsX0_staysAsItIs wsX0_sizeOf := goodIn_r _ [5, 6, 7, 8, 14, 15, 16, 17] (by decide +kernel) (by decide +kernel)
set_option maxRecDepth 20000 in
theorem gX0_staysAsItIs_X0_sizeOf : GoodIn wsX0_staysAsItIs (wsV RX0 42 RX0 yX0_sizeOf wsX0_sizeOf) := goodIn_app (goodIn_of _ (by decide +kernel)) ggX0_staysAsItIs_X0_sizeOf
set_option maxRecDepth 20000 in
theorem ggX0_staysAsItIs_X0_signAt : GoodIn wsX0_staysAsItIs wsX0_signAt := goodIn_r _ [12, 6, 7, 8, 13, 14, 15, 16, 17] (by decide +kernel) (by decide +kernel)
set_option maxRecDepth 20000 in
theorem gX0_staysAsItIs_X0_signAt : GoodIn wsX0_staysAsItIs (wsV RX0 46 RX0 yX0_signAt wsX0_signAt) := goodIn_app (goodIn_of _ (by decide +kernel)) ggX0_staysAsItIs_X0_signAt
theorem dX0_staysAsItIs_0 : decode cX0_staysAsItIs 0 = .ok (.aload_n 0, 1) := by decide +kernel
theorem dX0_staysAsItIs_1 : decode cX0_staysAsItIs 1 = .ok (.iload_n 1, 1) := by decide +kernel
theorem dX0_staysAsItIs_2 : decode cX0_staysAsItIs 2 = .ok (.iload_n 2, 1) := by decide +kernel
theorem dX0_staysAsItIs_3 : decode cX0_staysAsItIs 3 = .ok (.invokevirtual 42, 3) := by decide +kernel
theorem dX0_staysAsItIs_6 : decode cX0_staysAsItIs 6 = .ok (.istore_n 3, 1) := by decide +kernel
theorem dX0_staysAsItIs_7 : decode cX0_staysAsItIs 7 = .ok (.aload_n 0, 1) := by decide +kernel
theorem dX0_staysAsItIs_8 : decode cX0_staysAsItIs 8 = .ok (.iload_n 1, 1) := by decide +kernel
theorem dX0_staysAsItIs_9 : decode cX0_staysAsItIs 9 = .ok (.iconst 1, 1) := by decide +kernel
theorem dX0_staysAsItIs_10 : decode cX0_staysAsItIs 10 = .ok (.iadd, 1) := by decide +kernel
theorem dX0_staysAsItIs_11 : decode cX0_staysAsItIs 11 = .ok (.iload_n 2, 1) := by decide +kernel
theorem dX0_staysAsItIs_12 : decode cX0_staysAsItIs 12 = .ok (.invokevirtual 42, 3) := by decide +kernel
theorem dX0_staysAsItIs_15 : decode cX0_staysAsItIs 15 = .ok (.iload_n 3, 1) := by decide +kernel
theorem dX0_staysAsItIs_16 : decode cX0_staysAsItIs 16 = .ok (.if_icmp .eq 5, 3) := by decide +kernel
theorem dX0_staysAsItIs_19 : decode cX0_staysAsItIs 19 = .ok (.iconst 0, 1) := by decide +kernel
theorem dX0_staysAsItIs_20 : decode cX0_staysAsItIs 20 = .ok (.ireturn, 1) := by decide +kernel
theorem dX0_staysAsItIs_21 : decode cX0_staysAsItIs 21 = .ok (.iconst 0, 1) := by decide +kernel
theorem dX0_staysAsItIs_22 : decode cX0_staysAsItIs 22 = .ok (.istore 4, 2) := by decide +kernel
theorem dX0_staysAsItIs_24 : decode cX0_staysAsItIs 24 = .ok (.iload 4, 2) := by decide +kernel
theorem dX0_staysAsItIs_26 : decode cX0_staysAsItIs 26 = .ok (.iload_n 3, 1) := by decide +kernel
theorem dX0_staysAsItIs_27 : decode cX0_staysAsItIs 27 = .ok (.if_icmp .ge 32, 3) := by decide +kernel
theorem dX0_staysAsItIs_30 : decode cX0_staysAsItIs 30 = .ok (.aload_n 0, 1) := by decide +kernel
theorem dX0_staysAsItIs_31 : decode cX0_staysAsItIs 31 = .ok (.iload_n 1, 1) := by decide +kernel
theorem dX0_staysAsItIs_32 : decode cX0_staysAsItIs 32 = .ok (.iload_n 2, 1) := by decide +kernel
theorem dX0_staysAsItIs_33 : decode cX0_staysAsItIs 33 = .ok (.iload 4, 2) := by decide +kernel
theorem dX0_staysAsItIs_35 : decode cX0_staysAsItIs 35 = .ok (.invokevirtual 46, 3) := by decide +kernel
theorem dX0_staysAsItIs_38 : decode cX0_staysAsItIs 38 = .ok (.aload_n 0, 1) := by decide +kernel
theorem dX0_staysAsItIs_39 : decode cX0_staysAsItIs 39 = .ok (.iload_n 1, 1) := by decide +kernel
theorem dX0_staysAsItIs_40 : decode cX0_staysAsItIs 40 = .ok (.iconst 1, 1) := by decide +kernel
theorem dX0_staysAsItIs_41 : decode cX0_staysAsItIs 41 = .ok (.iadd, 1) := by decide +kernel
theorem dX0_staysAsItIs_42 : decode cX0_staysAsItIs 42 = .ok (.iload_n 2, 1) := by decide +kernel
theorem dX0_staysAsItIs_43 : decode cX0_staysAsItIs 43 = .ok (.iload 4, 2) := by decide +kernel
theorem dX0_staysAsItIs_45 : decode cX0_staysAsItIs 45 = .ok (.invokevirtual 46, 3) := by decide +kernel
theorem dX0_staysAsItIs_48 : decode cX0_staysAsItIs 48 = .ok (.if_icmp .eq 5, 3) := by decide +kernel
theorem dX0_staysAsItIs_51 : decode cX0_staysAsItIs 51 = .ok (.iconst 0, 1) := by decide +kernel
theorem dX0_staysAsItIs_52 : decode cX0_staysAsItIs 52 = .ok (.ireturn, 1) := by decide +kernel
theorem dX0_staysAsItIs_53 : decode cX0_staysAsItIs 53 = .ok (.iinc 4 1, 3) := by decide +kernel
theorem dX0_staysAsItIs_56 : decode cX0_staysAsItIs 56 = .ok (.goto (-32), 3) := by decide +kernel
theorem dX0_staysAsItIs_59 : decode cX0_staysAsItIs 59 = .ok (.iconst 1, 1) := by decide +kernel
theorem dX0_staysAsItIs_60 : decode cX0_staysAsItIs 60 = .ok (.ireturn, 1) := by decide +kernel
end
section
theorem dX1_init_0 : decode cX1_init 0 = .ok (.aload_n 0, 1) := by decide +kernel
theorem dX1_init_1 : decode cX1_init 1 = .ok (.invokespecial 3, 3) := by decide +kernel
theorem dX1_init_4 : decode cX1_init 4 = .ok (.aload_n 0, 1) := by decide +kernel
theorem dX1_init_5 : decode cX1_init 5 = .ok (.bipush 81, 2) := by decide +kernel
theorem dX1_init_7 : decode cX1_init 7 = .ok (.newarray .int, 2) := by decide +kernel
theorem dX1_init_9 : decode cX1_init 9 = .ok (.putfield 11, 3) := by decide +kernel
theorem dX1_init_12 : decode cX1_init 12 = .ok (.aload_n 0, 1) := by decide +kernel
theorem dX1_init_13 : decode cX1_init 13 = .ok (.aload_n 1, 1) := by decide +kernel
theorem dX1_init_14 : decode cX1_init 14 = .ok (.putfield 15, 3) := by decide +kernel
theorem dX1_init_17 : decode cX1_init 17 = .ok (.return_, 1) := by decide +kernel
set_option maxRecDepth 20000 in
theorem ggX1_between_X0_sizeOf : GoodIn wsX1_between wsX0_sizeOf := goodIn_r _ [11, 12, 13, 14, 31, 32, 33, 34] (by decide +kernel) (by decide +kernel)
set_option maxRecDepth 20000 in
theorem gX1_between_X0_sizeOf : GoodIn wsX1_between (wsV RX1 19 RX0 yX0_sizeOf wsX0_sizeOf) := goodIn_app (goodIn_of _ (by decide +kernel)) ggX1_between_X0_sizeOf
set_option maxRecDepth 20000 in
theorem ggX1_between_X0_signAt : GoodIn wsX1_between wsX0_signAt := goodIn_r _ [18, 12, 13, 14, 19, 31, 32, 33, 34] (by decide +kernel) (by decide +kernel)
set_option maxRecDepth 20000 in
theorem gX1_between_X0_signAt : GoodIn wsX1_between (wsV RX1 30 RX0 yX0_signAt wsX0_signAt) := goodIn_app (goodIn_of _ (by decide +kernel)) ggX1_between_X0_signAt
set_option maxRecDepth 20000 in
theorem ggX1_between_X1_swapCost : GoodIn wsX1_between wsX1_swapCost := goodIn_r _ [23, 24, 25, 26, 27, 28] (by decide +kernel) (by decide +kernel)
set_option maxRecDepth 20000 in
theorem gX1_between_X1_swapCost : GoodIn wsX1_between (va_wsS RX1 34 yX1_swapCost wsX1_swapCost) := goodIn_app (goodIn_of _ (by decide +kernel)) ggX1_between_X1_swapCost
theorem dX1_between_0 : decode cX1_between 0 = .ok (.aload_n 0, 1) := by decide +kernel
theorem dX1_between_1 : decode cX1_between 1 = .ok (.getfield 15, 3) := by decide +kernel
theorem dX1_between_4 : decode cX1_between 4 = .ok (.iload_n 1, 1) := by decide +kernel
theorem dX1_between_5 : decode cX1_between 5 = .ok (.iload_n 2, 1) := by decide +kernel
theorem dX1_between_6 : decode cX1_between 6 = .ok (.invokevirtual 19, 3) := by decide +kernel
theorem dX1_between_9 : decode cX1_between 9 = .ok (.bipush 8, 2) := by decide +kernel
theorem dX1_between_11 : decode cX1_between 11 = .ok (.invokestatic 25, 3) := by decide +kernel
theorem dX1_between_14 : decode cX1_between 14 = .ok (.istore 4, 2) := by decide +kernel
theorem dX1_between_16 : decode cX1_between 16 = .ok (.aload_n 0, 1) := by decide +kernel
theorem dX1_between_17 : decode cX1_between 17 = .ok (.getfield 15, 3) := by decide +kernel
theorem dX1_between_20 : decode cX1_between 20 = .ok (.iload_n 1, 1) := by decide +kernel
theorem dX1_between_21 : decode cX1_between 21 = .ok (.iload_n 3, 1) := by decide +kernel
theorem dX1_between_22 : decode cX1_between 22 = .ok (.invokevirtual 19, 3) := by decide +kernel
theorem dX1_between_25 : decode cX1_between 25 = .ok (.bipush 8, 2) := by decide +kernel
theorem dX1_between_27 : decode cX1_between 27 = .ok (.invokestatic 25, 3) := by decide +kernel
theorem dX1_between_30 : decode cX1_between 30 = .ok (.istore 5, 2) := by decide +kernel
theorem dX1_between_32 : decode cX1_between 32 = .ok (.iconst 0, 1) := by decide +kernel
theorem dX1_between_33 : decode cX1_between 33 = .ok (.istore 6, 2) := by decide +kernel
theorem dX1_between_35 : decode cX1_between 35 = .ok (.iload 6, 2) := by decide +kernel
theorem dX1_between_37 : decode cX1_between 37 = .ok (.iload 4, 2) := by decide +kernel
theorem dX1_between_39 : decode cX1_between 39 = .ok (.if_icmp .gt 23, 3) := by decide +kernel
theorem dX1_between_42 : decode cX1_between 42 = .ok (.aload_n 0, 1) := by decide +kernel
theorem dX1_between_43 : decode cX1_between 43 = .ok (.getfield 11, 3) := by decide +kernel
theorem dX1_between_46 : decode cX1_between 46 = .ok (.iload 6, 2) := by decide +kernel
theorem dX1_between_48 : decode cX1_between 48 = .ok (.bipush 9, 2) := by decide +kernel
theorem dX1_between_50 : decode cX1_between 50 = .ok (.imul, 1) := by decide +kernel
theorem dX1_between_51 : decode cX1_between 51 = .ok (.iload 6, 2) := by decide +kernel
theorem dX1_between_53 : decode cX1_between 53 = .ok (.iconst 2, 1) := by decide +kernel
theorem dX1_between_54 : decode cX1_between 54 = .ok (.imul, 1) := by decide +kernel
theorem dX1_between_55 : decode cX1_between 55 = .ok (.iastore, 1) := by decide +kernel
theorem dX1_between_56 : decode cX1_between 56 = .ok (.iinc 6 1, 3) := by decide +kernel
theorem dX1_between_59 : decode cX1_between 59 = .ok (.goto (-24), 3) := by decide +kernel
theorem dX1_between_62 : decode cX1_between 62 = .ok (.iconst 0, 1) := by decide +kernel
theorem dX1_between_63 : decode cX1_between 63 = .ok (.istore 6, 2) := by decide +kernel
theorem dX1_between_65 : decode cX1_between 65 = .ok (.iload 6, 2) := by decide +kernel
theorem dX1_between_67 : decode cX1_between 67 = .ok (.iload 5, 2) := by decide +kernel
theorem dX1_between_69 : decode cX1_between 69 = .ok (.if_icmp .gt 20, 3) := by decide +kernel
theorem dX1_between_72 : decode cX1_between 72 = .ok (.aload_n 0, 1) := by decide +kernel
theorem dX1_between_73 : decode cX1_between 73 = .ok (.getfield 11, 3) := by decide +kernel
theorem dX1_between_76 : decode cX1_between 76 = .ok (.iload 6, 2) := by decide +kernel
theorem dX1_between_78 : decode cX1_between 78 = .ok (.iload 6, 2) := by decide +kernel
theorem dX1_between_80 : decode cX1_between 80 = .ok (.iconst 2, 1) := by decide +kernel
theorem dX1_between_81 : decode cX1_between 81 = .ok (.imul, 1) := by decide +kernel
theorem dX1_between_82 : decode cX1_between 82 = .ok (.iastore, 1) := by decide +kernel
theorem dX1_between_83 : decode cX1_between 83 = .ok (.iinc 6 1, 3) := by decide +kernel
theorem dX1_between_86 : decode cX1_between 86 = .ok (.goto (-21), 3) := by decide +kernel
theorem dX1_between_89 : decode cX1_between 89 = .ok (.iconst 1, 1) := by decide +kernel
theorem dX1_between_90 : decode cX1_between 90 = .ok (.istore 6, 2) := by decide +kernel
theorem dX1_between_92 : decode cX1_between 92 = .ok (.iload 6, 2) := by decide +kernel
theorem dX1_between_94 : decode cX1_between 94 = .ok (.iload 4, 2) := by decide +kernel
theorem dX1_between_96 : decode cX1_between 96 = .ok (.if_icmp .gt 123, 3) := by decide +kernel
theorem dX1_between_99 : decode cX1_between 99 = .ok (.aload_n 0, 1) := by decide +kernel
theorem dX1_between_100 : decode cX1_between 100 = .ok (.getfield 15, 3) := by decide +kernel
theorem dX1_between_103 : decode cX1_between 103 = .ok (.iload_n 1, 1) := by decide +kernel
theorem dX1_between_104 : decode cX1_between 104 = .ok (.iload_n 2, 1) := by decide +kernel
theorem dX1_between_105 : decode cX1_between 105 = .ok (.iload 6, 2) := by decide +kernel
theorem dX1_between_107 : decode cX1_between 107 = .ok (.iconst 1, 1) := by decide +kernel
theorem dX1_between_108 : decode cX1_between 108 = .ok (.isub, 1) := by decide +kernel
theorem dX1_between_109 : decode cX1_between 109 = .ok (.invokevirtual 30, 3) := by decide +kernel
theorem dX1_between_112 : decode cX1_between 112 = .ok (.istore 7, 2) := by decide +kernel
theorem dX1_between_114 : decode cX1_between 114 = .ok (.iconst 1, 1) := by decide +kernel
theorem dX1_between_115 : decode cX1_between 115 = .ok (.istore 8, 2) := by decide +kernel
theorem dX1_between_117 : decode cX1_between 117 = .ok (.iload 8, 2) := by decide +kernel
theorem dX1_between_119 : decode cX1_between 119 = .ok (.iload 5, 2) := by decide +kernel
theorem dX1_between_121 : decode cX1_between 121 = .ok (.if_icmp .gt 92, 3) := by decide +kernel
theorem dX1_between_124 : decode cX1_between 124 = .ok (.iload 6, 2) := by decide +kernel
theorem dX1_between_126 : decode cX1_between 126 = .ok (.bipush 9, 2) := by decide +kernel
theorem dX1_between_128 : decode cX1_between 128 = .ok (.imul, 1) := by decide +kernel
theorem dX1_between_129 : decode cX1_between 129 = .ok (.iload 8, 2) := by decide +kernel
theorem dX1_between_131 : decode cX1_between 131 = .ok (.iadd, 1) := by decide +kernel
theorem dX1_between_132 : decode cX1_between 132 = .ok (.istore 9, 2) := by decide +kernel
theorem dX1_between_134 : decode cX1_between 134 = .ok (.aload_n 0, 1) := by decide +kernel
theorem dX1_between_135 : decode cX1_between 135 = .ok (.getfield 11, 3) := by decide +kernel
theorem dX1_between_138 : decode cX1_between 138 = .ok (.iload 9, 2) := by decide +kernel
theorem dX1_between_140 : decode cX1_between 140 = .ok (.bipush 9, 2) := by decide +kernel
theorem dX1_between_142 : decode cX1_between 142 = .ok (.isub, 1) := by decide +kernel
theorem dX1_between_143 : decode cX1_between 143 = .ok (.iconst 1, 1) := by decide +kernel
theorem dX1_between_144 : decode cX1_between 144 = .ok (.isub, 1) := by decide +kernel
theorem dX1_between_145 : decode cX1_between 145 = .ok (.iaload, 1) := by decide +kernel
theorem dX1_between_146 : decode cX1_between 146 = .ok (.iload 7, 2) := by decide +kernel
theorem dX1_between_148 : decode cX1_between 148 = .ok (.aload_n 0, 1) := by decide +kernel
theorem dX1_between_149 : decode cX1_between 149 = .ok (.getfield 15, 3) := by decide +kernel
theorem dX1_between_152 : decode cX1_between 152 = .ok (.iload_n 1, 1) := by decide +kernel
theorem dX1_between_153 : decode cX1_between 153 = .ok (.iload_n 3, 1) := by decide +kernel
theorem dX1_between_154 : decode cX1_between 154 = .ok (.iload 8, 2) := by decide +kernel
theorem dX1_between_156 : decode cX1_between 156 = .ok (.iconst 1, 1) := by decide +kernel
theorem dX1_between_157 : decode cX1_between 157 = .ok (.isub, 1) := by decide +kernel
theorem dX1_between_158 : decode cX1_between 158 = .ok (.invokevirtual 30, 3) := by decide +kernel
theorem dX1_between_161 : decode cX1_between 161 = .ok (.invokestatic 34, 3) := by decide +kernel
theorem dX1_between_164 : decode cX1_between 164 = .ok (.iadd, 1) := by decide +kernel
theorem dX1_between_165 : decode cX1_between 165 = .ok (.istore 10, 2) := by decide +kernel
theorem dX1_between_167 : decode cX1_between 167 = .ok (.aload_n 0, 1) := by decide +kernel
theorem dX1_between_168 : decode cX1_between 168 = .ok (.getfield 11, 3) := by decide +kernel
theorem dX1_between_171 : decode cX1_between 171 = .ok (.iload 9, 2) := by decide +kernel
theorem dX1_between_173 : decode cX1_between 173 = .ok (.iconst 1, 1) := by decide +kernel
theorem dX1_between_174 : decode cX1_between 174 = .ok (.isub, 1) := by decide +kernel
theorem dX1_between_175 : decode cX1_between 175 = .ok (.iaload, 1) := by decide +kernel
theorem dX1_between_176 : decode cX1_between 176 = .ok (.aload_n 0, 1) := by decide +kernel
theorem dX1_between_177 : decode cX1_between 177 = .ok (.getfield 11, 3) := by decide +kernel
theorem dX1_between_180 : decode cX1_between 180 = .ok (.iload 9, 2) := by decide +kernel
theorem dX1_between_182 : decode cX1_between 182 = .ok (.bipush 9, 2) := by decide +kernel
theorem dX1_between_184 : decode cX1_between 184 = .ok (.isub, 1) := by decide +kernel
theorem dX1_between_185 : decode cX1_between 185 = .ok (.iaload, 1) := by decide +kernel
theorem dX1_between_186 : decode cX1_between 186 = .ok (.invokestatic 25, 3) := by decide +kernel
theorem dX1_between_189 : decode cX1_between 189 = .ok (.iconst 2, 1) := by decide +kernel
theorem dX1_between_190 : decode cX1_between 190 = .ok (.iadd, 1) := by decide +kernel
theorem dX1_between_191 : decode cX1_between 191 = .ok (.istore 11, 2) := by decide +kernel
theorem dX1_between_193 : decode cX1_between 193 = .ok (.aload_n 0, 1) := by decide +kernel
theorem dX1_between_194 : decode cX1_between 194 = .ok (.getfield 11, 3) := by decide +kernel
theorem dX1_between_197 : decode cX1_between 197 = .ok (.iload 9, 2) := by decide +kernel
theorem dX1_between_199 : decode cX1_between 199 = .ok (.iload 10, 2) := by decide +kernel
theorem dX1_between_201 : decode cX1_between 201 = .ok (.iload 11, 2) := by decide +kernel
theorem dX1_between_203 : decode cX1_between 203 = .ok (.invokestatic 25, 3) := by decide +kernel
theorem dX1_between_206 : decode cX1_between 206 = .ok (.iastore, 1) := by decide +kernel
theorem dX1_between_207 : decode cX1_between 207 = .ok (.iinc 8 1, 3) := by decide +kernel
theorem dX1_between_210 : decode cX1_between 210 = .ok (.goto (-93), 3) := by decide +kernel
theorem dX1_between_213 : decode cX1_between 213 = .ok (.iinc 6 1, 3) := by decide +kernel
theorem dX1_between_216 : decode cX1_between 216 = .ok (.goto (-124), 3) := by decide +kernel
theorem dX1_between_219 : decode cX1_between 219 = .ok (.aload_n 0, 1) := by decide +kernel
theorem dX1_between_220 : decode cX1_between 220 = .ok (.getfield 11, 3) := by decide +kernel
theorem dX1_between_223 : decode cX1_between 223 = .ok (.iload 4, 2) := by decide +kernel
theorem dX1_between_225 : decode cX1_between 225 = .ok (.bipush 9, 2) := by decide +kernel
theorem dX1_between_227 : decode cX1_between 227 = .ok (.imul, 1) := by decide +kernel
theorem dX1_between_228 : decode cX1_between 228 = .ok (.iload 5, 2) := by decide +kernel
theorem dX1_between_230 : decode cX1_between 230 = .ok (.iadd, 1) := by decide +kernel
theorem dX1_between_231 : decode cX1_between 231 = .ok (.iaload, 1) := by decide +kernel
theorem dX1_between_232 : decode cX1_between 232 = .ok (.ireturn, 1) := by decide +kernel
set_option maxRecDepth 20000 in
theorem ggX1_swapCost_X7_isName : GoodIn wsX1_swapCost wsX7_isName := goodIn_r _ [3] (by decide +kernel) (by decide +kernel)
set_option maxRecDepth 20000 in
theorem gX1_swapCost_X7_isName_n37 : GoodIn wsX1_swapCost (wsX7_isName) := ggX1_swapCost_X7_isName
set_option maxRecDepth 20000 in
theorem ggX1_swapCost_X7_isNumber : GoodIn wsX1_swapCost wsX7_isNumber := goodIn_r _ [5] (by decide +kernel) (by decide +kernel)
set_option maxRecDepth 20000 in
theorem gX1_swapCost_X7_isNumber_n41 : GoodIn wsX1_swapCost (wsX7_isNumber) := ggX1_swapCost_X7_isNumber
theorem dX1_swapCost_0 : decode cX1_swapCost 0 = .ok (.iload_n 0, 1) := by decide +kernel
theorem dX1_swapCost_1 : decode cX1_swapCost 1 = .ok (.iload_n 1, 1) := by decide +kernel
theorem dX1_swapCost_2 : decode cX1_swapCost 2 = .ok (.if_icmp .ne 5, 3) := by decide +kernel
theorem dX1_swapCost_5 : decode cX1_swapCost 5 = .ok (.iconst 0, 1) := by decide +kernel
theorem dX1_swapCost_6 : decode cX1_swapCost 6 = .ok (.ireturn, 1) := by decide +kernel
theorem dX1_swapCost_7 : decode cX1_swapCost 7 = .ok (.iload_n 0, 1) := by decide +kernel
theorem dX1_swapCost_8 : decode cX1_swapCost 8 = .ok (.invokestatic 37, 3) := by decide +kernel
theorem dX1_swapCost_11 : decode cX1_swapCost 11 = .ok (.ifCond .eq 10, 3) := by decide +kernel
theorem dX1_swapCost_14 : decode cX1_swapCost 14 = .ok (.iload_n 1, 1) := by decide +kernel
theorem dX1_swapCost_15 : decode cX1_swapCost 15 = .ok (.invokestatic 37, 3) := by decide +kernel
theorem dX1_swapCost_18 : decode cX1_swapCost 18 = .ok (.ifCond .ne 17, 3) := by decide +kernel
theorem dX1_swapCost_21 : decode cX1_swapCost 21 = .ok (.iload_n 0, 1) := by decide +kernel
theorem dX1_swapCost_22 : decode cX1_swapCost 22 = .ok (.invokestatic 41, 3) := by decide +kernel
theorem dX1_swapCost_25 : decode cX1_swapCost 25 = .ok (.ifCond .eq 14, 3) := by decide +kernel
theorem dX1_swapCost_28 : decode cX1_swapCost 28 = .ok (.iload_n 1, 1) := by decide +kernel
theorem dX1_swapCost_29 : decode cX1_swapCost 29 = .ok (.invokestatic 41, 3) := by decide +kernel
theorem dX1_swapCost_32 : decode cX1_swapCost 32 = .ok (.ifCond .eq 7, 3) := by decide +kernel
theorem dX1_swapCost_35 : decode cX1_swapCost 35 = .ok (.iconst 1, 1) := by decide +kernel
theorem dX1_swapCost_36 : decode cX1_swapCost 36 = .ok (.goto 4, 3) := by decide +kernel
theorem dX1_swapCost_39 : decode cX1_swapCost 39 = .ok (.iconst 0, 1) := by decide +kernel
theorem dX1_swapCost_40 : decode cX1_swapCost 40 = .ok (.istore_n 2, 1) := by decide +kernel
theorem dX1_swapCost_41 : decode cX1_swapCost 41 = .ok (.iload_n 2, 1) := by decide +kernel
theorem dX1_swapCost_42 : decode cX1_swapCost 42 = .ok (.ifCond .eq 7, 3) := by decide +kernel
theorem dX1_swapCost_45 : decode cX1_swapCost 45 = .ok (.iconst 1, 1) := by decide +kernel
theorem dX1_swapCost_46 : decode cX1_swapCost 46 = .ok (.goto 4, 3) := by decide +kernel
theorem dX1_swapCost_49 : decode cX1_swapCost 49 = .ok (.iconst 3, 1) := by decide +kernel
theorem dX1_swapCost_50 : decode cX1_swapCost 50 = .ok (.ireturn, 1) := by decide +kernel
end
section
set_option maxRecDepth 20000 in
theorem ggX2_init_X3_init : GoodIn wsX2_init wsX3_init := goodIn_r _ [15, 16, 2, 3, 8, 17, 18, 19, 20, 21, 22] (by decide +kernel) (by decide +kernel)
set_option maxRecDepth 20000 in
theorem gX2_init_X3_init_n11 : GoodIn wsX2_init (wsX3_init) := ggX2_init_X3_init
theorem dX2_init_0 : decode cX2_init 0 = .ok (.aload_n 0, 1) := by decide +kernel
theorem dX2_init_1 : decode cX2_init 1 = .ok (.invokespecial 3, 3) := by decide +kernel
theorem dX2_init_4 : decode cX2_init 4 = .ok (.aload_n 0, 1) := by decide +kernel
theorem dX2_init_5 : decode cX2_init 5 = .ok (.new 9, 3) := by decide +kernel
theorem dX2_init_8 : decode cX2_init 8 = .ok (.dup, 1) := by decide +kernel
theorem dX2_init_9 : decode cX2_init 9 = .ok (.invokespecial 11, 3) := by decide +kernel
theorem dX2_init_12 : decode cX2_init 12 = .ok (.putfield 12, 3) := by decide +kernel
theorem dX2_init_15 : decode cX2_init 15 = .ok (.aload_n 0, 1) := by decide +kernel
theorem dX2_init_16 : decode cX2_init 16 = .ok (.sipush 400, 3) := by decide +kernel
theorem dX2_init_19 : decode cX2_init 19 = .ok (.newarray .int, 2) := by decide +kernel
theorem dX2_init_21 : decode cX2_init 21 = .ok (.putfield 18, 3) := by decide +kernel
theorem dX2_init_24 : decode cX2_init 24 = .ok (.aload_n 0, 1) := by decide +kernel
theorem dX2_init_25 : decode cX2_init 25 = .ok (.iconst 0, 1) := by decide +kernel
theorem dX2_init_26 : decode cX2_init 26 = .ok (.putfield 22, 3) := by decide +kernel
theorem dX2_init_29 : decode cX2_init 29 = .ok (.aload_n 0, 1) := by decide +kernel
theorem dX2_init_30 : decode cX2_init 30 = .ok (.iconst 0, 1) := by decide +kernel
theorem dX2_init_31 : decode cX2_init 31 = .ok (.putfield 26, 3) := by decide +kernel
theorem dX2_init_34 : decode cX2_init 34 = .ok (.aload_n 0, 1) := by decide +kernel
theorem dX2_init_35 : decode cX2_init 35 = .ok (.iconst 0, 1) := by decide +kernel
theorem dX2_init_36 : decode cX2_init 36 = .ok (.putfield 29, 3) := by decide +kernel
theorem dX2_init_39 : decode cX2_init 39 = .ok (.aload_n 0, 1) := by decide +kernel
theorem dX2_init_40 : decode cX2_init 40 = .ok (.aload_n 1, 1) := by decide +kernel
theorem dX2_init_41 : decode cX2_init 41 = .ok (.putfield 32, 3) := by decide +kernel
theorem dX2_init_44 : decode cX2_init 44 = .ok (.return_, 1) := by decide +kernel
set_option maxRecDepth 20000 in
theorem ggX2_rowsAlike_X2_areThere : GoodIn wsX2_rowsAlike wsX2_areThere := goodIn_r _ [5, 6, 7, 8, 9, 10, 11, 12, 13, 14, 15, 16, 58, 59, 60, 61, 62, 63, 64, 65, 66, 67] (by decide +kernel) (by decide +kernel)
set_option maxRecDepth 20000 in
theorem gX2_rowsAlike_X2_areThere : GoodIn wsX2_rowsAlike (wsV RX2 36 RX2 yX2_areThere wsX2_areThere) := goodIn_app (goodIn_of _ (by decide +kernel)) ggX2_rowsAlike_X2_areThere
set_option maxRecDepth 20000 in
theorem ggX2_rowsAlike_X2_linesAlike : GoodIn wsX2_rowsAlike wsX2_linesAlike := goodIn_r _ [20, 21, 22, 23, 24, 25, 26, 27, 28, 29, 30, 31, 4, 32, 10, 33, 34, 35, 14, 36, 37, 16, 38, 39, 40, 41, 42, 43, 44, 45, 46, 47, 48, 49, 50, 51, 52, 53, 54, 55, 56, 57, 58, 59, 60, 61, 62, 63, 68, 69, 70, 64, 65, 66, 67] (by decide +kernel) (by decide +kernel)
set_option maxRecDepth 20000 in
theorem gX2_rowsAlike_X2_linesAlike : GoodIn wsX2_rowsAlike (wsV RX2 40 RX2 yX2_linesAlike wsX2_linesAlike) := goodIn_app (goodIn_of _ (by decide +kernel)) ggX2_rowsAlike_X2_linesAlike
theorem dX2_rowsAlike_0 : decode cX2_rowsAlike 0 = .ok (.aload_n 0, 1) := by decide +kernel
theorem dX2_rowsAlike_1 : decode cX2_rowsAlike 1 = .ok (.iload_n 3, 1) := by decide +kernel
theorem dX2_rowsAlike_2 : decode cX2_rowsAlike 2 = .ok (.iload 4, 2) := by decide +kernel
theorem dX2_rowsAlike_4 : decode cX2_rowsAlike 4 = .ok (.iload 5, 2) := by decide +kernel
theorem dX2_rowsAlike_6 : decode cX2_rowsAlike 6 = .ok (.invokevirtual 36, 3) := by decide +kernel
theorem dX2_rowsAlike_9 : decode cX2_rowsAlike 9 = .ok (.ifCond .eq 23, 3) := by decide +kernel
theorem dX2_rowsAlike_12 : decode cX2_rowsAlike 12 = .ok (.aload_n 0, 1) := by decide +kernel
theorem dX2_rowsAlike_13 : decode cX2_rowsAlike 13 = .ok (.iload_n 1, 1) := by decide +kernel
theorem dX2_rowsAlike_14 : decode cX2_rowsAlike 14 = .ok (.iload_n 2, 1) := by decide +kernel
theorem dX2_rowsAlike_15 : decode cX2_rowsAlike 15 = .ok (.iload_n 3, 1) := by decide +kernel
theorem dX2_rowsAlike_16 : decode cX2_rowsAlike 16 = .ok (.iload 4, 2) := by decide +kernel
theorem dX2_rowsAlike_18 : decode cX2_rowsAlike 18 = .ok (.iload 5, 2) := by decide +kernel
theorem dX2_rowsAlike_20 : decode cX2_rowsAlike 20 = .ok (.invokevirtual 40, 3) := by decide +kernel
theorem dX2_rowsAlike_23 : decode cX2_rowsAlike 23 = .ok (.iload 5, 2) := by decide +kernel
theorem dX2_rowsAlike_25 : decode cX2_rowsAlike 25 = .ok (.if_icmp .ne 7, 3) := by decide +kernel
theorem dX2_rowsAlike_28 : decode cX2_rowsAlike 28 = .ok (.iconst 1, 1) := by decide +kernel
theorem dX2_rowsAlike_29 : decode cX2_rowsAlike 29 = .ok (.goto 4, 3) := by decide +kernel
theorem dX2_rowsAlike_32 : decode cX2_rowsAlike 32 = .ok (.iconst 0, 1) := by decide +kernel
theorem dX2_rowsAlike_33 : decode cX2_rowsAlike 33 = .ok (.ireturn, 1) := by decide +kernel
set_option maxRecDepth 20000 in
theorem ggX2_areThere_X0_lines : GoodIn wsX2_areThere wsX0_lines := goodIn_r _ [10, 11, 18, 19, 20, 21] (by decide +kernel) (by decide +kernel)
set_option maxRecDepth 20000 in
theorem gX2_areThere_X0_lines : GoodIn wsX2_areThere (wsV RX2 50 RX0 yX0_lines wsX0_lines) := goodIn_app (goodIn_of _ (by decide +kernel)) ggX2_areThere_X0_lines
theorem dX2_areThere_0 : decode cX2_areThere 0 = .ok (.iload_n 1, 1) := by decide +kernel
theorem dX2_areThere_1 : decode cX2_areThere 1 = .ok (.ifCond .lt 28, 3) := by decide +kernel
theorem dX2_areThere_4 : decode cX2_areThere 4 = .ok (.iload_n 2, 1) := by decide +kernel
theorem dX2_areThere_5 : decode cX2_areThere 5 = .ok (.ifCond .lt 24, 3) := by decide +kernel
theorem dX2_areThere_8 : decode cX2_areThere 8 = .ok (.iload_n 1, 1) := by decide +kernel
theorem dX2_areThere_9 : decode cX2_areThere 9 = .ok (.iload_n 2, 1) := by decide +kernel
theorem dX2_areThere_10 : decode cX2_areThere 10 = .ok (.invokestatic 44, 3) := by decide +kernel
theorem dX2_areThere_13 : decode cX2_areThere 13 = .ok (.iload_n 3, 1) := by decide +kernel
theorem dX2_areThere_14 : decode cX2_areThere 14 = .ok (.iadd, 1) := by decide +kernel
theorem dX2_areThere_15 : decode cX2_areThere 15 = .ok (.aload_n 0, 1) := by decide +kernel
theorem dX2_areThere_16 : decode cX2_areThere 16 = .ok (.getfield 32, 3) := by decide +kernel
theorem dX2_areThere_19 : decode cX2_areThere 19 = .ok (.invokevirtual 50, 3) := by decide +kernel
theorem dX2_areThere_22 : decode cX2_areThere 22 = .ok (.if_icmp .gt 7, 3) := by decide +kernel
theorem dX2_areThere_25 : decode cX2_areThere 25 = .ok (.iconst 1, 1) := by decide +kernel
theorem dX2_areThere_26 : decode cX2_areThere 26 = .ok (.goto 4, 3) := by decide +kernel
theorem dX2_areThere_29 : decode cX2_areThere 29 = .ok (.iconst 0, 1) := by decide +kernel
theorem dX2_areThere_30 : decode cX2_areThere 30 = .ok (.ireturn, 1) := by decide +kernel
set_option maxRecDepth 20000 in
theorem ggX2_rowsAlikeBut_X3_clear : GoodIn wsX2_rowsAlikeBut wsX3_clear := goodIn_r _ [6, 7, 8, 48, 49, 50] (by decide +kernel) (by decide +kernel)
set_option maxRecDepth 20000 in
theorem gX2_rowsAlikeBut_X3_clear : GoodIn wsX2_rowsAlikeBut (wsV RX2 56 RX3 yX3_clear wsX3_clear) := goodIn_app (goodIn_of _ (by decide +kernel)) ggX2_rowsAlikeBut_X3_clear
set_option maxRecDepth 20000 in
theorem ggX2_rowsAlikeBut_X2_lineFits : GoodIn wsX2_rowsAlikeBut wsX2_lineFits := goodIn_r _ [13, 14, 15, 16, 17, 18, 19, 20, 21, 22, 23, 24, 25, 26, 27, 28, 29, 30, 12, 31, 1, 32, 33, 34, 35, 36, 37, 5, 38, 7, 39, 8, 40, 41, 42, 43, 44, 45, 46, 47, 51, 52, 53, 54, 48, 49, 50] (by decide +kernel) (by decide +kernel)
set_option maxRecDepth 20000 in
theorem gX2_rowsAlikeBut_X2_lineFits : GoodIn wsX2_rowsAlikeBut (wsV RX2 59 RX2 yX2_lineFits wsX2_lineFits) := goodIn_app (goodIn_of _ (by decide +kernel)) ggX2_rowsAlikeBut_X2_lineFits
theorem dX2_rowsAlikeBut_0 : decode cX2_rowsAlikeBut 0 = .ok (.aload_n 0, 1) := by decide +kernel
theorem dX2_rowsAlikeBut_1 : decode cX2_rowsAlikeBut 1 = .ok (.getfield 12, 3) := by decide +kernel
theorem dX2_rowsAlikeBut_4 : decode cX2_rowsAlikeBut 4 = .ok (.invokevirtual 56, 3) := by decide +kernel
theorem dX2_rowsAlikeBut_7 : decode cX2_rowsAlikeBut 7 = .ok (.iconst 0, 1) := by decide +kernel
theorem dX2_rowsAlikeBut_8 : decode cX2_rowsAlikeBut 8 = .ok (.istore 6, 2) := by decide +kernel
theorem dX2_rowsAlikeBut_10 : decode cX2_rowsAlikeBut 10 = .ok (.iload 6, 2) := by decide +kernel
theorem dX2_rowsAlikeBut_12 : decode cX2_rowsAlikeBut 12 = .ok (.iload 4, 2) := by decide +kernel
theorem dX2_rowsAlikeBut_14 : decode cX2_rowsAlikeBut 14 = .ok (.if_icmp .ge 40, 3) := by decide +kernel
theorem dX2_rowsAlikeBut_17 : decode cX2_rowsAlikeBut 17 = .ok (.iload 5, 2) := by decide +kernel
theorem dX2_rowsAlikeBut_19 : decode cX2_rowsAlikeBut 19 = .ok (.iload 6, 2) := by decide +kernel
theorem dX2_rowsAlikeBut_21 : decode cX2_rowsAlikeBut 21 = .ok (.bipush 10, 2) := by decide +kernel
theorem dX2_rowsAlikeBut_23 : decode cX2_rowsAlikeBut 23 = .ok (.imul, 1) := by decide +kernel
theorem dX2_rowsAlikeBut_24 : decode cX2_rowsAlikeBut 24 = .ok (.isub, 1) := by decide +kernel
theorem dX2_rowsAlikeBut_25 : decode cX2_rowsAlikeBut 25 = .ok (.istore 7, 2) := by decide +kernel
theorem dX2_rowsAlikeBut_27 : decode cX2_rowsAlikeBut 27 = .ok (.aload_n 0, 1) := by decide +kernel
theorem dX2_rowsAlikeBut_28 : decode cX2_rowsAlikeBut 28 = .ok (.iload_n 1, 1) := by decide +kernel
theorem dX2_rowsAlikeBut_29 : decode cX2_rowsAlikeBut 29 = .ok (.iconst 1, 1) := by decide +kernel
theorem dX2_rowsAlikeBut_30 : decode cX2_rowsAlikeBut 30 = .ok (.iload_n 2, 1) := by decide +kernel
theorem dX2_rowsAlikeBut_31 : decode cX2_rowsAlikeBut 31 = .ok (.iload 6, 2) := by decide +kernel
theorem dX2_rowsAlikeBut_33 : decode cX2_rowsAlikeBut 33 = .ok (.iadd, 1) := by decide +kernel
theorem dX2_rowsAlikeBut_34 : decode cX2_rowsAlikeBut 34 = .ok (.iload_n 3, 1) := by decide +kernel
theorem dX2_rowsAlikeBut_35 : decode cX2_rowsAlikeBut 35 = .ok (.iload 6, 2) := by decide +kernel
theorem dX2_rowsAlikeBut_37 : decode cX2_rowsAlikeBut 37 = .ok (.iadd, 1) := by decide +kernel
theorem dX2_rowsAlikeBut_38 : decode cX2_rowsAlikeBut 38 = .ok (.iload 7, 2) := by decide +kernel
theorem dX2_rowsAlikeBut_40 : decode cX2_rowsAlikeBut 40 = .ok (.invokevirtual 59, 3) := by decide +kernel
theorem dX2_rowsAlikeBut_43 : decode cX2_rowsAlikeBut 43 = .ok (.ifCond .ne 5, 3) := by decide +kernel
theorem dX2_rowsAlikeBut_46 : decode cX2_rowsAlikeBut 46 = .ok (.iconst 0, 1) := by decide +kernel
theorem dX2_rowsAlikeBut_47 : decode cX2_rowsAlikeBut 47 = .ok (.ireturn, 1) := by decide +kernel
theorem dX2_rowsAlikeBut_48 : decode cX2_rowsAlikeBut 48 = .ok (.iinc 6 1, 3) := by decide +kernel
theorem dX2_rowsAlikeBut_51 : decode cX2_rowsAlikeBut 51 = .ok (.goto (-41), 3) := by decide +kernel
theorem dX2_rowsAlikeBut_54 : decode cX2_rowsAlikeBut 54 = .ok (.iconst 1, 1) := by decide +kernel
theorem dX2_rowsAlikeBut_55 : decode cX2_rowsAlikeBut 55 = .ok (.ireturn, 1) := by decide +kernel
set_option maxRecDepth 20000 in
theorem ggX2_linesAlike_X3_clear : GoodIn wsX2_linesAlike wsX3_clear := goodIn_r _ [6, 7, 8, 48, 49, 50] (by decide +kernel) (by decide +kernel)
set_option maxRecDepth 20000 in
theorem gX2_linesAlike_X3_clear : GoodIn wsX2_linesAlike (wsV RX2 56 RX3 yX3_clear wsX3_clear) := goodIn_app (goodIn_of _ (by decide +kernel)) ggX2_linesAlike_X3_clear
set_option maxRecDepth 20000 in
theorem ggX2_linesAlike_X2_lineFits : GoodIn wsX2_linesAlike wsX2_lineFits := goodIn_r _ [13, 14, 15, 16, 17, 18, 19, 20, 21, 22, 23, 24, 25, 26, 27, 28, 29, 30, 12, 31, 1, 32, 33, 34, 35, 36, 37, 5, 38, 7, 39, 8, 40, 41, 42, 43, 44, 45, 46, 47, 51, 52, 53, 54, 48, 49, 50] (by decide +kernel) (by decide +kernel)
set_option maxRecDepth 20000 in
theorem gX2_linesAlike_X2_lineFits : GoodIn wsX2_linesAlike (wsV RX2 59 RX2 yX2_lineFits wsX2_lineFits) := goodIn_app (goodIn_of _ (by decide +kernel)) ggX2_linesAlike_X2_lineFits
theorem dX2_linesAlike_0 : decode cX2_linesAlike 0 = .ok (.aload_n 0, 1) := by decide +kernel
theorem dX2_linesAlike_1 : decode cX2_linesAlike 1 = .ok (.getfield 12, 3) := by decide +kernel
theorem dX2_linesAlike_4 : decode cX2_linesAlike 4 = .ok (.invokevirtual 56, 3) := by decide +kernel
theorem dX2_linesAlike_7 : decode cX2_linesAlike 7 = .ok (.iconst 0, 1) := by decide +kernel
theorem dX2_linesAlike_8 : decode cX2_linesAlike 8 = .ok (.istore 6, 2) := by decide +kernel
theorem dX2_linesAlike_10 : decode cX2_linesAlike 10 = .ok (.iload 6, 2) := by decide +kernel
theorem dX2_linesAlike_12 : decode cX2_linesAlike 12 = .ok (.iload 5, 2) := by decide +kernel
theorem dX2_linesAlike_14 : decode cX2_linesAlike 14 = .ok (.if_icmp .ge 31, 3) := by decide +kernel
theorem dX2_linesAlike_17 : decode cX2_linesAlike 17 = .ok (.aload_n 0, 1) := by decide +kernel
theorem dX2_linesAlike_18 : decode cX2_linesAlike 18 = .ok (.iload_n 1, 1) := by decide +kernel
theorem dX2_linesAlike_19 : decode cX2_linesAlike 19 = .ok (.iload_n 2, 1) := by decide +kernel
theorem dX2_linesAlike_20 : decode cX2_linesAlike 20 = .ok (.iload_n 3, 1) := by decide +kernel
theorem dX2_linesAlike_21 : decode cX2_linesAlike 21 = .ok (.iload 6, 2) := by decide +kernel
theorem dX2_linesAlike_23 : decode cX2_linesAlike 23 = .ok (.iadd, 1) := by decide +kernel
theorem dX2_linesAlike_24 : decode cX2_linesAlike 24 = .ok (.iload 4, 2) := by decide +kernel
theorem dX2_linesAlike_26 : decode cX2_linesAlike 26 = .ok (.iload 6, 2) := by decide +kernel
theorem dX2_linesAlike_28 : decode cX2_linesAlike 28 = .ok (.iadd, 1) := by decide +kernel
theorem dX2_linesAlike_29 : decode cX2_linesAlike 29 = .ok (.iconst (-1), 1) := by decide +kernel
theorem dX2_linesAlike_30 : decode cX2_linesAlike 30 = .ok (.invokevirtual 59, 3) := by decide +kernel
theorem dX2_linesAlike_33 : decode cX2_linesAlike 33 = .ok (.ifCond .ne 6, 3) := by decide +kernel
theorem dX2_linesAlike_36 : decode cX2_linesAlike 36 = .ok (.iload 6, 2) := by decide +kernel
theorem dX2_linesAlike_38 : decode cX2_linesAlike 38 = .ok (.ireturn, 1) := by decide +kernel
theorem dX2_linesAlike_39 : decode cX2_linesAlike 39 = .ok (.iinc 6 1, 3) := by decide +kernel
theorem dX2_linesAlike_42 : decode cX2_linesAlike 42 = .ok (.goto (-32), 3) := by decide +kernel
theorem dX2_linesAlike_45 : decode cX2_linesAlike 45 = .ok (.iload 5, 2) := by decide +kernel
theorem dX2_linesAlike_47 : decode cX2_linesAlike 47 = .ok (.ireturn, 1) := by decide +kernel
set_option maxRecDepth 20000 in
theorem ggX2_lineFits_X0_sizeOf : GoodIn wsX2_lineFits wsX0_sizeOf := goodIn_r _ [6, 7, 8, 9, 40, 41, 42, 43] (by decide +kernel) (by decide +kernel)
set_option maxRecDepth 20000 in
theorem gX2_lineFits_X0_sizeOf : GoodIn wsX2_lineFits (wsV RX2 63 RX0 yX0_sizeOf wsX0_sizeOf) := goodIn_app (goodIn_of _ (by decide +kernel)) ggX2_lineFits_X0_sizeOf
set_option maxRecDepth 20000 in
theorem ggX2_lineFits_X0_signAt : GoodIn wsX2_lineFits wsX0_signAt := goodIn_r _ [13, 7, 8, 9, 14, 40, 41, 42, 43] (by decide +kernel) (by decide +kernel)
set_option maxRecDepth 20000 in
theorem gX2_lineFits_X0_signAt : GoodIn wsX2_lineFits (wsV RX2 66 RX0 yX0_signAt wsX0_signAt) := goodIn_app (goodIn_of _ (by decide +kernel)) ggX2_lineFits_X0_signAt
set_option maxRecDepth 20000 in
theorem ggX2_lineFits_X2_signFits : GoodIn wsX2_lineFits wsX2_signFits := goodIn_r _ [19, 20, 21, 22, 23, 24, 25, 26, 27, 28, 29, 30, 31, 32, 33, 34, 35, 36, 37, 38, 39, 44, 45, 46] (by decide +kernel) (by decide +kernel)
set_option maxRecDepth 20000 in
theorem gX2_lineFits_X2_signFits : GoodIn wsX2_lineFits (wsV RX2 70 RX2 yX2_signFits wsX2_signFits) := goodIn_app (goodIn_of _ (by decide +kernel)) ggX2_lineFits_X2_signFits
theorem dX2_lineFits_0 : decode cX2_lineFits 0 = .ok (.aload_n 0, 1) := by decide +kernel
theorem dX2_lineFits_1 : decode cX2_lineFits 1 = .ok (.getfield 32, 3) := by decide +kernel
theorem dX2_lineFits_4 : decode cX2_lineFits 4 = .ok (.iload_n 1, 1) := by decide +kernel
theorem dX2_lineFits_5 : decode cX2_lineFits 5 = .ok (.iload_n 3, 1) := by decide +kernel
theorem dX2_lineFits_6 : decode cX2_lineFits 6 = .ok (.invokevirtual 63, 3) := by decide +kernel
theorem dX2_lineFits_9 : decode cX2_lineFits 9 = .ok (.istore 6, 2) := by decide +kernel
theorem dX2_lineFits_11 : decode cX2_lineFits 11 = .ok (.aload_n 0, 1) := by decide +kernel
theorem dX2_lineFits_12 : decode cX2_lineFits 12 = .ok (.getfield 32, 3) := by decide +kernel
theorem dX2_lineFits_15 : decode cX2_lineFits 15 = .ok (.iload_n 1, 1) := by decide +kernel
theorem dX2_lineFits_16 : decode cX2_lineFits 16 = .ok (.iload 4, 2) := by decide +kernel
theorem dX2_lineFits_18 : decode cX2_lineFits 18 = .ok (.invokevirtual 63, 3) := by decide +kernel
theorem dX2_lineFits_21 : decode cX2_lineFits 21 = .ok (.iload 6, 2) := by decide +kernel
theorem dX2_lineFits_23 : decode cX2_lineFits 23 = .ok (.if_icmp .eq 5, 3) := by decide +kernel
theorem dX2_lineFits_26 : decode cX2_lineFits 26 = .ok (.iconst 0, 1) := by decide +kernel
theorem dX2_lineFits_27 : decode cX2_lineFits 27 = .ok (.ireturn, 1) := by decide +kernel
theorem dX2_lineFits_28 : decode cX2_lineFits 28 = .ok (.iconst 0, 1) := by decide +kernel
theorem dX2_lineFits_29 : decode cX2_lineFits 29 = .ok (.istore 7, 2) := by decide +kernel
theorem dX2_lineFits_31 : decode cX2_lineFits 31 = .ok (.iload 7, 2) := by decide +kernel
theorem dX2_lineFits_33 : decode cX2_lineFits 33 = .ok (.iload 6, 2) := by decide +kernel
theorem dX2_lineFits_35 : decode cX2_lineFits 35 = .ok (.if_icmp .ge 57, 3) := by decide +kernel
theorem dX2_lineFits_38 : decode cX2_lineFits 38 = .ok (.aload_n 0, 1) := by decide +kernel
theorem dX2_lineFits_39 : decode cX2_lineFits 39 = .ok (.getfield 32, 3) := by decide +kernel
theorem dX2_lineFits_42 : decode cX2_lineFits 42 = .ok (.iload_n 1, 1) := by decide +kernel
theorem dX2_lineFits_43 : decode cX2_lineFits 43 = .ok (.iload_n 3, 1) := by decide +kernel
theorem dX2_lineFits_44 : decode cX2_lineFits 44 = .ok (.iload 7, 2) := by decide +kernel
theorem dX2_lineFits_46 : decode cX2_lineFits 46 = .ok (.invokevirtual 66, 3) := by decide +kernel
theorem dX2_lineFits_49 : decode cX2_lineFits 49 = .ok (.istore 8, 2) := by decide +kernel
theorem dX2_lineFits_51 : decode cX2_lineFits 51 = .ok (.aload_n 0, 1) := by decide +kernel
theorem dX2_lineFits_52 : decode cX2_lineFits 52 = .ok (.getfield 32, 3) := by decide +kernel
theorem dX2_lineFits_55 : decode cX2_lineFits 55 = .ok (.iload_n 1, 1) := by decide +kernel
theorem dX2_lineFits_56 : decode cX2_lineFits 56 = .ok (.iload 4, 2) := by decide +kernel
theorem dX2_lineFits_58 : decode cX2_lineFits 58 = .ok (.iload 7, 2) := by decide +kernel
theorem dX2_lineFits_60 : decode cX2_lineFits 60 = .ok (.invokevirtual 66, 3) := by decide +kernel
theorem dX2_lineFits_63 : decode cX2_lineFits 63 = .ok (.istore 9, 2) := by decide +kernel
theorem dX2_lineFits_65 : decode cX2_lineFits 65 = .ok (.iload 7, 2) := by decide +kernel
theorem dX2_lineFits_67 : decode cX2_lineFits 67 = .ok (.iload 5, 2) := by decide +kernel
theorem dX2_lineFits_69 : decode cX2_lineFits 69 = .ok (.if_icmp .eq 17, 3) := by decide +kernel
theorem dX2_lineFits_72 : decode cX2_lineFits 72 = .ok (.aload_n 0, 1) := by decide +kernel
theorem dX2_lineFits_73 : decode cX2_lineFits 73 = .ok (.iload_n 2, 1) := by decide +kernel
theorem dX2_lineFits_74 : decode cX2_lineFits 74 = .ok (.iload 8, 2) := by decide +kernel
theorem dX2_lineFits_76 : decode cX2_lineFits 76 = .ok (.iload 9, 2) := by decide +kernel
theorem dX2_lineFits_78 : decode cX2_lineFits 78 = .ok (.invokevirtual 70, 3) := by decide +kernel
theorem dX2_lineFits_81 : decode cX2_lineFits 81 = .ok (.ifCond .ne 5, 3) := by decide +kernel
theorem dX2_lineFits_84 : decode cX2_lineFits 84 = .ok (.iconst 0, 1) := by decide +kernel
theorem dX2_lineFits_85 : decode cX2_lineFits 85 = .ok (.ireturn, 1) := by decide +kernel
theorem dX2_lineFits_86 : decode cX2_lineFits 86 = .ok (.iinc 7 1, 3) := by decide +kernel
theorem dX2_lineFits_89 : decode cX2_lineFits 89 = .ok (.goto (-58), 3) := by decide +kernel
theorem dX2_lineFits_92 : decode cX2_lineFits 92 = .ok (.iconst 1, 1) := by decide +kernel
theorem dX2_lineFits_93 : decode cX2_lineFits 93 = .ok (.ireturn, 1) := by decide +kernel
set_option maxRecDepth 20000 in
theorem ggX2_signFits_X7_isName : GoodIn wsX2_signFits wsX7_isName := goodIn_r _ [4] (by decide +kernel) (by decide +kernel)
set_option maxRecDepth 20000 in
theorem gX2_signFits_X7_isName_n73 : GoodIn wsX2_signFits (wsX7_isName) := ggX2_signFits_X7_isName
set_option maxRecDepth 20000 in
theorem ggX2_signFits_X3_join : GoodIn wsX2_signFits wsX3_join := goodIn_r _ [9, 10, 11, 12, 2, 3, 4, 21, 22, 23] (by decide +kernel) (by decide +kernel)
set_option maxRecDepth 20000 in
theorem gX2_signFits_X3_join : GoodIn wsX2_signFits (wsV RX2 77 RX3 yX3_join wsX3_join) := goodIn_app (goodIn_of _ (by decide +kernel)) ggX2_signFits_X3_join
set_option maxRecDepth 20000 in
theorem ggX2_signFits_X7_isNumber : GoodIn wsX2_signFits wsX7_isNumber := goodIn_r _ [14] (by decide +kernel) (by decide +kernel)
set_option maxRecDepth 20000 in
theorem gX2_signFits_X7_isNumber_n81 : GoodIn wsX2_signFits (wsX7_isNumber) := ggX2_signFits_X7_isNumber
theorem dX2_signFits_0 : decode cX2_signFits 0 = .ok (.iload_n 1, 1) := by decide +kernel
theorem dX2_signFits_1 : decode cX2_signFits 1 = .ok (.ifCond .ne 14, 3) := by decide +kernel
theorem dX2_signFits_4 : decode cX2_signFits 4 = .ok (.iload_n 2, 1) := by decide +kernel
theorem dX2_signFits_5 : decode cX2_signFits 5 = .ok (.iload_n 3, 1) := by decide +kernel
theorem dX2_signFits_6 : decode cX2_signFits 6 = .ok (.if_icmp .ne 7, 3) := by decide +kernel
theorem dX2_signFits_9 : decode cX2_signFits 9 = .ok (.iconst 1, 1) := by decide +kernel
theorem dX2_signFits_10 : decode cX2_signFits 10 = .ok (.goto 4, 3) := by decide +kernel
theorem dX2_signFits_13 : decode cX2_signFits 13 = .ok (.iconst 0, 1) := by decide +kernel
theorem dX2_signFits_14 : decode cX2_signFits 14 = .ok (.ireturn, 1) := by decide +kernel
theorem dX2_signFits_15 : decode cX2_signFits 15 = .ok (.iload_n 2, 1) := by decide +kernel
theorem dX2_signFits_16 : decode cX2_signFits 16 = .ok (.invokestatic 73, 3) := by decide +kernel
theorem dX2_signFits_19 : decode cX2_signFits 19 = .ok (.ifCond .eq 13, 3) := by decide +kernel
theorem dX2_signFits_22 : decode cX2_signFits 22 = .ok (.aload_n 0, 1) := by decide +kernel
theorem dX2_signFits_23 : decode cX2_signFits 23 = .ok (.getfield 12, 3) := by decide +kernel
theorem dX2_signFits_26 : decode cX2_signFits 26 = .ok (.iload_n 2, 1) := by decide +kernel
theorem dX2_signFits_27 : decode cX2_signFits 27 = .ok (.iload_n 3, 1) := by decide +kernel
theorem dX2_signFits_28 : decode cX2_signFits 28 = .ok (.invokevirtual 77, 3) := by decide +kernel
theorem dX2_signFits_31 : decode cX2_signFits 31 = .ok (.ireturn, 1) := by decide +kernel
theorem dX2_signFits_32 : decode cX2_signFits 32 = .ok (.iload_n 1, 1) := by decide +kernel
theorem dX2_signFits_33 : decode cX2_signFits 33 = .ok (.iconst 2, 1) := by decide +kernel
theorem dX2_signFits_34 : decode cX2_signFits 34 = .ok (.if_icmp .ne 15, 3) := by decide +kernel
theorem dX2_signFits_37 : decode cX2_signFits 37 = .ok (.iload_n 2, 1) := by decide +kernel
theorem dX2_signFits_38 : decode cX2_signFits 38 = .ok (.invokestatic 81, 3) := by decide +kernel
theorem dX2_signFits_41 : decode cX2_signFits 41 = .ok (.ifCond .eq 8, 3) := by decide +kernel
theorem dX2_signFits_44 : decode cX2_signFits 44 = .ok (.iload_n 3, 1) := by decide +kernel
theorem dX2_signFits_45 : decode cX2_signFits 45 = .ok (.invokestatic 81, 3) := by decide +kernel
theorem dX2_signFits_48 : decode cX2_signFits 48 = .ok (.ireturn, 1) := by decide +kernel
theorem dX2_signFits_49 : decode cX2_signFits 49 = .ok (.iload_n 2, 1) := by decide +kernel
theorem dX2_signFits_50 : decode cX2_signFits 50 = .ok (.iload_n 3, 1) := by decide +kernel
theorem dX2_signFits_51 : decode cX2_signFits 51 = .ok (.if_icmp .ne 7, 3) := by decide +kernel
theorem dX2_signFits_54 : decode cX2_signFits 54 = .ok (.iconst 1, 1) := by decide +kernel
theorem dX2_signFits_55 : decode cX2_signFits 55 = .ok (.goto 4, 3) := by decide +kernel
theorem dX2_signFits_58 : decode cX2_signFits 58 = .ok (.iconst 0, 1) := by decide +kernel
theorem dX2_signFits_59 : decode cX2_signFits 59 = .ok (.ireturn, 1) := by decide +kernel
set_option maxRecDepth 20000 in
theorem ggX2_compareAll_X0_lines : GoodIn wsX2_compareAll wsX0_lines := goodIn_r _ [6, 7, 65, 66, 67, 68] (by decide +kernel) (by decide +kernel)
set_option maxRecDepth 20000 in
theorem gX2_compareAll_X0_lines : GoodIn wsX2_compareAll (wsV RX2 50 RX0 yX0_lines wsX0_lines) := goodIn_app (goodIn_of _ (by decide +kernel)) ggX2_compareAll_X0_lines
set_option maxRecDepth 20000 in
theorem ggX2_compareAll_X2_setReach : GoodIn wsX2_compareAll wsX2_setReach := goodIn_r _ [12, 1, 13, 14, 15, 16, 5, 17, 7, 59, 60, 61, 62, 63, 64, 65, 66, 67, 68] (by decide +kernel) (by decide +kernel)
set_option maxRecDepth 20000 in
theorem gX2_compareAll_X2_setReach : GoodIn wsX2_compareAll (wsV RX2 84 RX2 yX2_setReach wsX2_setReach) := goodIn_app (goodIn_of _ (by decide +kernel)) ggX2_compareAll_X2_setReach
set_option maxRecDepth 20000 in
theorem ggX2_compareAll_X2_linesAlike : GoodIn wsX2_compareAll wsX2_linesAlike := goodIn_r _ [21, 22, 23, 24, 25, 26, 27, 28, 29, 30, 31, 32, 11, 33, 1, 34, 35, 36, 5, 37, 38, 7, 39, 40, 41, 42, 43, 44, 45, 46, 47, 48, 49, 50, 51, 52, 53, 54, 55, 56, 57, 58, 59, 60, 61, 62, 63, 64, 69, 70, 71, 65, 66, 67, 68] (by decide +kernel) (by decide +kernel)
set_option maxRecDepth 20000 in
theorem gX2_compareAll_X2_linesAlike : GoodIn wsX2_compareAll (wsV RX2 40 RX2 yX2_linesAlike wsX2_linesAlike) := goodIn_app (goodIn_of _ (by decide +kernel)) ggX2_compareAll_X2_linesAlike
theorem dX2_compareAll_0 : decode cX2_compareAll 0 = .ok (.aload_n 0, 1) := by decide +kernel
theorem dX2_compareAll_1 : decode cX2_compareAll 1 = .ok (.getfield 32, 3) := by decide +kernel
theorem dX2_compareAll_4 : decode cX2_compareAll 4 = .ok (.invokevirtual 50, 3) := by decide +kernel
theorem dX2_compareAll_7 : decode cX2_compareAll 7 = .ok (.istore_n 3, 1) := by decide +kernel
theorem dX2_compareAll_8 : decode cX2_compareAll 8 = .ok (.iconst 0, 1) := by decide +kernel
theorem dX2_compareAll_9 : decode cX2_compareAll 9 = .ok (.istore 4, 2) := by decide +kernel
theorem dX2_compareAll_11 : decode cX2_compareAll 11 = .ok (.iload 4, 2) := by decide +kernel
theorem dX2_compareAll_13 : decode cX2_compareAll 13 = .ok (.iload_n 3, 1) := by decide +kernel
theorem dX2_compareAll_14 : decode cX2_compareAll 14 = .ok (.if_icmp .ge 75, 3) := by decide +kernel
theorem dX2_compareAll_17 : decode cX2_compareAll 17 = .ok (.aload_n 0, 1) := by decide +kernel
theorem dX2_compareAll_18 : decode cX2_compareAll 18 = .ok (.iload 4, 2) := by decide +kernel
theorem dX2_compareAll_20 : decode cX2_compareAll 20 = .ok (.iload 4, 2) := by decide +kernel
theorem dX2_compareAll_22 : decode cX2_compareAll 22 = .ok (.iload_n 3, 1) := by decide +kernel
theorem dX2_compareAll_23 : decode cX2_compareAll 23 = .ok (.iload 4, 2) := by decide +kernel
theorem dX2_compareAll_25 : decode cX2_compareAll 25 = .ok (.isub, 1) := by decide +kernel
theorem dX2_compareAll_26 : decode cX2_compareAll 26 = .ok (.invokevirtual 84, 3) := by decide +kernel
theorem dX2_compareAll_29 : decode cX2_compareAll 29 = .ok (.iload 4, 2) := by decide +kernel
theorem dX2_compareAll_31 : decode cX2_compareAll 31 = .ok (.iconst 1, 1) := by decide +kernel
theorem dX2_compareAll_32 : decode cX2_compareAll 32 = .ok (.iadd, 1) := by decide +kernel
theorem dX2_compareAll_33 : decode cX2_compareAll 33 = .ok (.istore 5, 2) := by decide +kernel
theorem dX2_compareAll_35 : decode cX2_compareAll 35 = .ok (.iload 5, 2) := by decide +kernel
theorem dX2_compareAll_37 : decode cX2_compareAll 37 = .ok (.iload_n 3, 1) := by decide +kernel
theorem dX2_compareAll_38 : decode cX2_compareAll 38 = .ok (.if_icmp .ge 45, 3) := by decide +kernel
theorem dX2_compareAll_41 : decode cX2_compareAll 41 = .ok (.aload_n 0, 1) := by decide +kernel
theorem dX2_compareAll_42 : decode cX2_compareAll 42 = .ok (.iload_n 1, 1) := by decide +kernel
theorem dX2_compareAll_43 : decode cX2_compareAll 43 = .ok (.iload_n 2, 1) := by decide +kernel
theorem dX2_compareAll_44 : decode cX2_compareAll 44 = .ok (.iload 4, 2) := by decide +kernel
theorem dX2_compareAll_46 : decode cX2_compareAll 46 = .ok (.iload 5, 2) := by decide +kernel
theorem dX2_compareAll_48 : decode cX2_compareAll 48 = .ok (.iload_n 3, 1) := by decide +kernel
theorem dX2_compareAll_49 : decode cX2_compareAll 49 = .ok (.iload 5, 2) := by decide +kernel
theorem dX2_compareAll_51 : decode cX2_compareAll 51 = .ok (.isub, 1) := by decide +kernel
theorem dX2_compareAll_52 : decode cX2_compareAll 52 = .ok (.invokevirtual 40, 3) := by decide +kernel
theorem dX2_compareAll_55 : decode cX2_compareAll 55 = .ok (.istore 6, 2) := by decide +kernel
theorem dX2_compareAll_57 : decode cX2_compareAll 57 = .ok (.aload_n 0, 1) := by decide +kernel
theorem dX2_compareAll_58 : decode cX2_compareAll 58 = .ok (.iload 4, 2) := by decide +kernel
theorem dX2_compareAll_60 : decode cX2_compareAll 60 = .ok (.iload 5, 2) := by decide +kernel
theorem dX2_compareAll_62 : decode cX2_compareAll 62 = .ok (.iload 6, 2) := by decide +kernel
theorem dX2_compareAll_64 : decode cX2_compareAll 64 = .ok (.invokevirtual 84, 3) := by decide +kernel
theorem dX2_compareAll_67 : decode cX2_compareAll 67 = .ok (.aload_n 0, 1) := by decide +kernel
theorem dX2_compareAll_68 : decode cX2_compareAll 68 = .ok (.iload 5, 2) := by decide +kernel
theorem dX2_compareAll_70 : decode cX2_compareAll 70 = .ok (.iload 4, 2) := by decide +kernel
theorem dX2_compareAll_72 : decode cX2_compareAll 72 = .ok (.iload 6, 2) := by decide +kernel
theorem dX2_compareAll_74 : decode cX2_compareAll 74 = .ok (.invokevirtual 84, 3) := by decide +kernel
theorem dX2_compareAll_77 : decode cX2_compareAll 77 = .ok (.iinc 5 1, 3) := by decide +kernel
theorem dX2_compareAll_80 : decode cX2_compareAll 80 = .ok (.goto (-45), 3) := by decide +kernel
theorem dX2_compareAll_83 : decode cX2_compareAll 83 = .ok (.iinc 4 1, 3) := by decide +kernel
theorem dX2_compareAll_86 : decode cX2_compareAll 86 = .ok (.goto (-75), 3) := by decide +kernel
theorem dX2_compareAll_89 : decode cX2_compareAll 89 = .ok (.return_, 1) := by decide +kernel
set_option maxRecDepth 20000 in
theorem ggX2_setReach_X0_hasLine : GoodIn wsX2_setReach wsX0_hasLine := goodIn_r _ [7, 8, 15, 16, 17, 18] (by decide +kernel) (by decide +kernel)
set_option maxRecDepth 20000 in
theorem gX2_setReach_X0_hasLine : GoodIn wsX2_setReach (wsV RX2 88 RX0 yX0_hasLine wsX0_hasLine) := goodIn_app (goodIn_of _ (by decide +kernel)) ggX2_setReach_X0_hasLine
theorem dX2_setReach_0 : decode cX2_setReach 0 = .ok (.aload_n 0, 1) := by decide +kernel
theorem dX2_setReach_1 : decode cX2_setReach 1 = .ok (.getfield 32, 3) := by decide +kernel
theorem dX2_setReach_4 : decode cX2_setReach 4 = .ok (.iload_n 1, 1) := by decide +kernel
theorem dX2_setReach_5 : decode cX2_setReach 5 = .ok (.invokevirtual 88, 3) := by decide +kernel
theorem dX2_setReach_8 : decode cX2_setReach 8 = .ok (.ifCond .eq 26, 3) := by decide +kernel
theorem dX2_setReach_11 : decode cX2_setReach 11 = .ok (.aload_n 0, 1) := by decide +kernel
theorem dX2_setReach_12 : decode cX2_setReach 12 = .ok (.getfield 32, 3) := by decide +kernel
theorem dX2_setReach_15 : decode cX2_setReach 15 = .ok (.iload_n 2, 1) := by decide +kernel
theorem dX2_setReach_16 : decode cX2_setReach 16 = .ok (.invokevirtual 88, 3) := by decide +kernel
theorem dX2_setReach_19 : decode cX2_setReach 19 = .ok (.ifCond .eq 15, 3) := by decide +kernel
theorem dX2_setReach_22 : decode cX2_setReach 22 = .ok (.aload_n 0, 1) := by decide +kernel
theorem dX2_setReach_23 : decode cX2_setReach 23 = .ok (.getfield 18, 3) := by decide +kernel
theorem dX2_setReach_26 : decode cX2_setReach 26 = .ok (.iload_n 1, 1) := by decide +kernel
theorem dX2_setReach_27 : decode cX2_setReach 27 = .ok (.bipush 20, 2) := by decide +kernel
theorem dX2_setReach_29 : decode cX2_setReach 29 = .ok (.imul, 1) := by decide +kernel
theorem dX2_setReach_30 : decode cX2_setReach 30 = .ok (.iload_n 2, 1) := by decide +kernel
theorem dX2_setReach_31 : decode cX2_setReach 31 = .ok (.iadd, 1) := by decide +kernel
theorem dX2_setReach_32 : decode cX2_setReach 32 = .ok (.iload_n 3, 1) := by decide +kernel
theorem dX2_setReach_33 : decode cX2_setReach 33 = .ok (.iastore, 1) := by decide +kernel
theorem dX2_setReach_34 : decode cX2_setReach 34 = .ok (.return_, 1) := by decide +kernel
set_option maxRecDepth 20000 in
theorem ggX2_reachOf_X0_hasLine : GoodIn wsX2_reachOf wsX0_hasLine := goodIn_r _ [7, 8, 15, 16, 17, 18] (by decide +kernel) (by decide +kernel)
set_option maxRecDepth 20000 in
theorem gX2_reachOf_X0_hasLine : GoodIn wsX2_reachOf (wsV RX2 88 RX0 yX0_hasLine wsX0_hasLine) := goodIn_app (goodIn_of _ (by decide +kernel)) ggX2_reachOf_X0_hasLine
theorem dX2_reachOf_0 : decode cX2_reachOf 0 = .ok (.aload_n 0, 1) := by decide +kernel
theorem dX2_reachOf_1 : decode cX2_reachOf 1 = .ok (.getfield 32, 3) := by decide +kernel
theorem dX2_reachOf_4 : decode cX2_reachOf 4 = .ok (.iload_n 1, 1) := by decide +kernel
theorem dX2_reachOf_5 : decode cX2_reachOf 5 = .ok (.invokevirtual 88, 3) := by decide +kernel
theorem dX2_reachOf_8 : decode cX2_reachOf 8 = .ok (.ifCond .eq 28, 3) := by decide +kernel
theorem dX2_reachOf_11 : decode cX2_reachOf 11 = .ok (.aload_n 0, 1) := by decide +kernel
theorem dX2_reachOf_12 : decode cX2_reachOf 12 = .ok (.getfield 32, 3) := by decide +kernel
theorem dX2_reachOf_15 : decode cX2_reachOf 15 = .ok (.iload_n 2, 1) := by decide +kernel
theorem dX2_reachOf_16 : decode cX2_reachOf 16 = .ok (.invokevirtual 88, 3) := by decide +kernel
theorem dX2_reachOf_19 : decode cX2_reachOf 19 = .ok (.ifCond .eq 17, 3) := by decide +kernel
theorem dX2_reachOf_22 : decode cX2_reachOf 22 = .ok (.aload_n 0, 1) := by decide +kernel
theorem dX2_reachOf_23 : decode cX2_reachOf 23 = .ok (.getfield 18, 3) := by decide +kernel
theorem dX2_reachOf_26 : decode cX2_reachOf 26 = .ok (.iload_n 1, 1) := by decide +kernel
theorem dX2_reachOf_27 : decode cX2_reachOf 27 = .ok (.bipush 20, 2) := by decide +kernel
theorem dX2_reachOf_29 : decode cX2_reachOf 29 = .ok (.imul, 1) := by decide +kernel
theorem dX2_reachOf_30 : decode cX2_reachOf 30 = .ok (.iload_n 2, 1) := by decide +kernel
theorem dX2_reachOf_31 : decode cX2_reachOf 31 = .ok (.iadd, 1) := by decide +kernel
theorem dX2_reachOf_32 : decode cX2_reachOf 32 = .ok (.iaload, 1) := by decide +kernel
theorem dX2_reachOf_33 : decode cX2_reachOf 33 = .ok (.goto 4, 3) := by decide +kernel
theorem dX2_reachOf_36 : decode cX2_reachOf 36 = .ok (.iconst 0, 1) := by decide +kernel
theorem dX2_reachOf_37 : decode cX2_reachOf 37 = .ok (.ireturn, 1) := by decide +kernel
set_option maxRecDepth 20000 in
theorem ggX2_seekLongest_X0_lines : GoodIn wsX2_seekLongest wsX0_lines := goodIn_r _ [13, 14, 31, 32, 33, 34] (by decide +kernel) (by decide +kernel)
set_option maxRecDepth 20000 in
theorem gX2_seekLongest_X0_lines : GoodIn wsX2_seekLongest (wsV RX2 50 RX0 yX0_lines wsX0_lines) := goodIn_app (goodIn_of _ (by decide +kernel)) ggX2_seekLongest_X0_lines
set_option maxRecDepth 20000 in
theorem ggX2_seekLongest_X2_reachOf : GoodIn wsX2_seekLongest wsX2_reachOf := goodIn_r _ [19, 2, 20, 21, 22, 23, 12, 24, 14, 25, 26, 27, 28, 29, 30, 31, 32, 33, 34] (by decide +kernel) (by decide +kernel)
set_option maxRecDepth 20000 in
theorem gX2_seekLongest_X2_reachOf : GoodIn wsX2_seekLongest (wsV RX2 91 RX2 yX2_reachOf wsX2_reachOf) := goodIn_app (goodIn_of _ (by decide +kernel)) ggX2_seekLongest_X2_reachOf
theorem dX2_seekLongest_0 : decode cX2_seekLongest 0 = .ok (.aload_n 0, 1) := by decide +kernel
theorem dX2_seekLongest_1 : decode cX2_seekLongest 1 = .ok (.iconst 0, 1) := by decide +kernel
theorem dX2_seekLongest_2 : decode cX2_seekLongest 2 = .ok (.putfield 22, 3) := by decide +kernel
theorem dX2_seekLongest_5 : decode cX2_seekLongest 5 = .ok (.iconst 0, 1) := by decide +kernel
theorem dX2_seekLongest_6 : decode cX2_seekLongest 6 = .ok (.istore_n 1, 1) := by decide +kernel
theorem dX2_seekLongest_7 : decode cX2_seekLongest 7 = .ok (.iload_n 1, 1) := by decide +kernel
theorem dX2_seekLongest_8 : decode cX2_seekLongest 8 = .ok (.aload_n 0, 1) := by decide +kernel
theorem dX2_seekLongest_9 : decode cX2_seekLongest 9 = .ok (.getfield 32, 3) := by decide +kernel
theorem dX2_seekLongest_12 : decode cX2_seekLongest 12 = .ok (.invokevirtual 50, 3) := by decide +kernel
theorem dX2_seekLongest_15 : decode cX2_seekLongest 15 = .ok (.if_icmp .ge 66, 3) := by decide +kernel
theorem dX2_seekLongest_18 : decode cX2_seekLongest 18 = .ok (.iload_n 1, 1) := by decide +kernel
theorem dX2_seekLongest_19 : decode cX2_seekLongest 19 = .ok (.iconst 1, 1) := by decide +kernel
theorem dX2_seekLongest_20 : decode cX2_seekLongest 20 = .ok (.iadd, 1) := by decide +kernel
theorem dX2_seekLongest_21 : decode cX2_seekLongest 21 = .ok (.istore_n 2, 1) := by decide +kernel
theorem dX2_seekLongest_22 : decode cX2_seekLongest 22 = .ok (.iload_n 2, 1) := by decide +kernel
theorem dX2_seekLongest_23 : decode cX2_seekLongest 23 = .ok (.aload_n 0, 1) := by decide +kernel
theorem dX2_seekLongest_24 : decode cX2_seekLongest 24 = .ok (.getfield 32, 3) := by decide +kernel
theorem dX2_seekLongest_27 : decode cX2_seekLongest 27 = .ok (.invokevirtual 50, 3) := by decide +kernel
theorem dX2_seekLongest_30 : decode cX2_seekLongest 30 = .ok (.if_icmp .ge 45, 3) := by decide +kernel
theorem dX2_seekLongest_33 : decode cX2_seekLongest 33 = .ok (.aload_n 0, 1) := by decide +kernel
theorem dX2_seekLongest_34 : decode cX2_seekLongest 34 = .ok (.iload_n 1, 1) := by decide +kernel
theorem dX2_seekLongest_35 : decode cX2_seekLongest 35 = .ok (.iload_n 2, 1) := by decide +kernel
theorem dX2_seekLongest_36 : decode cX2_seekLongest 36 = .ok (.invokevirtual 91, 3) := by decide +kernel
theorem dX2_seekLongest_39 : decode cX2_seekLongest 39 = .ok (.iload_n 2, 1) := by decide +kernel
theorem dX2_seekLongest_40 : decode cX2_seekLongest 40 = .ok (.iload_n 1, 1) := by decide +kernel
theorem dX2_seekLongest_41 : decode cX2_seekLongest 41 = .ok (.isub, 1) := by decide +kernel
theorem dX2_seekLongest_42 : decode cX2_seekLongest 42 = .ok (.invokestatic 94, 3) := by decide +kernel
theorem dX2_seekLongest_45 : decode cX2_seekLongest 45 = .ok (.istore_n 3, 1) := by decide +kernel
theorem dX2_seekLongest_46 : decode cX2_seekLongest 46 = .ok (.iload_n 3, 1) := by decide +kernel
theorem dX2_seekLongest_47 : decode cX2_seekLongest 47 = .ok (.aload_n 0, 1) := by decide +kernel
theorem dX2_seekLongest_48 : decode cX2_seekLongest 48 = .ok (.getfield 22, 3) := by decide +kernel
theorem dX2_seekLongest_51 : decode cX2_seekLongest 51 = .ok (.if_icmp .le 18, 3) := by decide +kernel
theorem dX2_seekLongest_54 : decode cX2_seekLongest 54 = .ok (.aload_n 0, 1) := by decide +kernel
theorem dX2_seekLongest_55 : decode cX2_seekLongest 55 = .ok (.iload_n 3, 1) := by decide +kernel
theorem dX2_seekLongest_56 : decode cX2_seekLongest 56 = .ok (.putfield 22, 3) := by decide +kernel
theorem dX2_seekLongest_59 : decode cX2_seekLongest 59 = .ok (.aload_n 0, 1) := by decide +kernel
theorem dX2_seekLongest_60 : decode cX2_seekLongest 60 = .ok (.iload_n 1, 1) := by decide +kernel
theorem dX2_seekLongest_61 : decode cX2_seekLongest 61 = .ok (.putfield 26, 3) := by decide +kernel
theorem dX2_seekLongest_64 : decode cX2_seekLongest 64 = .ok (.aload_n 0, 1) := by decide +kernel
theorem dX2_seekLongest_65 : decode cX2_seekLongest 65 = .ok (.iload_n 2, 1) := by decide +kernel
theorem dX2_seekLongest_66 : decode cX2_seekLongest 66 = .ok (.putfield 29, 3) := by decide +kernel
theorem dX2_seekLongest_69 : decode cX2_seekLongest 69 = .ok (.iinc 2 1, 3) := by decide +kernel
theorem dX2_seekLongest_72 : decode cX2_seekLongest 72 = .ok (.goto (-50), 3) := by decide +kernel
theorem dX2_seekLongest_75 : decode cX2_seekLongest 75 = .ok (.iinc 1 1, 3) := by decide +kernel
theorem dX2_seekLongest_78 : decode cX2_seekLongest 78 = .ok (.goto (-71), 3) := by decide +kernel
theorem dX2_seekLongest_81 : decode cX2_seekLongest 81 = .ok (.return_, 1) := by decide +kernel
set_option maxRecDepth 20000 in
theorem ggX2_startsLike_X0_lines : GoodIn wsX2_startsLike wsX0_lines := goodIn_r _ [6, 7, 24, 25, 26, 27] (by decide +kernel) (by decide +kernel)
set_option maxRecDepth 20000 in
theorem gX2_startsLike_X0_lines : GoodIn wsX2_startsLike (wsV RX2 50 RX0 yX0_lines wsX0_lines) := goodIn_app (goodIn_of _ (by decide +kernel)) ggX2_startsLike_X0_lines
set_option maxRecDepth 20000 in
theorem ggX2_startsLike_X2_reachOf : GoodIn wsX2_startsLike wsX2_reachOf := goodIn_r _ [12, 1, 13, 14, 15, 16, 5, 17, 7, 18, 19, 20, 21, 22, 23, 24, 25, 26, 27] (by decide +kernel) (by decide +kernel)
set_option maxRecDepth 20000 in
theorem gX2_startsLike_X2_reachOf : GoodIn wsX2_startsLike (wsV RX2 91 RX2 yX2_reachOf wsX2_reachOf) := goodIn_app (goodIn_of _ (by decide +kernel)) ggX2_startsLike_X2_reachOf
theorem dX2_startsLike_0 : decode cX2_startsLike 0 = .ok (.iconst 0, 1) := by decide +kernel
theorem dX2_startsLike_1 : decode cX2_startsLike 1 = .ok (.istore_n 3, 1) := by decide +kernel
theorem dX2_startsLike_2 : decode cX2_startsLike 2 = .ok (.iconst 0, 1) := by decide +kernel
theorem dX2_startsLike_3 : decode cX2_startsLike 3 = .ok (.istore 4, 2) := by decide +kernel
theorem dX2_startsLike_5 : decode cX2_startsLike 5 = .ok (.iload 4, 2) := by decide +kernel
theorem dX2_startsLike_7 : decode cX2_startsLike 7 = .ok (.aload_n 0, 1) := by decide +kernel
theorem dX2_startsLike_8 : decode cX2_startsLike 8 = .ok (.getfield 32, 3) := by decide +kernel
theorem dX2_startsLike_11 : decode cX2_startsLike 11 = .ok (.invokevirtual 50, 3) := by decide +kernel
theorem dX2_startsLike_14 : decode cX2_startsLike 14 = .ok (.if_icmp .ge 27, 3) := by decide +kernel
theorem dX2_startsLike_17 : decode cX2_startsLike 17 = .ok (.aload_n 0, 1) := by decide +kernel
theorem dX2_startsLike_18 : decode cX2_startsLike 18 = .ok (.iload_n 1, 1) := by decide +kernel
theorem dX2_startsLike_19 : decode cX2_startsLike 19 = .ok (.iload 4, 2) := by decide +kernel
theorem dX2_startsLike_21 : decode cX2_startsLike 21 = .ok (.invokevirtual 91, 3) := by decide +kernel
theorem dX2_startsLike_24 : decode cX2_startsLike 24 = .ok (.iload_n 2, 1) := by decide +kernel
theorem dX2_startsLike_25 : decode cX2_startsLike 25 = .ok (.if_icmp .lt 10, 3) := by decide +kernel
theorem dX2_startsLike_28 : decode cX2_startsLike 28 = .ok (.iload_n 3, 1) := by decide +kernel
theorem dX2_startsLike_29 : decode cX2_startsLike 29 = .ok (.iconst 1, 1) := by decide +kernel
theorem dX2_startsLike_30 : decode cX2_startsLike 30 = .ok (.iload 4, 2) := by decide +kernel
theorem dX2_startsLike_32 : decode cX2_startsLike 32 = .ok (.ishl, 1) := by decide +kernel
theorem dX2_startsLike_33 : decode cX2_startsLike 33 = .ok (.ior, 1) := by decide +kernel
theorem dX2_startsLike_34 : decode cX2_startsLike 34 = .ok (.istore_n 3, 1) := by decide +kernel
theorem dX2_startsLike_35 : decode cX2_startsLike 35 = .ok (.iinc 4 1, 3) := by decide +kernel
theorem dX2_startsLike_38 : decode cX2_startsLike 38 = .ok (.goto (-33), 3) := by decide +kernel
theorem dX2_startsLike_41 : decode cX2_startsLike 41 = .ok (.iload_n 3, 1) := by decide +kernel
theorem dX2_startsLike_42 : decode cX2_startsLike 42 = .ok (.ireturn, 1) := by decide +kernel
set_option maxRecDepth 20000 in
theorem ggX2_isLeastOfGroup_X2_startsLike : GoodIn wsX2_isLeastOfGroup wsX2_startsLike := goodIn_r _ [5, 6, 7, 8, 9, 10, 11, 12, 13, 14, 15, 4, 16, 17, 18, 19, 20, 21, 32, 33, 34, 35, 36, 37, 38, 39, 40, 41] (by decide +kernel) (by decide +kernel)
set_option maxRecDepth 20000 in
theorem gX2_isLeastOfGroup_X2_startsLike : GoodIn wsX2_isLeastOfGroup (wsV RX2 97 RX2 yX2_startsLike wsX2_startsLike) := goodIn_app (goodIn_of _ (by decide +kernel)) ggX2_isLeastOfGroup_X2_startsLike
set_option maxRecDepth 20000 in
theorem ggX2_isLeastOfGroup_J6_bitCount_0f7a4 : GoodIn wsX2_isLeastOfGroup wsJ6_bitCount_0f7a4 := goodIn_r _ [25, 26, 27, 28] (by decide +kernel) (by decide +kernel)
set_option maxRecDepth 20000 in
theorem gX2_isLeastOfGroup_J6_bitCount_0f7a4 : GoodIn wsX2_isLeastOfGroup (va_wsS RX2 100 yJ6_bitCount_0f7a4 wsJ6_bitCount_0f7a4) := goodIn_app (goodIn_of _ (by decide +kernel)) ggX2_isLeastOfGroup_J6_bitCount_0f7a4
set_option maxRecDepth 20000 in
theorem ggX2_isLeastOfGroup_X2_leastOf : GoodIn wsX2_isLeastOfGroup wsX2_leastOf := goodIn_r _ [31] (by decide +kernel) (by decide +kernel)
set_option maxRecDepth 20000 in
theorem gX2_isLeastOfGroup_X2_leastOf : GoodIn wsX2_isLeastOfGroup (va_wsS RX2 106 yX2_leastOf wsX2_leastOf) := goodIn_app (goodIn_of _ (by decide +kernel)) ggX2_isLeastOfGroup_X2_leastOf
theorem dX2_isLeastOfGroup_0 : decode cX2_isLeastOfGroup 0 = .ok (.aload_n 0, 1) := by decide +kernel
theorem dX2_isLeastOfGroup_1 : decode cX2_isLeastOfGroup 1 = .ok (.iload_n 1, 1) := by decide +kernel
theorem dX2_isLeastOfGroup_2 : decode cX2_isLeastOfGroup 2 = .ok (.iload_n 2, 1) := by decide +kernel
theorem dX2_isLeastOfGroup_3 : decode cX2_isLeastOfGroup 3 = .ok (.invokevirtual 97, 3) := by decide +kernel
theorem dX2_isLeastOfGroup_6 : decode cX2_isLeastOfGroup 6 = .ok (.istore_n 3, 1) := by decide +kernel
theorem dX2_isLeastOfGroup_7 : decode cX2_isLeastOfGroup 7 = .ok (.iload_n 3, 1) := by decide +kernel
theorem dX2_isLeastOfGroup_8 : decode cX2_isLeastOfGroup 8 = .ok (.invokestatic 100, 3) := by decide +kernel
theorem dX2_isLeastOfGroup_11 : decode cX2_isLeastOfGroup 11 = .ok (.iconst 2, 1) := by decide +kernel
theorem dX2_isLeastOfGroup_12 : decode cX2_isLeastOfGroup 12 = .ok (.if_icmp .lt 15, 3) := by decide +kernel
theorem dX2_isLeastOfGroup_15 : decode cX2_isLeastOfGroup 15 = .ok (.iload_n 3, 1) := by decide +kernel
theorem dX2_isLeastOfGroup_16 : decode cX2_isLeastOfGroup 16 = .ok (.invokestatic 106, 3) := by decide +kernel
theorem dX2_isLeastOfGroup_19 : decode cX2_isLeastOfGroup 19 = .ok (.iload_n 1, 1) := by decide +kernel
theorem dX2_isLeastOfGroup_20 : decode cX2_isLeastOfGroup 20 = .ok (.if_icmp .ne 7, 3) := by decide +kernel
theorem dX2_isLeastOfGroup_23 : decode cX2_isLeastOfGroup 23 = .ok (.iconst 1, 1) := by decide +kernel
theorem dX2_isLeastOfGroup_24 : decode cX2_isLeastOfGroup 24 = .ok (.goto 4, 3) := by decide +kernel
theorem dX2_isLeastOfGroup_27 : decode cX2_isLeastOfGroup 27 = .ok (.iconst 0, 1) := by decide +kernel
theorem dX2_isLeastOfGroup_28 : decode cX2_isLeastOfGroup 28 = .ok (.ireturn, 1) := by decide +kernel
theorem dX2_leastOf_0 : decode cX2_leastOf 0 = .ok (.iconst 0, 1) := by decide +kernel
theorem dX2_leastOf_1 : decode cX2_leastOf 1 = .ok (.istore_n 1, 1) := by decide +kernel
theorem dX2_leastOf_2 : decode cX2_leastOf 2 = .ok (.iload_n 1, 1) := by decide +kernel
theorem dX2_leastOf_3 : decode cX2_leastOf 3 = .ok (.bipush 20, 2) := by decide +kernel
theorem dX2_leastOf_5 : decode cX2_leastOf 5 = .ok (.if_icmp .ge 17, 3) := by decide +kernel
theorem dX2_leastOf_8 : decode cX2_leastOf 8 = .ok (.iload_n 0, 1) := by decide +kernel
theorem dX2_leastOf_9 : decode cX2_leastOf 9 = .ok (.iconst 1, 1) := by decide +kernel
theorem dX2_leastOf_10 : decode cX2_leastOf 10 = .ok (.iload_n 1, 1) := by decide +kernel
theorem dX2_leastOf_11 : decode cX2_leastOf 11 = .ok (.ishl, 1) := by decide +kernel
theorem dX2_leastOf_12 : decode cX2_leastOf 12 = .ok (.iand, 1) := by decide +kernel
theorem dX2_leastOf_13 : decode cX2_leastOf 13 = .ok (.ifCond .ne 9, 3) := by decide +kernel
theorem dX2_leastOf_16 : decode cX2_leastOf 16 = .ok (.iinc 1 1, 3) := by decide +kernel
theorem dX2_leastOf_19 : decode cX2_leastOf 19 = .ok (.goto (-17), 3) := by decide +kernel
theorem dX2_leastOf_22 : decode cX2_leastOf 22 = .ok (.iload_n 1, 1) := by decide +kernel
theorem dX2_leastOf_23 : decode cX2_leastOf 23 = .ok (.ireturn, 1) := by decide +kernel
set_option maxRecDepth 20000 in
theorem ggX2_isWithinLonger_X2_leastOf : GoodIn wsX2_isWithinLonger wsX2_leastOf := goodIn_r _ [4] (by decide +kernel) (by decide +kernel)
set_option maxRecDepth 20000 in
theorem gX2_isWithinLonger_X2_leastOf : GoodIn wsX2_isWithinLonger (va_wsS RX2 106 yX2_leastOf wsX2_leastOf) := goodIn_app (goodIn_of _ (by decide +kernel)) ggX2_isWithinLonger_X2_leastOf
set_option maxRecDepth 20000 in
theorem ggX2_isWithinLonger_X2_startsLike : GoodIn wsX2_isWithinLonger wsX2_startsLike := goodIn_r _ [8, 9, 10, 11, 12, 13, 14, 15, 16, 17, 18, 3, 19, 20, 21, 22, 23, 24, 25, 26, 27, 28, 29, 30, 31, 32, 33, 34] (by decide +kernel) (by decide +kernel)
set_option maxRecDepth 20000 in
theorem gX2_isWithinLonger_X2_startsLike : GoodIn wsX2_isWithinLonger (wsV RX2 97 RX2 yX2_startsLike wsX2_startsLike) := goodIn_app (goodIn_of _ (by decide +kernel)) ggX2_isWithinLonger_X2_startsLike
theorem dX2_isWithinLonger_0 : decode cX2_isWithinLonger 0 = .ok (.iload_n 1, 1) := by decide +kernel
theorem dX2_isWithinLonger_1 : decode cX2_isWithinLonger 1 = .ok (.invokestatic 106, 3) := by decide +kernel
theorem dX2_isWithinLonger_4 : decode cX2_isWithinLonger 4 = .ok (.istore_n 3, 1) := by decide +kernel
theorem dX2_isWithinLonger_5 : decode cX2_isWithinLonger 5 = .ok (.aload_n 0, 1) := by decide +kernel
theorem dX2_isWithinLonger_6 : decode cX2_isWithinLonger 6 = .ok (.iload_n 3, 1) := by decide +kernel
theorem dX2_isWithinLonger_7 : decode cX2_isWithinLonger 7 = .ok (.iload_n 2, 1) := by decide +kernel
theorem dX2_isWithinLonger_8 : decode cX2_isWithinLonger 8 = .ok (.iconst 1, 1) := by decide +kernel
theorem dX2_isWithinLonger_9 : decode cX2_isWithinLonger 9 = .ok (.iadd, 1) := by decide +kernel
theorem dX2_isWithinLonger_10 : decode cX2_isWithinLonger 10 = .ok (.invokevirtual 97, 3) := by decide +kernel
theorem dX2_isWithinLonger_13 : decode cX2_isWithinLonger 13 = .ok (.iload_n 1, 1) := by decide +kernel
theorem dX2_isWithinLonger_14 : decode cX2_isWithinLonger 14 = .ok (.if_icmp .ne 5, 3) := by decide +kernel
theorem dX2_isWithinLonger_17 : decode cX2_isWithinLonger 17 = .ok (.iconst 1, 1) := by decide +kernel
theorem dX2_isWithinLonger_18 : decode cX2_isWithinLonger 18 = .ok (.ireturn, 1) := by decide +kernel
theorem dX2_isWithinLonger_19 : decode cX2_isWithinLonger 19 = .ok (.iload_n 3, 1) := by decide +kernel
theorem dX2_isWithinLonger_20 : decode cX2_isWithinLonger 20 = .ok (.ifCond .le 23, 3) := by decide +kernel
theorem dX2_isWithinLonger_23 : decode cX2_isWithinLonger 23 = .ok (.aload_n 0, 1) := by decide +kernel
theorem dX2_isWithinLonger_24 : decode cX2_isWithinLonger 24 = .ok (.iload_n 3, 1) := by decide +kernel
theorem dX2_isWithinLonger_25 : decode cX2_isWithinLonger 25 = .ok (.iconst 1, 1) := by decide +kernel
theorem dX2_isWithinLonger_26 : decode cX2_isWithinLonger 26 = .ok (.isub, 1) := by decide +kernel
theorem dX2_isWithinLonger_27 : decode cX2_isWithinLonger 27 = .ok (.iload_n 2, 1) := by decide +kernel
theorem dX2_isWithinLonger_28 : decode cX2_isWithinLonger 28 = .ok (.iconst 1, 1) := by decide +kernel
theorem dX2_isWithinLonger_29 : decode cX2_isWithinLonger 29 = .ok (.iadd, 1) := by decide +kernel
theorem dX2_isWithinLonger_30 : decode cX2_isWithinLonger 30 = .ok (.invokevirtual 97, 3) := by decide +kernel
theorem dX2_isWithinLonger_33 : decode cX2_isWithinLonger 33 = .ok (.iload_n 1, 1) := by decide +kernel
theorem dX2_isWithinLonger_34 : decode cX2_isWithinLonger 34 = .ok (.iconst 1, 1) := by decide +kernel
theorem dX2_isWithinLonger_35 : decode cX2_isWithinLonger 35 = .ok (.ishr, 1) := by decide +kernel
theorem dX2_isWithinLonger_36 : decode cX2_isWithinLonger 36 = .ok (.if_icmp .ne 7, 3) := by decide +kernel
theorem dX2_isWithinLonger_39 : decode cX2_isWithinLonger 39 = .ok (.iconst 1, 1) := by decide +kernel
theorem dX2_isWithinLonger_40 : decode cX2_isWithinLonger 40 = .ok (.goto 4, 3) := by decide +kernel
theorem dX2_isWithinLonger_43 : decode cX2_isWithinLonger 43 = .ok (.iconst 0, 1) := by decide +kernel
theorem dX2_isWithinLonger_44 : decode cX2_isWithinLonger 44 = .ok (.ireturn, 1) := by decide +kernel
end
section
theorem dX3_init_0 : decode cX3_init 0 = .ok (.aload_n 0, 1) := by decide +kernel
theorem dX3_init_1 : decode cX3_init 1 = .ok (.invokespecial 3, 3) := by decide +kernel
theorem dX3_init_4 : decode cX3_init 4 = .ok (.aload_n 0, 1) := by decide +kernel
theorem dX3_init_5 : decode cX3_init 5 = .ok (.bipush 26, 2) := by decide +kernel
theorem dX3_init_7 : decode cX3_init 7 = .ok (.newarray .int, 2) := by decide +kernel
theorem dX3_init_9 : decode cX3_init 9 = .ok (.putfield 9, 3) := by decide +kernel
theorem dX3_init_12 : decode cX3_init 12 = .ok (.aload_n 0, 1) := by decide +kernel
theorem dX3_init_13 : decode cX3_init 13 = .ok (.iconst 0, 1) := by decide +kernel
theorem dX3_init_14 : decode cX3_init 14 = .ok (.putfield 15, 3) := by decide +kernel
theorem dX3_init_17 : decode cX3_init 17 = .ok (.aload_n 0, 1) := by decide +kernel
theorem dX3_init_18 : decode cX3_init 18 = .ok (.iconst 0, 1) := by decide +kernel
theorem dX3_init_19 : decode cX3_init 19 = .ok (.putfield 19, 3) := by decide +kernel
theorem dX3_init_22 : decode cX3_init 22 = .ok (.return_, 1) := by decide +kernel
theorem dX3_clear_0 : decode cX3_clear 0 = .ok (.aload_n 0, 1) := by decide +kernel
theorem dX3_clear_1 : decode cX3_clear 1 = .ok (.iconst 0, 1) := by decide +kernel
theorem dX3_clear_2 : decode cX3_clear 2 = .ok (.putfield 15, 3) := by decide +kernel
theorem dX3_clear_5 : decode cX3_clear 5 = .ok (.aload_n 0, 1) := by decide +kernel
theorem dX3_clear_6 : decode cX3_clear 6 = .ok (.iconst 0, 1) := by decide +kernel
theorem dX3_clear_7 : decode cX3_clear 7 = .ok (.putfield 19, 3) := by decide +kernel
theorem dX3_clear_10 : decode cX3_clear 10 = .ok (.return_, 1) := by decide +kernel
set_option maxRecDepth 20000 in
theorem ggX3_join_X7_isName : GoodIn wsX3_join wsX7_isName := goodIn_r _ [6] (by decide +kernel) (by decide +kernel)
set_option maxRecDepth 20000 in
theorem gX3_join_X7_isName_n22 : GoodIn wsX3_join (wsX7_isName) := ggX3_join_X7_isName
theorem dX3_join_0 : decode cX3_join 0 = .ok (.iload_n 1, 1) := by decide +kernel
theorem dX3_join_1 : decode cX3_join 1 = .ok (.invokestatic 22, 3) := by decide +kernel
theorem dX3_join_4 : decode cX3_join 4 = .ok (.ifCond .eq 10, 3) := by decide +kernel
theorem dX3_join_7 : decode cX3_join 7 = .ok (.iload_n 2, 1) := by decide +kernel
theorem dX3_join_8 : decode cX3_join 8 = .ok (.invokestatic 22, 3) := by decide +kernel
theorem dX3_join_11 : decode cX3_join 11 = .ok (.ifCond .ne 5, 3) := by decide +kernel
theorem dX3_join_14 : decode cX3_join 14 = .ok (.iconst 0, 1) := by decide +kernel
theorem dX3_join_15 : decode cX3_join 15 = .ok (.ireturn, 1) := by decide +kernel
theorem dX3_join_16 : decode cX3_join 16 = .ok (.iconst 1, 1) := by decide +kernel
theorem dX3_join_17 : decode cX3_join 17 = .ok (.iload_n 1, 1) := by decide +kernel
theorem dX3_join_18 : decode cX3_join 18 = .ok (.bipush 97, 2) := by decide +kernel
theorem dX3_join_20 : decode cX3_join 20 = .ok (.isub, 1) := by decide +kernel
theorem dX3_join_21 : decode cX3_join 21 = .ok (.ishl, 1) := by decide +kernel
theorem dX3_join_22 : decode cX3_join 22 = .ok (.istore_n 3, 1) := by decide +kernel
theorem dX3_join_23 : decode cX3_join 23 = .ok (.iconst 1, 1) := by decide +kernel
theorem dX3_join_24 : decode cX3_join 24 = .ok (.iload_n 2, 1) := by decide +kernel
theorem dX3_join_25 : decode cX3_join 25 = .ok (.bipush 97, 2) := by decide +kernel
theorem dX3_join_27 : decode cX3_join 27 = .ok (.isub, 1) := by decide +kernel
theorem dX3_join_28 : decode cX3_join 28 = .ok (.ishl, 1) := by decide +kernel
theorem dX3_join_29 : decode cX3_join 29 = .ok (.istore 4, 2) := by decide +kernel
theorem dX3_join_31 : decode cX3_join 31 = .ok (.aload_n 0, 1) := by decide +kernel
theorem dX3_join_32 : decode cX3_join 32 = .ok (.getfield 15, 3) := by decide +kernel
theorem dX3_join_35 : decode cX3_join 35 = .ok (.iload_n 3, 1) := by decide +kernel
theorem dX3_join_36 : decode cX3_join 36 = .ok (.iand, 1) := by decide +kernel
theorem dX3_join_37 : decode cX3_join 37 = .ok (.ifCond .eq 22, 3) := by decide +kernel
theorem dX3_join_40 : decode cX3_join 40 = .ok (.aload_n 0, 1) := by decide +kernel
theorem dX3_join_41 : decode cX3_join 41 = .ok (.getfield 9, 3) := by decide +kernel
theorem dX3_join_44 : decode cX3_join 44 = .ok (.iload_n 1, 1) := by decide +kernel
theorem dX3_join_45 : decode cX3_join 45 = .ok (.bipush 97, 2) := by decide +kernel
theorem dX3_join_47 : decode cX3_join 47 = .ok (.isub, 1) := by decide +kernel
theorem dX3_join_48 : decode cX3_join 48 = .ok (.iaload, 1) := by decide +kernel
theorem dX3_join_49 : decode cX3_join 49 = .ok (.iload_n 2, 1) := by decide +kernel
theorem dX3_join_50 : decode cX3_join 50 = .ok (.if_icmp .ne 7, 3) := by decide +kernel
theorem dX3_join_53 : decode cX3_join 53 = .ok (.iconst 1, 1) := by decide +kernel
theorem dX3_join_54 : decode cX3_join 54 = .ok (.goto 4, 3) := by decide +kernel
theorem dX3_join_57 : decode cX3_join 57 = .ok (.iconst 0, 1) := by decide +kernel
theorem dX3_join_58 : decode cX3_join 58 = .ok (.ireturn, 1) := by decide +kernel
theorem dX3_join_59 : decode cX3_join 59 = .ok (.aload_n 0, 1) := by decide +kernel
theorem dX3_join_60 : decode cX3_join 60 = .ok (.getfield 19, 3) := by decide +kernel
theorem dX3_join_63 : decode cX3_join 63 = .ok (.iload 4, 2) := by decide +kernel
theorem dX3_join_65 : decode cX3_join 65 = .ok (.iand, 1) := by decide +kernel
theorem dX3_join_66 : decode cX3_join 66 = .ok (.ifCond .eq 5, 3) := by decide +kernel
theorem dX3_join_69 : decode cX3_join 69 = .ok (.iconst 0, 1) := by decide +kernel
theorem dX3_join_70 : decode cX3_join 70 = .ok (.ireturn, 1) := by decide +kernel
theorem dX3_join_71 : decode cX3_join 71 = .ok (.aload_n 0, 1) := by decide +kernel
theorem dX3_join_72 : decode cX3_join 72 = .ok (.dup, 1) := by decide +kernel
theorem dX3_join_73 : decode cX3_join 73 = .ok (.getfield 15, 3) := by decide +kernel
theorem dX3_join_76 : decode cX3_join 76 = .ok (.iload_n 3, 1) := by decide +kernel
theorem dX3_join_77 : decode cX3_join 77 = .ok (.ior, 1) := by decide +kernel
theorem dX3_join_78 : decode cX3_join 78 = .ok (.putfield 15, 3) := by decide +kernel
theorem dX3_join_81 : decode cX3_join 81 = .ok (.aload_n 0, 1) := by decide +kernel
theorem dX3_join_82 : decode cX3_join 82 = .ok (.dup, 1) := by decide +kernel
theorem dX3_join_83 : decode cX3_join 83 = .ok (.getfield 19, 3) := by decide +kernel
theorem dX3_join_86 : decode cX3_join 86 = .ok (.iload 4, 2) := by decide +kernel
theorem dX3_join_88 : decode cX3_join 88 = .ok (.ior, 1) := by decide +kernel
theorem dX3_join_89 : decode cX3_join 89 = .ok (.putfield 19, 3) := by decide +kernel
theorem dX3_join_92 : decode cX3_join 92 = .ok (.aload_n 0, 1) := by decide +kernel
theorem dX3_join_93 : decode cX3_join 93 = .ok (.getfield 9, 3) := by decide +kernel
theorem dX3_join_96 : decode cX3_join 96 = .ok (.iload_n 1, 1) := by decide +kernel
theorem dX3_join_97 : decode cX3_join 97 = .ok (.bipush 97, 2) := by decide +kernel
theorem dX3_join_99 : decode cX3_join 99 = .ok (.isub, 1) := by decide +kernel
theorem dX3_join_100 : decode cX3_join 100 = .ok (.iload_n 2, 1) := by decide +kernel
theorem dX3_join_101 : decode cX3_join 101 = .ok (.iastore, 1) := by decide +kernel
theorem dX3_join_102 : decode cX3_join 102 = .ok (.iconst 1, 1) := by decide +kernel
theorem dX3_join_103 : decode cX3_join 103 = .ok (.ireturn, 1) := by decide +kernel
set_option maxRecDepth 20000 in
theorem ggX3_hasPartner_X7_isName : GoodIn wsX3_hasPartner wsX7_isName := goodIn_r _ [4] (by decide +kernel) (by decide +kernel)
set_option maxRecDepth 20000 in
theorem gX3_hasPartner_X7_isName_n22 : GoodIn wsX3_hasPartner (wsX7_isName) := ggX3_hasPartner_X7_isName
theorem dX3_hasPartner_0 : decode cX3_hasPartner 0 = .ok (.iload_n 1, 1) := by decide +kernel
theorem dX3_hasPartner_1 : decode cX3_hasPartner 1 = .ok (.invokestatic 22, 3) := by decide +kernel
theorem dX3_hasPartner_4 : decode cX3_hasPartner 4 = .ok (.ifCond .eq 21, 3) := by decide +kernel
theorem dX3_hasPartner_7 : decode cX3_hasPartner 7 = .ok (.aload_n 0, 1) := by decide +kernel
theorem dX3_hasPartner_8 : decode cX3_hasPartner 8 = .ok (.getfield 15, 3) := by decide +kernel
theorem dX3_hasPartner_11 : decode cX3_hasPartner 11 = .ok (.iconst 1, 1) := by decide +kernel
theorem dX3_hasPartner_12 : decode cX3_hasPartner 12 = .ok (.iload_n 1, 1) := by decide +kernel
theorem dX3_hasPartner_13 : decode cX3_hasPartner 13 = .ok (.bipush 97, 2) := by decide +kernel
theorem dX3_hasPartner_15 : decode cX3_hasPartner 15 = .ok (.isub, 1) := by decide +kernel
theorem dX3_hasPartner_16 : decode cX3_hasPartner 16 = .ok (.ishl, 1) := by decide +kernel
theorem dX3_hasPartner_17 : decode cX3_hasPartner 17 = .ok (.iand, 1) := by decide +kernel
theorem dX3_hasPartner_18 : decode cX3_hasPartner 18 = .ok (.ifCond .eq 7, 3) := by decide +kernel
theorem dX3_hasPartner_21 : decode cX3_hasPartner 21 = .ok (.iconst 1, 1) := by decide +kernel
theorem dX3_hasPartner_22 : decode cX3_hasPartner 22 = .ok (.goto 4, 3) := by decide +kernel
theorem dX3_hasPartner_25 : decode cX3_hasPartner 25 = .ok (.iconst 0, 1) := by decide +kernel
theorem dX3_hasPartner_26 : decode cX3_hasPartner 26 = .ok (.ireturn, 1) := by decide +kernel
set_option maxRecDepth 20000 in
theorem ggX3_renamed_X3_hasPartner : GoodIn wsX3_renamed wsX3_hasPartner := goodIn_r _ [6, 7, 8, 9, 10, 11, 12, 13] (by decide +kernel) (by decide +kernel)
set_option maxRecDepth 20000 in
theorem gX3_renamed_X3_hasPartner : GoodIn wsX3_renamed (wsV RX3 26 RX3 yX3_hasPartner wsX3_hasPartner) := goodIn_app (goodIn_of _ (by decide +kernel)) ggX3_renamed_X3_hasPartner
theorem dX3_renamed_0 : decode cX3_renamed 0 = .ok (.aload_n 0, 1) := by decide +kernel
theorem dX3_renamed_1 : decode cX3_renamed 1 = .ok (.iload_n 1, 1) := by decide +kernel
theorem dX3_renamed_2 : decode cX3_renamed 2 = .ok (.invokevirtual 26, 3) := by decide +kernel
theorem dX3_renamed_5 : decode cX3_renamed 5 = .ok (.ifCond .eq 15, 3) := by decide +kernel
theorem dX3_renamed_8 : decode cX3_renamed 8 = .ok (.aload_n 0, 1) := by decide +kernel
theorem dX3_renamed_9 : decode cX3_renamed 9 = .ok (.getfield 9, 3) := by decide +kernel
theorem dX3_renamed_12 : decode cX3_renamed 12 = .ok (.iload_n 1, 1) := by decide +kernel
theorem dX3_renamed_13 : decode cX3_renamed 13 = .ok (.bipush 97, 2) := by decide +kernel
theorem dX3_renamed_15 : decode cX3_renamed 15 = .ok (.isub, 1) := by decide +kernel
theorem dX3_renamed_16 : decode cX3_renamed 16 = .ok (.iaload, 1) := by decide +kernel
theorem dX3_renamed_17 : decode cX3_renamed 17 = .ok (.goto 4, 3) := by decide +kernel
theorem dX3_renamed_20 : decode cX3_renamed 20 = .ok (.iload_n 1, 1) := by decide +kernel
theorem dX3_renamed_21 : decode cX3_renamed 21 = .ok (.ireturn, 1) := by decide +kernel
set_option maxRecDepth 20000 in
theorem ggX3_firstNameThatFits_X3_hasPartner : GoodIn wsX3_firstNameThatFits wsX3_hasPartner := goodIn_r _ [6, 7, 8, 9, 10, 16, 17, 18] (by decide +kernel) (by decide +kernel)
set_option maxRecDepth 20000 in
theorem gX3_firstNameThatFits_X3_hasPartner : GoodIn wsX3_firstNameThatFits (wsV RX3 26 RX3 yX3_hasPartner wsX3_hasPartner) := goodIn_app (goodIn_of _ (by decide +kernel)) ggX3_firstNameThatFits_X3_hasPartner
set_option maxRecDepth 20000 in
theorem ggX3_firstNameThatFits_X3_renamed : GoodIn wsX3_firstNameThatFits wsX3_renamed := goodIn_r _ [14, 15, 2, 3, 4, 5, 6, 7, 8, 9, 10, 16, 17, 18] (by decide +kernel) (by decide +kernel)
set_option maxRecDepth 20000 in
theorem gX3_firstNameThatFits_X3_renamed : GoodIn wsX3_firstNameThatFits (wsV RX3 29 RX3 yX3_renamed wsX3_renamed) := goodIn_app (goodIn_of _ (by decide +kernel)) ggX3_firstNameThatFits_X3_renamed
theorem dX3_firstNameThatFits_0 : decode cX3_firstNameThatFits 0 = .ok (.aload_n 0, 1) := by decide +kernel
theorem dX3_firstNameThatFits_1 : decode cX3_firstNameThatFits 1 = .ok (.iload_n 1, 1) := by decide +kernel
theorem dX3_firstNameThatFits_2 : decode cX3_firstNameThatFits 2 = .ok (.invokevirtual 26, 3) := by decide +kernel
theorem dX3_firstNameThatFits_5 : decode cX3_firstNameThatFits 5 = .ok (.ifCond .eq 9, 3) := by decide +kernel
theorem dX3_firstNameThatFits_8 : decode cX3_firstNameThatFits 8 = .ok (.aload_n 0, 1) := by decide +kernel
theorem dX3_firstNameThatFits_9 : decode cX3_firstNameThatFits 9 = .ok (.iload_n 1, 1) := by decide +kernel
theorem dX3_firstNameThatFits_10 : decode cX3_firstNameThatFits 10 = .ok (.invokevirtual 29, 3) := by decide +kernel
theorem dX3_firstNameThatFits_13 : decode cX3_firstNameThatFits 13 = .ok (.ireturn, 1) := by decide +kernel
theorem dX3_firstNameThatFits_14 : decode cX3_firstNameThatFits 14 = .ok (.iconst 0, 1) := by decide +kernel
theorem dX3_firstNameThatFits_15 : decode cX3_firstNameThatFits 15 = .ok (.istore_n 2, 1) := by decide +kernel
theorem dX3_firstNameThatFits_16 : decode cX3_firstNameThatFits 16 = .ok (.iload_n 2, 1) := by decide +kernel
theorem dX3_firstNameThatFits_17 : decode cX3_firstNameThatFits 17 = .ok (.bipush 26, 2) := by decide +kernel
theorem dX3_firstNameThatFits_19 : decode cX3_firstNameThatFits 19 = .ok (.if_icmp .ge 25, 3) := by decide +kernel
theorem dX3_firstNameThatFits_22 : decode cX3_firstNameThatFits 22 = .ok (.aload_n 0, 1) := by decide +kernel
theorem dX3_firstNameThatFits_23 : decode cX3_firstNameThatFits 23 = .ok (.getfield 19, 3) := by decide +kernel
theorem dX3_firstNameThatFits_26 : decode cX3_firstNameThatFits 26 = .ok (.iconst 1, 1) := by decide +kernel
theorem dX3_firstNameThatFits_27 : decode cX3_firstNameThatFits 27 = .ok (.iload_n 2, 1) := by decide +kernel
theorem dX3_firstNameThatFits_28 : decode cX3_firstNameThatFits 28 = .ok (.ishl, 1) := by decide +kernel
theorem dX3_firstNameThatFits_29 : decode cX3_firstNameThatFits 29 = .ok (.iand, 1) := by decide +kernel
theorem dX3_firstNameThatFits_30 : decode cX3_firstNameThatFits 30 = .ok (.ifCond .ne 8, 3) := by decide +kernel
theorem dX3_firstNameThatFits_33 : decode cX3_firstNameThatFits 33 = .ok (.bipush 97, 2) := by decide +kernel
theorem dX3_firstNameThatFits_35 : decode cX3_firstNameThatFits 35 = .ok (.iload_n 2, 1) := by decide +kernel
theorem dX3_firstNameThatFits_36 : decode cX3_firstNameThatFits 36 = .ok (.iadd, 1) := by decide +kernel
theorem dX3_firstNameThatFits_37 : decode cX3_firstNameThatFits 37 = .ok (.ireturn, 1) := by decide +kernel
theorem dX3_firstNameThatFits_38 : decode cX3_firstNameThatFits 38 = .ok (.iinc 2 1, 3) := by decide +kernel
theorem dX3_firstNameThatFits_41 : decode cX3_firstNameThatFits 41 = .ok (.goto (-25), 3) := by decide +kernel
theorem dX3_firstNameThatFits_44 : decode cX3_firstNameThatFits 44 = .ok (.iconst 0, 1) := by decide +kernel
theorem dX3_firstNameThatFits_45 : decode cX3_firstNameThatFits 45 = .ok (.ireturn, 1) := by decide +kernel
end
section
theorem dX4_init_0 : decode cX4_init 0 = .ok (.aload_n 0, 1) := by decide +kernel
theorem dX4_init_1 : decode cX4_init 1 = .ok (.invokespecial 3, 3) := by decide +kernel
theorem dX4_init_4 : decode cX4_init 4 = .ok (.aload_n 0, 1) := by decide +kernel
theorem dX4_init_5 : decode cX4_init 5 = .ok (.sipush 200, 3) := by decide +kernel
theorem dX4_init_8 : decode cX4_init 8 = .ok (.newarray .int, 2) := by decide +kernel
theorem dX4_init_10 : decode cX4_init 10 = .ok (.putfield 9, 3) := by decide +kernel
theorem dX4_init_13 : decode cX4_init 13 = .ok (.aload_n 0, 1) := by decide +kernel
theorem dX4_init_14 : decode cX4_init 14 = .ok (.sipush 200, 3) := by decide +kernel
theorem dX4_init_17 : decode cX4_init 17 = .ok (.newarray .int, 2) := by decide +kernel
theorem dX4_init_19 : decode cX4_init 19 = .ok (.putfield 15, 3) := by decide +kernel
theorem dX4_init_22 : decode cX4_init 22 = .ok (.aload_n 0, 1) := by decide +kernel
theorem dX4_init_23 : decode cX4_init 23 = .ok (.iconst 0, 1) := by decide +kernel
theorem dX4_init_24 : decode cX4_init 24 = .ok (.putfield 18, 3) := by decide +kernel
theorem dX4_init_27 : decode cX4_init 27 = .ok (.aload_n 0, 1) := by decide +kernel
theorem dX4_init_28 : decode cX4_init 28 = .ok (.iconst 0, 1) := by decide +kernel
theorem dX4_init_29 : decode cX4_init 29 = .ok (.putfield 22, 3) := by decide +kernel
theorem dX4_init_32 : decode cX4_init 32 = .ok (.aload_n 0, 1) := by decide +kernel
theorem dX4_init_33 : decode cX4_init 33 = .ok (.iconst 0, 1) := by decide +kernel
theorem dX4_init_34 : decode cX4_init 34 = .ok (.putfield 25, 3) := by decide +kernel
theorem dX4_init_37 : decode cX4_init 37 = .ok (.aload_n 0, 1) := by decide +kernel
theorem dX4_init_38 : decode cX4_init 38 = .ok (.iconst 0, 1) := by decide +kernel
theorem dX4_init_39 : decode cX4_init 39 = .ok (.putfield 28, 3) := by decide +kernel
theorem dX4_init_42 : decode cX4_init 42 = .ok (.aload_n 0, 1) := by decide +kernel
theorem dX4_init_43 : decode cX4_init 43 = .ok (.aload_n 1, 1) := by decide +kernel
theorem dX4_init_44 : decode cX4_init 44 = .ok (.putfield 31, 3) := by decide +kernel
theorem dX4_init_47 : decode cX4_init 47 = .ok (.aload_n 0, 1) := by decide +kernel
theorem dX4_init_48 : decode cX4_init 48 = .ok (.aload_n 2, 1) := by decide +kernel
theorem dX4_init_49 : decode cX4_init 49 = .ok (.putfield 35, 3) := by decide +kernel
theorem dX4_init_52 : decode cX4_init 52 = .ok (.aload_n 0, 1) := by decide +kernel
theorem dX4_init_53 : decode cX4_init 53 = .ok (.aload_n 3, 1) := by decide +kernel
theorem dX4_init_54 : decode cX4_init 54 = .ok (.putfield 39, 3) := by decide +kernel
theorem dX4_init_57 : decode cX4_init 57 = .ok (.return_, 1) := by decide +kernel
set_option maxRecDepth 20000 in
theorem ggX4_lookAtAll_X0_lines : GoodIn wsX4_lookAtAll wsX0_lines := goodIn_r _ [10, 11, 110, 111, 112, 113] (by decide +kernel) (by decide +kernel)
set_option maxRecDepth 20000 in
theorem gX4_lookAtAll_X0_lines : GoodIn wsX4_lookAtAll (wsV RX4 43 RX0 yX0_lines wsX0_lines) := goodIn_app (goodIn_of _ (by decide +kernel)) ggX4_lookAtAll_X0_lines
set_option maxRecDepth 20000 in
theorem ggX4_lookAtAll_X2_isLeastOfGroup : GoodIn wsX4_lookAtAll wsX2_isLeastOfGroup := goodIn_r _ [16, 17, 18, 19, 15, 20, 21, 22, 7, 8, 9, 10, 11, 23, 24, 25, 26, 27, 28, 29, 30, 31, 32, 33, 34, 35, 36, 37, 38, 39, 40, 41, 114, 115, 116, 117, 118, 119, 110, 111, 112, 113] (by decide +kernel) (by decide +kernel)
set_option maxRecDepth 20000 in
theorem gX4_lookAtAll_X2_isLeastOfGroup : GoodIn wsX4_lookAtAll (wsV RX4 48 RX2 yX2_isLeastOfGroup wsX2_isLeastOfGroup) := goodIn_app (goodIn_of _ (by decide +kernel)) ggX4_lookAtAll_X2_isLeastOfGroup
set_option maxRecDepth 20000 in
theorem ggX4_lookAtAll_X5_pullOut : GoodIn wsX4_lookAtAll wsX5_pullOut := goodIn_r _ [46, 47, 48, 49, 50, 51, 52, 18, 19, 15, 20, 21, 22, 7, 8, 9, 10, 11, 23, 24, 25, 26, 27, 28, 29, 30, 31, 53, 54, 55, 45, 56, 57, 58, 59, 60, 61, 62, 63, 64, 65, 66, 67, 68, 69, 70, 71, 72, 73, 74, 75, 76, 77, 78, 79, 80, 81, 82, 83, 84, 85, 86, 87, 88, 89, 90, 91, 120, 121, 122, 123, 124, 125, 126, 127, 128, 114, 115, 116, 117, 118, 119, 110, 111, 112, 113] (by decide +kernel) (by decide +kernel)
set_option maxRecDepth 20000 in
theorem gX4_lookAtAll_X5_pullOut : GoodIn wsX4_lookAtAll (wsV RX4 54 RX5 yX5_pullOut wsX5_pullOut) := goodIn_app (goodIn_of _ (by decide +kernel)) ggX4_lookAtAll_X5_pullOut
set_option maxRecDepth 20000 in
theorem ggX4_lookAtAll_X4_note : GoodIn wsX4_lookAtAll wsX4_note := goodIn_r _ [96, 5, 1, 97, 98, 2, 99, 100, 101, 102, 103, 104, 105, 106, 107, 108, 109, 120, 121, 122, 123, 124, 125, 126, 127, 128] (by decide +kernel) (by decide +kernel)
set_option maxRecDepth 20000 in
theorem gX4_lookAtAll_X4_note : GoodIn wsX4_lookAtAll (wsV RX4 60 RX4 yX4_note wsX4_note) := goodIn_app (goodIn_of _ (by decide +kernel)) ggX4_lookAtAll_X4_note
theorem dX4_lookAtAll_0 : decode cX4_lookAtAll 0 = .ok (.aload_n 0, 1) := by decide +kernel
theorem dX4_lookAtAll_1 : decode cX4_lookAtAll 1 = .ok (.iconst 0, 1) := by decide +kernel
theorem dX4_lookAtAll_2 : decode cX4_lookAtAll 2 = .ok (.putfield 18, 3) := by decide +kernel
theorem dX4_lookAtAll_5 : decode cX4_lookAtAll 5 = .ok (.aload_n 0, 1) := by decide +kernel
theorem dX4_lookAtAll_6 : decode cX4_lookAtAll 6 = .ok (.iconst 0, 1) := by decide +kernel
theorem dX4_lookAtAll_7 : decode cX4_lookAtAll 7 = .ok (.putfield 22, 3) := by decide +kernel
theorem dX4_lookAtAll_10 : decode cX4_lookAtAll 10 = .ok (.iconst 1, 1) := by decide +kernel
theorem dX4_lookAtAll_11 : decode cX4_lookAtAll 11 = .ok (.istore_n 2, 1) := by decide +kernel
theorem dX4_lookAtAll_12 : decode cX4_lookAtAll 12 = .ok (.iload_n 2, 1) := by decide +kernel
theorem dX4_lookAtAll_13 : decode cX4_lookAtAll 13 = .ok (.aload_n 0, 1) := by decide +kernel
theorem dX4_lookAtAll_14 : decode cX4_lookAtAll 14 = .ok (.getfield 31, 3) := by decide +kernel
theorem dX4_lookAtAll_17 : decode cX4_lookAtAll 17 = .ok (.invokevirtual 43, 3) := by decide +kernel
theorem dX4_lookAtAll_20 : decode cX4_lookAtAll 20 = .ok (.if_icmp .gt 58, 3) := by decide +kernel
theorem dX4_lookAtAll_23 : decode cX4_lookAtAll 23 = .ok (.iconst 0, 1) := by decide +kernel
theorem dX4_lookAtAll_24 : decode cX4_lookAtAll 24 = .ok (.istore_n 3, 1) := by decide +kernel
theorem dX4_lookAtAll_25 : decode cX4_lookAtAll 25 = .ok (.iload_n 3, 1) := by decide +kernel
theorem dX4_lookAtAll_26 : decode cX4_lookAtAll 26 = .ok (.iload_n 2, 1) := by decide +kernel
theorem dX4_lookAtAll_27 : decode cX4_lookAtAll 27 = .ok (.iadd, 1) := by decide +kernel
theorem dX4_lookAtAll_28 : decode cX4_lookAtAll 28 = .ok (.aload_n 0, 1) := by decide +kernel
theorem dX4_lookAtAll_29 : decode cX4_lookAtAll 29 = .ok (.getfield 31, 3) := by decide +kernel
theorem dX4_lookAtAll_32 : decode cX4_lookAtAll 32 = .ok (.invokevirtual 43, 3) := by decide +kernel
theorem dX4_lookAtAll_35 : decode cX4_lookAtAll 35 = .ok (.if_icmp .gt 37, 3) := by decide +kernel
theorem dX4_lookAtAll_38 : decode cX4_lookAtAll 38 = .ok (.aload_n 0, 1) := by decide +kernel
theorem dX4_lookAtAll_39 : decode cX4_lookAtAll 39 = .ok (.getfield 35, 3) := by decide +kernel
theorem dX4_lookAtAll_42 : decode cX4_lookAtAll 42 = .ok (.iload_n 3, 1) := by decide +kernel
theorem dX4_lookAtAll_43 : decode cX4_lookAtAll 43 = .ok (.iload_n 2, 1) := by decide +kernel
theorem dX4_lookAtAll_44 : decode cX4_lookAtAll 44 = .ok (.invokevirtual 48, 3) := by decide +kernel
theorem dX4_lookAtAll_47 : decode cX4_lookAtAll 47 = .ok (.ifCond .eq 19, 3) := by decide +kernel
theorem dX4_lookAtAll_50 : decode cX4_lookAtAll 50 = .ok (.aload_n 0, 1) := by decide +kernel
theorem dX4_lookAtAll_51 : decode cX4_lookAtAll 51 = .ok (.getfield 39, 3) := by decide +kernel
theorem dX4_lookAtAll_54 : decode cX4_lookAtAll 54 = .ok (.iload_n 1, 1) := by decide +kernel
theorem dX4_lookAtAll_55 : decode cX4_lookAtAll 55 = .ok (.iload_n 3, 1) := by decide +kernel
theorem dX4_lookAtAll_56 : decode cX4_lookAtAll 56 = .ok (.iload_n 2, 1) := by decide +kernel
theorem dX4_lookAtAll_57 : decode cX4_lookAtAll 57 = .ok (.invokevirtual 54, 3) := by decide +kernel
theorem dX4_lookAtAll_60 : decode cX4_lookAtAll 60 = .ok (.aload_n 0, 1) := by decide +kernel
theorem dX4_lookAtAll_61 : decode cX4_lookAtAll 61 = .ok (.iload_n 3, 1) := by decide +kernel
theorem dX4_lookAtAll_62 : decode cX4_lookAtAll 62 = .ok (.iload_n 2, 1) := by decide +kernel
theorem dX4_lookAtAll_63 : decode cX4_lookAtAll 63 = .ok (.invokevirtual 60, 3) := by decide +kernel
theorem dX4_lookAtAll_66 : decode cX4_lookAtAll 66 = .ok (.iinc 3 1, 3) := by decide +kernel
theorem dX4_lookAtAll_69 : decode cX4_lookAtAll 69 = .ok (.goto (-44), 3) := by decide +kernel
theorem dX4_lookAtAll_72 : decode cX4_lookAtAll 72 = .ok (.iinc 2 1, 3) := by decide +kernel
theorem dX4_lookAtAll_75 : decode cX4_lookAtAll 75 = .ok (.goto (-63), 3) := by decide +kernel
theorem dX4_lookAtAll_78 : decode cX4_lookAtAll 78 = .ok (.return_, 1) := by decide +kernel
theorem dX4_note_0 : decode cX4_note 0 = .ok (.aload_n 0, 1) := by decide +kernel
theorem dX4_note_1 : decode cX4_note 1 = .ok (.getfield 39, 3) := by decide +kernel
theorem dX4_note_4 : decode cX4_note 4 = .ok (.getfield 64, 3) := by decide +kernel
theorem dX4_note_7 : decode cX4_note 7 = .ok (.ifCond .le 15, 3) := by decide +kernel
theorem dX4_note_10 : decode cX4_note 10 = .ok (.aload_n 0, 1) := by decide +kernel
theorem dX4_note_11 : decode cX4_note 11 = .ok (.getfield 18, 3) := by decide +kernel
theorem dX4_note_14 : decode cX4_note 14 = .ok (.aload_n 0, 1) := by decide +kernel
theorem dX4_note_15 : decode cX4_note 15 = .ok (.getfield 9, 3) := by decide +kernel
theorem dX4_note_18 : decode cX4_note 18 = .ok (.arraylength, 1) := by decide +kernel
theorem dX4_note_19 : decode cX4_note 19 = .ok (.if_icmp .lt 4, 3) := by decide +kernel
theorem dX4_note_22 : decode cX4_note 22 = .ok (.return_, 1) := by decide +kernel
theorem dX4_note_23 : decode cX4_note 23 = .ok (.aload_n 0, 1) := by decide +kernel
theorem dX4_note_24 : decode cX4_note 24 = .ok (.getfield 9, 3) := by decide +kernel
theorem dX4_note_27 : decode cX4_note 27 = .ok (.aload_n 0, 1) := by decide +kernel
theorem dX4_note_28 : decode cX4_note 28 = .ok (.getfield 18, 3) := by decide +kernel
theorem dX4_note_31 : decode cX4_note 31 = .ok (.aload_n 0, 1) := by decide +kernel
theorem dX4_note_32 : decode cX4_note 32 = .ok (.getfield 39, 3) := by decide +kernel
theorem dX4_note_35 : decode cX4_note 35 = .ok (.getfield 64, 3) := by decide +kernel
theorem dX4_note_38 : decode cX4_note 38 = .ok (.iastore, 1) := by decide +kernel
theorem dX4_note_39 : decode cX4_note 39 = .ok (.aload_n 0, 1) := by decide +kernel
theorem dX4_note_40 : decode cX4_note 40 = .ok (.getfield 15, 3) := by decide +kernel
theorem dX4_note_43 : decode cX4_note 43 = .ok (.aload_n 0, 1) := by decide +kernel
theorem dX4_note_44 : decode cX4_note 44 = .ok (.getfield 18, 3) := by decide +kernel
theorem dX4_note_47 : decode cX4_note 47 = .ok (.aload_n 0, 1) := by decide +kernel
theorem dX4_note_48 : decode cX4_note 48 = .ok (.getfield 39, 3) := by decide +kernel
theorem dX4_note_51 : decode cX4_note 51 = .ok (.getfield 67, 3) := by decide +kernel
theorem dX4_note_54 : decode cX4_note 54 = .ok (.iastore, 1) := by decide +kernel
theorem dX4_note_55 : decode cX4_note 55 = .ok (.aload_n 0, 1) := by decide +kernel
theorem dX4_note_56 : decode cX4_note 56 = .ok (.dup, 1) := by decide +kernel
theorem dX4_note_57 : decode cX4_note 57 = .ok (.getfield 18, 3) := by decide +kernel
theorem dX4_note_60 : decode cX4_note 60 = .ok (.iconst 1, 1) := by decide +kernel
theorem dX4_note_61 : decode cX4_note 61 = .ok (.iadd, 1) := by decide +kernel
theorem dX4_note_62 : decode cX4_note 62 = .ok (.putfield 18, 3) := by decide +kernel
theorem dX4_note_65 : decode cX4_note 65 = .ok (.aload_n 0, 1) := by decide +kernel
theorem dX4_note_66 : decode cX4_note 66 = .ok (.getfield 39, 3) := by decide +kernel
theorem dX4_note_69 : decode cX4_note 69 = .ok (.getfield 64, 3) := by decide +kernel
theorem dX4_note_72 : decode cX4_note 72 = .ok (.aload_n 0, 1) := by decide +kernel
theorem dX4_note_73 : decode cX4_note 73 = .ok (.getfield 22, 3) := by decide +kernel
theorem dX4_note_76 : decode cX4_note 76 = .ok (.if_icmp .le 24, 3) := by decide +kernel
theorem dX4_note_79 : decode cX4_note 79 = .ok (.aload_n 0, 1) := by decide +kernel
theorem dX4_note_80 : decode cX4_note 80 = .ok (.aload_n 0, 1) := by decide +kernel
theorem dX4_note_81 : decode cX4_note 81 = .ok (.getfield 39, 3) := by decide +kernel
theorem dX4_note_84 : decode cX4_note 84 = .ok (.getfield 64, 3) := by decide +kernel
theorem dX4_note_87 : decode cX4_note 87 = .ok (.putfield 22, 3) := by decide +kernel
theorem dX4_note_90 : decode cX4_note 90 = .ok (.aload_n 0, 1) := by decide +kernel
theorem dX4_note_91 : decode cX4_note 91 = .ok (.iload_n 1, 1) := by decide +kernel
theorem dX4_note_92 : decode cX4_note 92 = .ok (.putfield 25, 3) := by decide +kernel
theorem dX4_note_95 : decode cX4_note 95 = .ok (.aload_n 0, 1) := by decide +kernel
theorem dX4_note_96 : decode cX4_note 96 = .ok (.iload_n 2, 1) := by decide +kernel
theorem dX4_note_97 : decode cX4_note 97 = .ok (.putfield 28, 3) := by decide +kernel
theorem dX4_note_100 : decode cX4_note 100 = .ok (.return_, 1) := by decide +kernel
theorem dX4_bestSumOfTwo_0 : decode cX4_bestSumOfTwo 0 = .ok (.aload_n 0, 1) := by decide +kernel
theorem dX4_bestSumOfTwo_1 : decode cX4_bestSumOfTwo 1 = .ok (.getfield 22, 3) := by decide +kernel
theorem dX4_bestSumOfTwo_4 : decode cX4_bestSumOfTwo 4 = .ok (.istore_n 1, 1) := by decide +kernel
theorem dX4_bestSumOfTwo_5 : decode cX4_bestSumOfTwo 5 = .ok (.iconst 0, 1) := by decide +kernel
theorem dX4_bestSumOfTwo_6 : decode cX4_bestSumOfTwo 6 = .ok (.istore_n 2, 1) := by decide +kernel
theorem dX4_bestSumOfTwo_7 : decode cX4_bestSumOfTwo 7 = .ok (.iload_n 2, 1) := by decide +kernel
theorem dX4_bestSumOfTwo_8 : decode cX4_bestSumOfTwo 8 = .ok (.aload_n 0, 1) := by decide +kernel
theorem dX4_bestSumOfTwo_9 : decode cX4_bestSumOfTwo 9 = .ok (.getfield 18, 3) := by decide +kernel
theorem dX4_bestSumOfTwo_12 : decode cX4_bestSumOfTwo 12 = .ok (.if_icmp .ge 61, 3) := by decide +kernel
theorem dX4_bestSumOfTwo_15 : decode cX4_bestSumOfTwo 15 = .ok (.iload_n 2, 1) := by decide +kernel
theorem dX4_bestSumOfTwo_16 : decode cX4_bestSumOfTwo 16 = .ok (.iconst 1, 1) := by decide +kernel
theorem dX4_bestSumOfTwo_17 : decode cX4_bestSumOfTwo 17 = .ok (.iadd, 1) := by decide +kernel
theorem dX4_bestSumOfTwo_18 : decode cX4_bestSumOfTwo 18 = .ok (.istore_n 3, 1) := by decide +kernel
theorem dX4_bestSumOfTwo_19 : decode cX4_bestSumOfTwo 19 = .ok (.iload_n 3, 1) := by decide +kernel
theorem dX4_bestSumOfTwo_20 : decode cX4_bestSumOfTwo 20 = .ok (.aload_n 0, 1) := by decide +kernel
theorem dX4_bestSumOfTwo_21 : decode cX4_bestSumOfTwo 21 = .ok (.getfield 18, 3) := by decide +kernel
theorem dX4_bestSumOfTwo_24 : decode cX4_bestSumOfTwo 24 = .ok (.if_icmp .ge 43, 3) := by decide +kernel
theorem dX4_bestSumOfTwo_27 : decode cX4_bestSumOfTwo 27 = .ok (.aload_n 0, 1) := by decide +kernel
theorem dX4_bestSumOfTwo_28 : decode cX4_bestSumOfTwo 28 = .ok (.getfield 15, 3) := by decide +kernel
theorem dX4_bestSumOfTwo_31 : decode cX4_bestSumOfTwo 31 = .ok (.iload_n 2, 1) := by decide +kernel
theorem dX4_bestSumOfTwo_32 : decode cX4_bestSumOfTwo 32 = .ok (.iaload, 1) := by decide +kernel
theorem dX4_bestSumOfTwo_33 : decode cX4_bestSumOfTwo 33 = .ok (.aload_n 0, 1) := by decide +kernel
theorem dX4_bestSumOfTwo_34 : decode cX4_bestSumOfTwo 34 = .ok (.getfield 15, 3) := by decide +kernel
theorem dX4_bestSumOfTwo_37 : decode cX4_bestSumOfTwo 37 = .ok (.iload_n 3, 1) := by decide +kernel
theorem dX4_bestSumOfTwo_38 : decode cX4_bestSumOfTwo 38 = .ok (.iaload, 1) := by decide +kernel
theorem dX4_bestSumOfTwo_39 : decode cX4_bestSumOfTwo 39 = .ok (.iand, 1) := by decide +kernel
theorem dX4_bestSumOfTwo_40 : decode cX4_bestSumOfTwo 40 = .ok (.ifCond .ne 21, 3) := by decide +kernel
theorem dX4_bestSumOfTwo_43 : decode cX4_bestSumOfTwo 43 = .ok (.iload_n 1, 1) := by decide +kernel
theorem dX4_bestSumOfTwo_44 : decode cX4_bestSumOfTwo 44 = .ok (.aload_n 0, 1) := by decide +kernel
theorem dX4_bestSumOfTwo_45 : decode cX4_bestSumOfTwo 45 = .ok (.getfield 9, 3) := by decide +kernel
theorem dX4_bestSumOfTwo_48 : decode cX4_bestSumOfTwo 48 = .ok (.iload_n 2, 1) := by decide +kernel
theorem dX4_bestSumOfTwo_49 : decode cX4_bestSumOfTwo 49 = .ok (.iaload, 1) := by decide +kernel
theorem dX4_bestSumOfTwo_50 : decode cX4_bestSumOfTwo 50 = .ok (.aload_n 0, 1) := by decide +kernel
theorem dX4_bestSumOfTwo_51 : decode cX4_bestSumOfTwo 51 = .ok (.getfield 9, 3) := by decide +kernel
theorem dX4_bestSumOfTwo_54 : decode cX4_bestSumOfTwo 54 = .ok (.iload_n 3, 1) := by decide +kernel
theorem dX4_bestSumOfTwo_55 : decode cX4_bestSumOfTwo 55 = .ok (.iaload, 1) := by decide +kernel
theorem dX4_bestSumOfTwo_56 : decode cX4_bestSumOfTwo 56 = .ok (.iadd, 1) := by decide +kernel
theorem dX4_bestSumOfTwo_57 : decode cX4_bestSumOfTwo 57 = .ok (.invokestatic 70, 3) := by decide +kernel
theorem dX4_bestSumOfTwo_60 : decode cX4_bestSumOfTwo 60 = .ok (.istore_n 1, 1) := by decide +kernel
theorem dX4_bestSumOfTwo_61 : decode cX4_bestSumOfTwo 61 = .ok (.iinc 3 1, 3) := by decide +kernel
theorem dX4_bestSumOfTwo_64 : decode cX4_bestSumOfTwo 64 = .ok (.goto (-45), 3) := by decide +kernel
theorem dX4_bestSumOfTwo_67 : decode cX4_bestSumOfTwo 67 = .ok (.iinc 2 1, 3) := by decide +kernel
theorem dX4_bestSumOfTwo_70 : decode cX4_bestSumOfTwo 70 = .ok (.goto (-63), 3) := by decide +kernel
theorem dX4_bestSumOfTwo_73 : decode cX4_bestSumOfTwo 73 = .ok (.iload_n 1, 1) := by decide +kernel
theorem dX4_bestSumOfTwo_74 : decode cX4_bestSumOfTwo 74 = .ok (.ireturn, 1) := by decide +kernel
end
section
theorem dX5_init_0 : decode cX5_init 0 = .ok (.aload_n 0, 1) := by decide +kernel
theorem dX5_init_1 : decode cX5_init 1 = .ok (.invokespecial 3, 3) := by decide +kernel
theorem dX5_init_4 : decode cX5_init 4 = .ok (.aload_n 0, 1) := by decide +kernel
theorem dX5_init_5 : decode cX5_init 5 = .ok (.bipush 20, 2) := by decide +kernel
theorem dX5_init_7 : decode cX5_init 7 = .ok (.newarray .int, 2) := by decide +kernel
theorem dX5_init_9 : decode cX5_init 9 = .ok (.putfield 9, 3) := by decide +kernel
theorem dX5_init_12 : decode cX5_init 12 = .ok (.aload_n 0, 1) := by decide +kernel
theorem dX5_init_13 : decode cX5_init 13 = .ok (.iconst 0, 1) := by decide +kernel
theorem dX5_init_14 : decode cX5_init 14 = .ok (.putfield 15, 3) := by decide +kernel
theorem dX5_init_17 : decode cX5_init 17 = .ok (.aload_n 0, 1) := by decide +kernel
theorem dX5_init_18 : decode cX5_init 18 = .ok (.iconst 0, 1) := by decide +kernel
theorem dX5_init_19 : decode cX5_init 19 = .ok (.putfield 19, 3) := by decide +kernel
theorem dX5_init_22 : decode cX5_init 22 = .ok (.aload_n 0, 1) := by decide +kernel
theorem dX5_init_23 : decode cX5_init 23 = .ok (.iconst 0, 1) := by decide +kernel
theorem dX5_init_24 : decode cX5_init 24 = .ok (.putfield 22, 3) := by decide +kernel
theorem dX5_init_27 : decode cX5_init 27 = .ok (.aload_n 0, 1) := by decide +kernel
theorem dX5_init_28 : decode cX5_init 28 = .ok (.iconst 0, 1) := by decide +kernel
theorem dX5_init_29 : decode cX5_init 29 = .ok (.putfield 25, 3) := by decide +kernel
theorem dX5_init_32 : decode cX5_init 32 = .ok (.aload_n 0, 1) := by decide +kernel
theorem dX5_init_33 : decode cX5_init 33 = .ok (.iconst 0, 1) := by decide +kernel
theorem dX5_init_34 : decode cX5_init 34 = .ok (.putfield 28, 3) := by decide +kernel
theorem dX5_init_37 : decode cX5_init 37 = .ok (.aload_n 0, 1) := by decide +kernel
theorem dX5_init_38 : decode cX5_init 38 = .ok (.iconst 0, 1) := by decide +kernel
theorem dX5_init_39 : decode cX5_init 39 = .ok (.putfield 31, 3) := by decide +kernel
theorem dX5_init_42 : decode cX5_init 42 = .ok (.aload_n 0, 1) := by decide +kernel
theorem dX5_init_43 : decode cX5_init 43 = .ok (.aload_n 1, 1) := by decide +kernel
theorem dX5_init_44 : decode cX5_init 44 = .ok (.putfield 34, 3) := by decide +kernel
theorem dX5_init_47 : decode cX5_init 47 = .ok (.aload_n 0, 1) := by decide +kernel
theorem dX5_init_48 : decode cX5_init 48 = .ok (.aload_n 2, 1) := by decide +kernel
theorem dX5_init_49 : decode cX5_init 49 = .ok (.putfield 38, 3) := by decide +kernel
theorem dX5_init_52 : decode cX5_init 52 = .ok (.return_, 1) := by decide +kernel
set_option maxRecDepth 20000 in
theorem ggX5_pullOut_X2_startsLike : GoodIn wsX5_pullOut wsX2_startsLike := goodIn_r _ [10, 11, 12, 13, 14, 15, 16, 17, 18, 19, 20, 9, 21, 22, 23, 24, 25, 26, 76, 77, 78, 79, 80, 81, 82, 83, 84, 85] (by decide +kernel) (by decide +kernel)
set_option maxRecDepth 20000 in
theorem gX5_pullOut_X2_startsLike : GoodIn wsX5_pullOut (wsV RX5 42 RX2 yX2_startsLike wsX2_startsLike) := goodIn_app (goodIn_of _ (by decide +kernel)) ggX5_pullOut_X2_startsLike
set_option maxRecDepth 20000 in
theorem ggX5_pullOut_X5_take : GoodIn wsX5_pullOut wsX5_take := goodIn_r _ [31, 3, 32, 33, 34, 67, 68, 69, 70, 71, 72, 73, 74, 75] (by decide +kernel) (by decide +kernel)
set_option maxRecDepth 20000 in
theorem gX5_pullOut_X5_take : GoodIn wsX5_pullOut (wsV RX5 48 RX5 yX5_take wsX5_take) := goodIn_app (goodIn_of _ (by decide +kernel)) ggX5_pullOut_X5_take
set_option maxRecDepth 20000 in
theorem ggX5_pullOut_X5_countTold : GoodIn wsX5_pullOut wsX5_countTold := goodIn_r _ [38, 4, 39, 40, 41, 30, 42, 3, 43, 1, 34, 44, 45, 46, 15, 47, 48, 17, 49, 50, 51, 52, 53, 54, 55, 56, 57, 58, 59, 60, 61, 62, 63, 64, 65, 66, 67, 68, 69, 70, 71, 72, 73, 74, 75, 82, 83, 84, 85] (by decide +kernel) (by decide +kernel)
set_option maxRecDepth 20000 in
theorem gX5_pullOut_X5_countTold : GoodIn wsX5_pullOut (wsV RX5 52 RX5 yX5_countTold wsX5_countTold) := goodIn_app (goodIn_of _ (by decide +kernel)) ggX5_pullOut_X5_countTold
theorem dX5_pullOut_0 : decode cX5_pullOut 0 = .ok (.aload_n 0, 1) := by decide +kernel
theorem dX5_pullOut_1 : decode cX5_pullOut 1 = .ok (.iload_n 1, 1) := by decide +kernel
theorem dX5_pullOut_2 : decode cX5_pullOut 2 = .ok (.putfield 15, 3) := by decide +kernel
theorem dX5_pullOut_5 : decode cX5_pullOut 5 = .ok (.aload_n 0, 1) := by decide +kernel
theorem dX5_pullOut_6 : decode cX5_pullOut 6 = .ok (.aload_n 0, 1) := by decide +kernel
theorem dX5_pullOut_7 : decode cX5_pullOut 7 = .ok (.getfield 38, 3) := by decide +kernel
theorem dX5_pullOut_10 : decode cX5_pullOut 10 = .ok (.iload_n 2, 1) := by decide +kernel
theorem dX5_pullOut_11 : decode cX5_pullOut 11 = .ok (.iload_n 3, 1) := by decide +kernel
theorem dX5_pullOut_12 : decode cX5_pullOut 12 = .ok (.invokevirtual 42, 3) := by decide +kernel
theorem dX5_pullOut_15 : decode cX5_pullOut 15 = .ok (.iload_n 3, 1) := by decide +kernel
theorem dX5_pullOut_16 : decode cX5_pullOut 16 = .ok (.invokevirtual 48, 3) := by decide +kernel
theorem dX5_pullOut_19 : decode cX5_pullOut 19 = .ok (.aload_n 0, 1) := by decide +kernel
theorem dX5_pullOut_20 : decode cX5_pullOut 20 = .ok (.iload_n 3, 1) := by decide +kernel
theorem dX5_pullOut_21 : decode cX5_pullOut 21 = .ok (.invokevirtual 52, 3) := by decide +kernel
theorem dX5_pullOut_24 : decode cX5_pullOut 24 = .ok (.aload_n 0, 1) := by decide +kernel
theorem dX5_pullOut_25 : decode cX5_pullOut 25 = .ok (.aload_n 0, 1) := by decide +kernel
theorem dX5_pullOut_26 : decode cX5_pullOut 26 = .ok (.getfield 19, 3) := by decide +kernel
theorem dX5_pullOut_29 : decode cX5_pullOut 29 = .ok (.iload_n 3, 1) := by decide +kernel
theorem dX5_pullOut_30 : decode cX5_pullOut 30 = .ok (.imul, 1) := by decide +kernel
theorem dX5_pullOut_31 : decode cX5_pullOut 31 = .ok (.iload_n 3, 1) := by decide +kernel
theorem dX5_pullOut_32 : decode cX5_pullOut 32 = .ok (.iconst 1, 1) := by decide +kernel
theorem dX5_pullOut_33 : decode cX5_pullOut 33 = .ok (.iadd, 1) := by decide +kernel
theorem dX5_pullOut_34 : decode cX5_pullOut 34 = .ok (.isub, 1) := by decide +kernel
theorem dX5_pullOut_35 : decode cX5_pullOut 35 = .ok (.aload_n 0, 1) := by decide +kernel
theorem dX5_pullOut_36 : decode cX5_pullOut 36 = .ok (.getfield 19, 3) := by decide +kernel
theorem dX5_pullOut_39 : decode cX5_pullOut 39 = .ok (.isub, 1) := by decide +kernel
theorem dX5_pullOut_40 : decode cX5_pullOut 40 = .ok (.aload_n 0, 1) := by decide +kernel
theorem dX5_pullOut_41 : decode cX5_pullOut 41 = .ok (.getfield 28, 3) := by decide +kernel
theorem dX5_pullOut_44 : decode cX5_pullOut 44 = .ok (.isub, 1) := by decide +kernel
theorem dX5_pullOut_45 : decode cX5_pullOut 45 = .ok (.putfield 31, 3) := by decide +kernel
theorem dX5_pullOut_48 : decode cX5_pullOut 48 = .ok (.return_, 1) := by decide +kernel
theorem dX5_take_0 : decode cX5_take 0 = .ok (.aload_n 0, 1) := by decide +kernel
theorem dX5_take_1 : decode cX5_take 1 = .ok (.iconst 0, 1) := by decide +kernel
theorem dX5_take_2 : decode cX5_take 2 = .ok (.putfield 19, 3) := by decide +kernel
theorem dX5_take_5 : decode cX5_take 5 = .ok (.aload_n 0, 1) := by decide +kernel
theorem dX5_take_6 : decode cX5_take 6 = .ok (.iconst 0, 1) := by decide +kernel
theorem dX5_take_7 : decode cX5_take 7 = .ok (.putfield 22, 3) := by decide +kernel
theorem dX5_take_10 : decode cX5_take 10 = .ok (.aload_n 0, 1) := by decide +kernel
theorem dX5_take_11 : decode cX5_take 11 = .ok (.iconst 0, 1) := by decide +kernel
theorem dX5_take_12 : decode cX5_take 12 = .ok (.putfield 25, 3) := by decide +kernel
theorem dX5_take_15 : decode cX5_take 15 = .ok (.iconst 0, 1) := by decide +kernel
theorem dX5_take_16 : decode cX5_take 16 = .ok (.istore_n 3, 1) := by decide +kernel
theorem dX5_take_17 : decode cX5_take 17 = .ok (.iload_n 3, 1) := by decide +kernel
theorem dX5_take_18 : decode cX5_take 18 = .ok (.bipush 20, 2) := by decide +kernel
theorem dX5_take_20 : decode cX5_take 20 = .ok (.if_icmp .ge 91, 3) := by decide +kernel
theorem dX5_take_23 : decode cX5_take 23 = .ok (.iconst 1, 1) := by decide +kernel
theorem dX5_take_24 : decode cX5_take 24 = .ok (.iload_n 2, 1) := by decide +kernel
theorem dX5_take_25 : decode cX5_take 25 = .ok (.ishl, 1) := by decide +kernel
theorem dX5_take_26 : decode cX5_take 26 = .ok (.iconst 1, 1) := by decide +kernel
theorem dX5_take_27 : decode cX5_take 27 = .ok (.isub, 1) := by decide +kernel
theorem dX5_take_28 : decode cX5_take 28 = .ok (.iload_n 3, 1) := by decide +kernel
theorem dX5_take_29 : decode cX5_take 29 = .ok (.ishl, 1) := by decide +kernel
theorem dX5_take_30 : decode cX5_take 30 = .ok (.istore 4, 2) := by decide +kernel
theorem dX5_take_32 : decode cX5_take 32 = .ok (.iload_n 1, 1) := by decide +kernel
theorem dX5_take_33 : decode cX5_take 33 = .ok (.iconst 1, 1) := by decide +kernel
theorem dX5_take_34 : decode cX5_take 34 = .ok (.iload_n 3, 1) := by decide +kernel
theorem dX5_take_35 : decode cX5_take 35 = .ok (.ishl, 1) := by decide +kernel
theorem dX5_take_36 : decode cX5_take 36 = .ok (.iand, 1) := by decide +kernel
theorem dX5_take_37 : decode cX5_take 37 = .ok (.ifCond .eq 68, 3) := by decide +kernel
theorem dX5_take_40 : decode cX5_take 40 = .ok (.aload_n 0, 1) := by decide +kernel
theorem dX5_take_41 : decode cX5_take 41 = .ok (.getfield 25, 3) := by decide +kernel
theorem dX5_take_44 : decode cX5_take 44 = .ok (.iload 4, 2) := by decide +kernel
theorem dX5_take_46 : decode cX5_take 46 = .ok (.iand, 1) := by decide +kernel
theorem dX5_take_47 : decode cX5_take 47 = .ok (.ifCond .ne 58, 3) := by decide +kernel
theorem dX5_take_50 : decode cX5_take 50 = .ok (.aload_n 0, 1) := by decide +kernel
theorem dX5_take_51 : decode cX5_take 51 = .ok (.getfield 19, 3) := by decide +kernel
theorem dX5_take_54 : decode cX5_take 54 = .ok (.aload_n 0, 1) := by decide +kernel
theorem dX5_take_55 : decode cX5_take 55 = .ok (.getfield 9, 3) := by decide +kernel
theorem dX5_take_58 : decode cX5_take 58 = .ok (.arraylength, 1) := by decide +kernel
theorem dX5_take_59 : decode cX5_take 59 = .ok (.if_icmp .ge 46, 3) := by decide +kernel
theorem dX5_take_62 : decode cX5_take 62 = .ok (.aload_n 0, 1) := by decide +kernel
theorem dX5_take_63 : decode cX5_take 63 = .ok (.getfield 9, 3) := by decide +kernel
theorem dX5_take_66 : decode cX5_take 66 = .ok (.aload_n 0, 1) := by decide +kernel
theorem dX5_take_67 : decode cX5_take 67 = .ok (.getfield 19, 3) := by decide +kernel
theorem dX5_take_70 : decode cX5_take 70 = .ok (.iload_n 3, 1) := by decide +kernel
theorem dX5_take_71 : decode cX5_take 71 = .ok (.iastore, 1) := by decide +kernel
theorem dX5_take_72 : decode cX5_take 72 = .ok (.aload_n 0, 1) := by decide +kernel
theorem dX5_take_73 : decode cX5_take 73 = .ok (.dup, 1) := by decide +kernel
theorem dX5_take_74 : decode cX5_take 74 = .ok (.getfield 19, 3) := by decide +kernel
theorem dX5_take_77 : decode cX5_take 77 = .ok (.iconst 1, 1) := by decide +kernel
theorem dX5_take_78 : decode cX5_take 78 = .ok (.iadd, 1) := by decide +kernel
theorem dX5_take_79 : decode cX5_take 79 = .ok (.putfield 19, 3) := by decide +kernel
theorem dX5_take_82 : decode cX5_take 82 = .ok (.aload_n 0, 1) := by decide +kernel
theorem dX5_take_83 : decode cX5_take 83 = .ok (.dup, 1) := by decide +kernel
theorem dX5_take_84 : decode cX5_take 84 = .ok (.getfield 22, 3) := by decide +kernel
theorem dX5_take_87 : decode cX5_take 87 = .ok (.iconst 1, 1) := by decide +kernel
theorem dX5_take_88 : decode cX5_take 88 = .ok (.iload_n 3, 1) := by decide +kernel
theorem dX5_take_89 : decode cX5_take 89 = .ok (.ishl, 1) := by decide +kernel
theorem dX5_take_90 : decode cX5_take 90 = .ok (.ior, 1) := by decide +kernel
theorem dX5_take_91 : decode cX5_take 91 = .ok (.putfield 22, 3) := by decide +kernel
theorem dX5_take_94 : decode cX5_take 94 = .ok (.aload_n 0, 1) := by decide +kernel
theorem dX5_take_95 : decode cX5_take 95 = .ok (.dup, 1) := by decide +kernel
theorem dX5_take_96 : decode cX5_take 96 = .ok (.getfield 25, 3) := by decide +kernel
theorem dX5_take_99 : decode cX5_take 99 = .ok (.iload 4, 2) := by decide +kernel
theorem dX5_take_101 : decode cX5_take 101 = .ok (.ior, 1) := by decide +kernel
theorem dX5_take_102 : decode cX5_take 102 = .ok (.putfield 25, 3) := by decide +kernel
theorem dX5_take_105 : decode cX5_take 105 = .ok (.iinc 3 1, 3) := by decide +kernel
theorem dX5_take_108 : decode cX5_take 108 = .ok (.goto (-91), 3) := by decide +kernel
theorem dX5_take_111 : decode cX5_take 111 = .ok (.return_, 1) := by decide +kernel
set_option maxRecDepth 20000 in
theorem ggX5_countTold_X5_signsOfLine : GoodIn wsX5_countTold wsX5_signsOfLine := goodIn_r _ [6, 7, 8, 9, 10, 11, 12, 13, 14, 15, 16, 17, 18, 36, 37, 38, 39, 40, 41, 42, 43, 44, 45, 46, 47, 48] (by decide +kernel) (by decide +kernel)
set_option maxRecDepth 20000 in
theorem gX5_countTold_X5_signsOfLine : GoodIn wsX5_countTold (wsV RX5 56 RX5 yX5_signsOfLine wsX5_signsOfLine) := goodIn_app (goodIn_of _ (by decide +kernel)) ggX5_countTold_X5_signsOfLine
set_option maxRecDepth 20000 in
theorem ggX5_countTold_X5_differs : GoodIn wsX5_countTold wsX5_differs := goodIn_r _ [22, 8, 9, 10, 7, 23, 24, 25, 14, 26, 16, 17, 18, 27, 36, 37, 38, 39, 40, 41, 42, 43, 44, 45, 46, 47, 48] (by decide +kernel) (by decide +kernel)
set_option maxRecDepth 20000 in
theorem gX5_countTold_X5_differs : GoodIn wsX5_countTold (wsV RX5 60 RX5 yX5_differs wsX5_differs) := goodIn_app (goodIn_of _ (by decide +kernel)) ggX5_countTold_X5_differs
set_option maxRecDepth 20000 in
theorem ggX5_countTold_X5_stoodAhead : GoodIn wsX5_countTold wsX5_stoodAhead := goodIn_r _ [31, 2, 3, 4, 5, 6, 7, 8, 9, 10, 11, 12, 13, 14, 15, 16, 17, 18, 32, 33, 34, 35, 23, 24, 25, 26, 27, 36, 37, 38, 39, 40, 41, 42, 43, 44, 45, 46, 47, 48] (by decide +kernel) (by decide +kernel)
set_option maxRecDepth 20000 in
theorem gX5_countTold_X5_stoodAhead : GoodIn wsX5_countTold (wsV RX5 64 RX5 yX5_stoodAhead wsX5_stoodAhead) := goodIn_app (goodIn_of _ (by decide +kernel)) ggX5_countTold_X5_stoodAhead
theorem dX5_countTold_0 : decode cX5_countTold 0 = .ok (.aload_n 0, 1) := by decide +kernel
theorem dX5_countTold_1 : decode cX5_countTold 1 = .ok (.iconst 0, 1) := by decide +kernel
theorem dX5_countTold_2 : decode cX5_countTold 2 = .ok (.putfield 28, 3) := by decide +kernel
theorem dX5_countTold_5 : decode cX5_countTold 5 = .ok (.iconst 0, 1) := by decide +kernel
theorem dX5_countTold_6 : decode cX5_countTold 6 = .ok (.istore_n 2, 1) := by decide +kernel
theorem dX5_countTold_7 : decode cX5_countTold 7 = .ok (.iload_n 2, 1) := by decide +kernel
theorem dX5_countTold_8 : decode cX5_countTold 8 = .ok (.iload_n 1, 1) := by decide +kernel
theorem dX5_countTold_9 : decode cX5_countTold 9 = .ok (.if_icmp .ge 60, 3) := by decide +kernel
theorem dX5_countTold_12 : decode cX5_countTold 12 = .ok (.aload_n 0, 1) := by decide +kernel
theorem dX5_countTold_13 : decode cX5_countTold 13 = .ok (.iload_n 2, 1) := by decide +kernel
theorem dX5_countTold_14 : decode cX5_countTold 14 = .ok (.invokevirtual 56, 3) := by decide +kernel
theorem dX5_countTold_17 : decode cX5_countTold 17 = .ok (.istore_n 3, 1) := by decide +kernel
theorem dX5_countTold_18 : decode cX5_countTold 18 = .ok (.iconst 0, 1) := by decide +kernel
theorem dX5_countTold_19 : decode cX5_countTold 19 = .ok (.istore 4, 2) := by decide +kernel
theorem dX5_countTold_21 : decode cX5_countTold 21 = .ok (.iload 4, 2) := by decide +kernel
theorem dX5_countTold_23 : decode cX5_countTold 23 = .ok (.iload_n 3, 1) := by decide +kernel
theorem dX5_countTold_24 : decode cX5_countTold 24 = .ok (.if_icmp .ge 39, 3) := by decide +kernel
theorem dX5_countTold_27 : decode cX5_countTold 27 = .ok (.aload_n 0, 1) := by decide +kernel
theorem dX5_countTold_28 : decode cX5_countTold 28 = .ok (.iload_n 2, 1) := by decide +kernel
theorem dX5_countTold_29 : decode cX5_countTold 29 = .ok (.iload 4, 2) := by decide +kernel
theorem dX5_countTold_31 : decode cX5_countTold 31 = .ok (.invokevirtual 60, 3) := by decide +kernel
theorem dX5_countTold_34 : decode cX5_countTold 34 = .ok (.ifCond .eq 23, 3) := by decide +kernel
theorem dX5_countTold_37 : decode cX5_countTold 37 = .ok (.aload_n 0, 1) := by decide +kernel
theorem dX5_countTold_38 : decode cX5_countTold 38 = .ok (.iload_n 2, 1) := by decide +kernel
theorem dX5_countTold_39 : decode cX5_countTold 39 = .ok (.iload 4, 2) := by decide +kernel
theorem dX5_countTold_41 : decode cX5_countTold 41 = .ok (.invokevirtual 64, 3) := by decide +kernel
theorem dX5_countTold_44 : decode cX5_countTold 44 = .ok (.ifCond .ne 13, 3) := by decide +kernel
theorem dX5_countTold_47 : decode cX5_countTold 47 = .ok (.aload_n 0, 1) := by decide +kernel
theorem dX5_countTold_48 : decode cX5_countTold 48 = .ok (.dup, 1) := by decide +kernel
theorem dX5_countTold_49 : decode cX5_countTold 49 = .ok (.getfield 28, 3) := by decide +kernel
theorem dX5_countTold_52 : decode cX5_countTold 52 = .ok (.iconst 1, 1) := by decide +kernel
theorem dX5_countTold_53 : decode cX5_countTold 53 = .ok (.iadd, 1) := by decide +kernel
theorem dX5_countTold_54 : decode cX5_countTold 54 = .ok (.putfield 28, 3) := by decide +kernel
theorem dX5_countTold_57 : decode cX5_countTold 57 = .ok (.iinc 4 1, 3) := by decide +kernel
theorem dX5_countTold_60 : decode cX5_countTold 60 = .ok (.goto (-39), 3) := by decide +kernel
theorem dX5_countTold_63 : decode cX5_countTold 63 = .ok (.iinc 2 1, 3) := by decide +kernel
theorem dX5_countTold_66 : decode cX5_countTold 66 = .ok (.goto (-59), 3) := by decide +kernel
theorem dX5_countTold_69 : decode cX5_countTold 69 = .ok (.return_, 1) := by decide +kernel
set_option maxRecDepth 20000 in
theorem ggX5_signsOfLine_X0_sizeOf : GoodIn wsX5_signsOfLine wsX0_sizeOf := goodIn_r _ [9, 10, 11, 12, 22, 23, 24, 25] (by decide +kernel) (by decide +kernel)
set_option maxRecDepth 20000 in
theorem gX5_signsOfLine_X0_sizeOf : GoodIn wsX5_signsOfLine (wsV RX5 67 RX0 yX0_sizeOf wsX0_sizeOf) := goodIn_app (goodIn_of _ (by decide +kernel)) ggX5_signsOfLine_X0_sizeOf
theorem dX5_signsOfLine_0 : decode cX5_signsOfLine 0 = .ok (.aload_n 0, 1) := by decide +kernel
theorem dX5_signsOfLine_1 : decode cX5_signsOfLine 1 = .ok (.getfield 19, 3) := by decide +kernel
theorem dX5_signsOfLine_4 : decode cX5_signsOfLine 4 = .ok (.ifCond .le 25, 3) := by decide +kernel
theorem dX5_signsOfLine_7 : decode cX5_signsOfLine 7 = .ok (.aload_n 0, 1) := by decide +kernel
theorem dX5_signsOfLine_8 : decode cX5_signsOfLine 8 = .ok (.getfield 34, 3) := by decide +kernel
theorem dX5_signsOfLine_11 : decode cX5_signsOfLine 11 = .ok (.aload_n 0, 1) := by decide +kernel
theorem dX5_signsOfLine_12 : decode cX5_signsOfLine 12 = .ok (.getfield 15, 3) := by decide +kernel
theorem dX5_signsOfLine_15 : decode cX5_signsOfLine 15 = .ok (.aload_n 0, 1) := by decide +kernel
theorem dX5_signsOfLine_16 : decode cX5_signsOfLine 16 = .ok (.getfield 9, 3) := by decide +kernel
theorem dX5_signsOfLine_19 : decode cX5_signsOfLine 19 = .ok (.iconst 0, 1) := by decide +kernel
theorem dX5_signsOfLine_20 : decode cX5_signsOfLine 20 = .ok (.iaload, 1) := by decide +kernel
theorem dX5_signsOfLine_21 : decode cX5_signsOfLine 21 = .ok (.iload_n 1, 1) := by decide +kernel
theorem dX5_signsOfLine_22 : decode cX5_signsOfLine 22 = .ok (.iadd, 1) := by decide +kernel
theorem dX5_signsOfLine_23 : decode cX5_signsOfLine 23 = .ok (.invokevirtual 67, 3) := by decide +kernel
theorem dX5_signsOfLine_26 : decode cX5_signsOfLine 26 = .ok (.goto 4, 3) := by decide +kernel
theorem dX5_signsOfLine_29 : decode cX5_signsOfLine 29 = .ok (.iconst 0, 1) := by decide +kernel
theorem dX5_signsOfLine_30 : decode cX5_signsOfLine 30 = .ok (.ireturn, 1) := by decide +kernel
set_option maxRecDepth 20000 in
theorem ggX5_differs_X0_signAt : GoodIn wsX5_differs wsX0_signAt := goodIn_r _ [9, 10, 11, 12, 13, 23, 24, 25, 26] (by decide +kernel) (by decide +kernel)
set_option maxRecDepth 20000 in
theorem gX5_differs_X0_signAt : GoodIn wsX5_differs (wsV RX5 72 RX0 yX0_signAt wsX0_signAt) := goodIn_app (goodIn_of _ (by decide +kernel)) ggX5_differs_X0_signAt
theorem dX5_differs_0 : decode cX5_differs 0 = .ok (.aload_n 0, 1) := by decide +kernel
theorem dX5_differs_1 : decode cX5_differs 1 = .ok (.getfield 34, 3) := by decide +kernel
theorem dX5_differs_4 : decode cX5_differs 4 = .ok (.aload_n 0, 1) := by decide +kernel
theorem dX5_differs_5 : decode cX5_differs 5 = .ok (.getfield 15, 3) := by decide +kernel
theorem dX5_differs_8 : decode cX5_differs 8 = .ok (.aload_n 0, 1) := by decide +kernel
theorem dX5_differs_9 : decode cX5_differs 9 = .ok (.getfield 9, 3) := by decide +kernel
theorem dX5_differs_12 : decode cX5_differs 12 = .ok (.iconst 0, 1) := by decide +kernel
theorem dX5_differs_13 : decode cX5_differs 13 = .ok (.iaload, 1) := by decide +kernel
theorem dX5_differs_14 : decode cX5_differs 14 = .ok (.iload_n 1, 1) := by decide +kernel
theorem dX5_differs_15 : decode cX5_differs 15 = .ok (.iadd, 1) := by decide +kernel
theorem dX5_differs_16 : decode cX5_differs 16 = .ok (.iload_n 2, 1) := by decide +kernel
theorem dX5_differs_17 : decode cX5_differs 17 = .ok (.invokevirtual 72, 3) := by decide +kernel
theorem dX5_differs_20 : decode cX5_differs 20 = .ok (.istore_n 3, 1) := by decide +kernel
theorem dX5_differs_21 : decode cX5_differs 21 = .ok (.iconst 1, 1) := by decide +kernel
theorem dX5_differs_22 : decode cX5_differs 22 = .ok (.istore 4, 2) := by decide +kernel
theorem dX5_differs_24 : decode cX5_differs 24 = .ok (.iload 4, 2) := by decide +kernel
theorem dX5_differs_26 : decode cX5_differs 26 = .ok (.aload_n 0, 1) := by decide +kernel
theorem dX5_differs_27 : decode cX5_differs 27 = .ok (.getfield 19, 3) := by decide +kernel
theorem dX5_differs_30 : decode cX5_differs 30 = .ok (.if_icmp .ge 36, 3) := by decide +kernel
theorem dX5_differs_33 : decode cX5_differs 33 = .ok (.aload_n 0, 1) := by decide +kernel
theorem dX5_differs_34 : decode cX5_differs 34 = .ok (.getfield 34, 3) := by decide +kernel
theorem dX5_differs_37 : decode cX5_differs 37 = .ok (.aload_n 0, 1) := by decide +kernel
theorem dX5_differs_38 : decode cX5_differs 38 = .ok (.getfield 15, 3) := by decide +kernel
theorem dX5_differs_41 : decode cX5_differs 41 = .ok (.aload_n 0, 1) := by decide +kernel
theorem dX5_differs_42 : decode cX5_differs 42 = .ok (.getfield 9, 3) := by decide +kernel
theorem dX5_differs_45 : decode cX5_differs 45 = .ok (.iload 4, 2) := by decide +kernel
theorem dX5_differs_47 : decode cX5_differs 47 = .ok (.iaload, 1) := by decide +kernel
theorem dX5_differs_48 : decode cX5_differs 48 = .ok (.iload_n 1, 1) := by decide +kernel
theorem dX5_differs_49 : decode cX5_differs 49 = .ok (.iadd, 1) := by decide +kernel
theorem dX5_differs_50 : decode cX5_differs 50 = .ok (.iload_n 2, 1) := by decide +kernel
theorem dX5_differs_51 : decode cX5_differs 51 = .ok (.invokevirtual 72, 3) := by decide +kernel
theorem dX5_differs_54 : decode cX5_differs 54 = .ok (.iload_n 3, 1) := by decide +kernel
theorem dX5_differs_55 : decode cX5_differs 55 = .ok (.if_icmp .eq 5, 3) := by decide +kernel
theorem dX5_differs_58 : decode cX5_differs 58 = .ok (.iconst 1, 1) := by decide +kernel
theorem dX5_differs_59 : decode cX5_differs 59 = .ok (.ireturn, 1) := by decide +kernel
theorem dX5_differs_60 : decode cX5_differs 60 = .ok (.iinc 4 1, 3) := by decide +kernel
theorem dX5_differs_63 : decode cX5_differs 63 = .ok (.goto (-39), 3) := by decide +kernel
theorem dX5_differs_66 : decode cX5_differs 66 = .ok (.iconst 0, 1) := by decide +kernel
theorem dX5_differs_67 : decode cX5_differs 67 = .ok (.ireturn, 1) := by decide +kernel
set_option maxRecDepth 20000 in
theorem ggX5_stoodAhead_X5_signsOfLine : GoodIn wsX5_stoodAhead wsX5_signsOfLine := goodIn_r _ [5, 6, 7, 8, 9, 10, 11, 12, 13, 14, 15, 16, 17, 27, 28, 29, 30, 31, 32, 33, 34, 35, 36, 37, 38, 39] (by decide +kernel) (by decide +kernel)
set_option maxRecDepth 20000 in
theorem gX5_stoodAhead_X5_signsOfLine : GoodIn wsX5_stoodAhead (wsV RX5 56 RX5 yX5_signsOfLine wsX5_signsOfLine) := goodIn_app (goodIn_of _ (by decide +kernel)) ggX5_stoodAhead_X5_signsOfLine
set_option maxRecDepth 20000 in
theorem ggX5_stoodAhead_X5_hasSameAtBoth : GoodIn wsX5_stoodAhead wsX5_hasSameAtBoth := goodIn_r _ [21, 6, 9, 7, 8, 22, 23, 24, 13, 25, 15, 16, 17, 26, 27, 28, 29, 30, 31, 32, 33, 34, 35, 36, 37, 38, 39] (by decide +kernel) (by decide +kernel)
set_option maxRecDepth 20000 in
theorem gX5_stoodAhead_X5_hasSameAtBoth : GoodIn wsX5_stoodAhead (wsV RX5 76 RX5 yX5_hasSameAtBoth wsX5_hasSameAtBoth) := goodIn_app (goodIn_of _ (by decide +kernel)) ggX5_stoodAhead_X5_hasSameAtBoth
theorem dX5_stoodAhead_0 : decode cX5_stoodAhead 0 = .ok (.iconst 0, 1) := by decide +kernel
theorem dX5_stoodAhead_1 : decode cX5_stoodAhead 1 = .ok (.istore_n 3, 1) := by decide +kernel
theorem dX5_stoodAhead_2 : decode cX5_stoodAhead 2 = .ok (.iload_n 3, 1) := by decide +kernel
theorem dX5_stoodAhead_3 : decode cX5_stoodAhead 3 = .ok (.iload_n 1, 1) := by decide +kernel
theorem dX5_stoodAhead_4 : decode cX5_stoodAhead 4 = .ok (.if_icmp .gt 55, 3) := by decide +kernel
theorem dX5_stoodAhead_7 : decode cX5_stoodAhead 7 = .ok (.iload_n 3, 1) := by decide +kernel
theorem dX5_stoodAhead_8 : decode cX5_stoodAhead 8 = .ok (.iload_n 1, 1) := by decide +kernel
theorem dX5_stoodAhead_9 : decode cX5_stoodAhead 9 = .ok (.if_icmp .ge 11, 3) := by decide +kernel
theorem dX5_stoodAhead_12 : decode cX5_stoodAhead 12 = .ok (.aload_n 0, 1) := by decide +kernel
theorem dX5_stoodAhead_13 : decode cX5_stoodAhead 13 = .ok (.iload_n 3, 1) := by decide +kernel
theorem dX5_stoodAhead_14 : decode cX5_stoodAhead 14 = .ok (.invokevirtual 56, 3) := by decide +kernel
theorem dX5_stoodAhead_17 : decode cX5_stoodAhead 17 = .ok (.goto 4, 3) := by decide +kernel
theorem dX5_stoodAhead_20 : decode cX5_stoodAhead 20 = .ok (.iload_n 2, 1) := by decide +kernel
theorem dX5_stoodAhead_21 : decode cX5_stoodAhead 21 = .ok (.istore 4, 2) := by decide +kernel
theorem dX5_stoodAhead_23 : decode cX5_stoodAhead 23 = .ok (.iconst 0, 1) := by decide +kernel
theorem dX5_stoodAhead_24 : decode cX5_stoodAhead 24 = .ok (.istore 5, 2) := by decide +kernel
theorem dX5_stoodAhead_26 : decode cX5_stoodAhead 26 = .ok (.iload 5, 2) := by decide +kernel
theorem dX5_stoodAhead_28 : decode cX5_stoodAhead 28 = .ok (.iload 4, 2) := by decide +kernel
theorem dX5_stoodAhead_30 : decode cX5_stoodAhead 30 = .ok (.if_icmp .ge 23, 3) := by decide +kernel
theorem dX5_stoodAhead_33 : decode cX5_stoodAhead 33 = .ok (.aload_n 0, 1) := by decide +kernel
theorem dX5_stoodAhead_34 : decode cX5_stoodAhead 34 = .ok (.iload_n 3, 1) := by decide +kernel
theorem dX5_stoodAhead_35 : decode cX5_stoodAhead 35 = .ok (.iload 5, 2) := by decide +kernel
theorem dX5_stoodAhead_37 : decode cX5_stoodAhead 37 = .ok (.iload_n 1, 1) := by decide +kernel
theorem dX5_stoodAhead_38 : decode cX5_stoodAhead 38 = .ok (.iload_n 2, 1) := by decide +kernel
theorem dX5_stoodAhead_39 : decode cX5_stoodAhead 39 = .ok (.invokevirtual 76, 3) := by decide +kernel
theorem dX5_stoodAhead_42 : decode cX5_stoodAhead 42 = .ok (.ifCond .eq 5, 3) := by decide +kernel
theorem dX5_stoodAhead_45 : decode cX5_stoodAhead 45 = .ok (.iconst 1, 1) := by decide +kernel
theorem dX5_stoodAhead_46 : decode cX5_stoodAhead 46 = .ok (.ireturn, 1) := by decide +kernel
theorem dX5_stoodAhead_47 : decode cX5_stoodAhead 47 = .ok (.iinc 5 1, 3) := by decide +kernel
theorem dX5_stoodAhead_50 : decode cX5_stoodAhead 50 = .ok (.goto (-24), 3) := by decide +kernel
theorem dX5_stoodAhead_53 : decode cX5_stoodAhead 53 = .ok (.iinc 3 1, 3) := by decide +kernel
theorem dX5_stoodAhead_56 : decode cX5_stoodAhead 56 = .ok (.goto (-54), 3) := by decide +kernel
theorem dX5_stoodAhead_59 : decode cX5_stoodAhead 59 = .ok (.iconst 0, 1) := by decide +kernel
theorem dX5_stoodAhead_60 : decode cX5_stoodAhead 60 = .ok (.ireturn, 1) := by decide +kernel
set_option maxRecDepth 20000 in
theorem ggX5_hasSameAtBoth_X0_signAt : GoodIn wsX5_hasSameAtBoth wsX0_signAt := goodIn_r _ [9, 10, 11, 12, 13, 23, 24, 25, 26] (by decide +kernel) (by decide +kernel)
set_option maxRecDepth 20000 in
theorem gX5_hasSameAtBoth_X0_signAt : GoodIn wsX5_hasSameAtBoth (wsV RX5 72 RX0 yX0_signAt wsX0_signAt) := goodIn_app (goodIn_of _ (by decide +kernel)) ggX5_hasSameAtBoth_X0_signAt
theorem dX5_hasSameAtBoth_0 : decode cX5_hasSameAtBoth 0 = .ok (.iconst 0, 1) := by decide +kernel
theorem dX5_hasSameAtBoth_1 : decode cX5_hasSameAtBoth 1 = .ok (.istore 5, 2) := by decide +kernel
theorem dX5_hasSameAtBoth_3 : decode cX5_hasSameAtBoth 3 = .ok (.iload 5, 2) := by decide +kernel
theorem dX5_hasSameAtBoth_5 : decode cX5_hasSameAtBoth 5 = .ok (.aload_n 0, 1) := by decide +kernel
theorem dX5_hasSameAtBoth_6 : decode cX5_hasSameAtBoth 6 = .ok (.getfield 19, 3) := by decide +kernel
theorem dX5_hasSameAtBoth_9 : decode cX5_hasSameAtBoth 9 = .ok (.if_icmp .ge 56, 3) := by decide +kernel
theorem dX5_hasSameAtBoth_12 : decode cX5_hasSameAtBoth 12 = .ok (.aload_n 0, 1) := by decide +kernel
theorem dX5_hasSameAtBoth_13 : decode cX5_hasSameAtBoth 13 = .ok (.getfield 9, 3) := by decide +kernel
theorem dX5_hasSameAtBoth_16 : decode cX5_hasSameAtBoth 16 = .ok (.iload 5, 2) := by decide +kernel
theorem dX5_hasSameAtBoth_18 : decode cX5_hasSameAtBoth 18 = .ok (.iaload, 1) := by decide +kernel
theorem dX5_hasSameAtBoth_19 : decode cX5_hasSameAtBoth 19 = .ok (.istore 6, 2) := by decide +kernel
theorem dX5_hasSameAtBoth_21 : decode cX5_hasSameAtBoth 21 = .ok (.aload_n 0, 1) := by decide +kernel
theorem dX5_hasSameAtBoth_22 : decode cX5_hasSameAtBoth 22 = .ok (.getfield 34, 3) := by decide +kernel
theorem dX5_hasSameAtBoth_25 : decode cX5_hasSameAtBoth 25 = .ok (.aload_n 0, 1) := by decide +kernel
theorem dX5_hasSameAtBoth_26 : decode cX5_hasSameAtBoth 26 = .ok (.getfield 15, 3) := by decide +kernel
theorem dX5_hasSameAtBoth_29 : decode cX5_hasSameAtBoth 29 = .ok (.iload 6, 2) := by decide +kernel
theorem dX5_hasSameAtBoth_31 : decode cX5_hasSameAtBoth 31 = .ok (.iload_n 1, 1) := by decide +kernel
theorem dX5_hasSameAtBoth_32 : decode cX5_hasSameAtBoth 32 = .ok (.iadd, 1) := by decide +kernel
theorem dX5_hasSameAtBoth_33 : decode cX5_hasSameAtBoth 33 = .ok (.iload_n 2, 1) := by decide +kernel
theorem dX5_hasSameAtBoth_34 : decode cX5_hasSameAtBoth 34 = .ok (.invokevirtual 72, 3) := by decide +kernel
theorem dX5_hasSameAtBoth_37 : decode cX5_hasSameAtBoth 37 = .ok (.aload_n 0, 1) := by decide +kernel
theorem dX5_hasSameAtBoth_38 : decode cX5_hasSameAtBoth 38 = .ok (.getfield 34, 3) := by decide +kernel
theorem dX5_hasSameAtBoth_41 : decode cX5_hasSameAtBoth 41 = .ok (.aload_n 0, 1) := by decide +kernel
theorem dX5_hasSameAtBoth_42 : decode cX5_hasSameAtBoth 42 = .ok (.getfield 15, 3) := by decide +kernel
theorem dX5_hasSameAtBoth_45 : decode cX5_hasSameAtBoth 45 = .ok (.iload 6, 2) := by decide +kernel
theorem dX5_hasSameAtBoth_47 : decode cX5_hasSameAtBoth 47 = .ok (.iload_n 3, 1) := by decide +kernel
theorem dX5_hasSameAtBoth_48 : decode cX5_hasSameAtBoth 48 = .ok (.iadd, 1) := by decide +kernel
theorem dX5_hasSameAtBoth_49 : decode cX5_hasSameAtBoth 49 = .ok (.iload 4, 2) := by decide +kernel
theorem dX5_hasSameAtBoth_51 : decode cX5_hasSameAtBoth 51 = .ok (.invokevirtual 72, 3) := by decide +kernel
theorem dX5_hasSameAtBoth_54 : decode cX5_hasSameAtBoth 54 = .ok (.if_icmp .eq 5, 3) := by decide +kernel
theorem dX5_hasSameAtBoth_57 : decode cX5_hasSameAtBoth 57 = .ok (.iconst 0, 1) := by decide +kernel
theorem dX5_hasSameAtBoth_58 : decode cX5_hasSameAtBoth 58 = .ok (.ireturn, 1) := by decide +kernel
theorem dX5_hasSameAtBoth_59 : decode cX5_hasSameAtBoth 59 = .ok (.iinc 5 1, 3) := by decide +kernel
theorem dX5_hasSameAtBoth_62 : decode cX5_hasSameAtBoth 62 = .ok (.goto (-59), 3) := by decide +kernel
theorem dX5_hasSameAtBoth_65 : decode cX5_hasSameAtBoth 65 = .ok (.iconst 1, 1) := by decide +kernel
theorem dX5_hasSameAtBoth_66 : decode cX5_hasSameAtBoth 66 = .ok (.ireturn, 1) := by decide +kernel
end
section
theorem dX6_init_0 : decode cX6_init 0 = .ok (.aload_n 0, 1) := by decide +kernel
theorem dX6_init_1 : decode cX6_init 1 = .ok (.invokespecial 3, 3) := by decide +kernel
theorem dX6_init_4 : decode cX6_init 4 = .ok (.aload_n 0, 1) := by decide +kernel
theorem dX6_init_5 : decode cX6_init 5 = .ok (.iconst 0, 1) := by decide +kernel
theorem dX6_init_6 : decode cX6_init 6 = .ok (.putfield 9, 3) := by decide +kernel
theorem dX6_init_9 : decode cX6_init 9 = .ok (.aload_n 0, 1) := by decide +kernel
theorem dX6_init_10 : decode cX6_init 10 = .ok (.iconst 0, 1) := by decide +kernel
theorem dX6_init_11 : decode cX6_init 11 = .ok (.putfield 15, 3) := by decide +kernel
theorem dX6_init_14 : decode cX6_init 14 = .ok (.aload_n 0, 1) := by decide +kernel
theorem dX6_init_15 : decode cX6_init 15 = .ok (.aload_n 1, 1) := by decide +kernel
theorem dX6_init_16 : decode cX6_init 16 = .ok (.putfield 18, 3) := by decide +kernel
theorem dX6_init_19 : decode cX6_init 19 = .ok (.aload_n 0, 1) := by decide +kernel
theorem dX6_init_20 : decode cX6_init 20 = .ok (.aload_n 2, 1) := by decide +kernel
theorem dX6_init_21 : decode cX6_init 21 = .ok (.putfield 22, 3) := by decide +kernel
theorem dX6_init_24 : decode cX6_init 24 = .ok (.return_, 1) := by decide +kernel
set_option maxRecDepth 20000 in
theorem ggX6_seek_X2_areThere : GoodIn wsX6_seek wsX2_areThere := goodIn_r _ [13, 14, 15, 4, 16, 17, 18, 19, 20, 21, 22, 23, 92, 93, 94, 95, 96, 97, 98, 99, 100, 101] (by decide +kernel) (by decide +kernel)
set_option maxRecDepth 20000 in
theorem gX6_seek_X2_areThere : GoodIn wsX6_seek (wsV RX6 32 RX2 yX2_areThere wsX2_areThere) := goodIn_app (goodIn_of _ (by decide +kernel)) ggX6_seek_X2_areThere
set_option maxRecDepth 20000 in
theorem ggX6_seek_X2_rowsAlike : GoodIn wsX6_seek wsX2_rowsAlike := goodIn_r _ [27, 28, 10, 11, 12, 13, 14, 15, 4, 16, 17, 18, 19, 20, 21, 22, 23, 29, 30, 31, 32, 33, 34, 35, 36, 37, 38, 39, 40, 41, 42, 43, 44, 45, 46, 47, 48, 49, 50, 51, 52, 53, 54, 55, 56, 57, 58, 59, 60, 61, 62, 63, 64, 65, 66, 67, 68, 69, 92, 93, 94, 95, 96, 97, 98, 99, 100, 101, 102, 103, 104] (by decide +kernel) (by decide +kernel)
set_option maxRecDepth 20000 in
theorem gX6_seek_X2_rowsAlike : GoodIn wsX6_seek (wsV RX6 38 RX2 yX2_rowsAlike wsX2_rowsAlike) := goodIn_app (goodIn_of _ (by decide +kernel)) ggX6_seek_X2_rowsAlike
set_option maxRecDepth 20000 in
theorem ggX6_seek_X0_sizeOf : GoodIn wsX6_seek wsX0_sizeOf := goodIn_r _ [48, 49, 23, 50, 98, 99, 100, 101] (by decide +kernel) (by decide +kernel)
set_option maxRecDepth 20000 in
theorem gX6_seek_X0_sizeOf : GoodIn wsX6_seek (wsV RX6 42 RX0 yX0_sizeOf wsX0_sizeOf) := goodIn_app (goodIn_of _ (by decide +kernel)) ggX6_seek_X0_sizeOf
set_option maxRecDepth 20000 in
theorem ggX6_seek_X0_signAt : GoodIn wsX6_seek wsX0_signAt := goodIn_r _ [54, 49, 23, 50, 55, 98, 99, 100, 101] (by decide +kernel) (by decide +kernel)
set_option maxRecDepth 20000 in
theorem gX6_seek_X0_signAt : GoodIn wsX6_seek (wsV RX6 48 RX0 yX0_signAt wsX0_signAt) := goodIn_app (goodIn_of _ (by decide +kernel)) ggX6_seek_X0_signAt
set_option maxRecDepth 20000 in
theorem ggX6_seek_X7_isName : GoodIn wsX6_seek wsX7_isName := goodIn_r _ [62] (by decide +kernel) (by decide +kernel)
set_option maxRecDepth 20000 in
theorem gX6_seek_X7_isName_n52 : GoodIn wsX6_seek (wsX7_isName) := ggX6_seek_X7_isName
set_option maxRecDepth 20000 in
theorem ggX6_seek_X2_rowsAlikeBut : GoodIn wsX6_seek wsX2_rowsAlikeBut := goodIn_r _ [75, 33, 34, 35, 36, 37, 38, 39, 40, 41, 42, 43, 12, 44, 17, 45, 46, 47, 21, 48, 49, 23, 50, 51, 52, 53, 54, 55, 56, 57, 58, 59, 60, 61, 62, 63, 64, 65, 66, 67, 68, 69, 92, 93, 94, 95, 96, 97, 102, 103, 104, 98, 99, 100, 101] (by decide +kernel) (by decide +kernel)
set_option maxRecDepth 20000 in
theorem gX6_seek_X2_rowsAlikeBut : GoodIn wsX6_seek (wsV RX6 56 RX2 yX2_rowsAlikeBut wsX2_rowsAlikeBut) := goodIn_app (goodIn_of _ (by decide +kernel)) ggX6_seek_X2_rowsAlikeBut
set_option maxRecDepth 20000 in
theorem ggX6_seek_X3_firstNameThatFits : GoodIn wsX6_seek wsX3_firstNameThatFits := goodIn_r _ [79, 40, 80, 81, 82, 37, 83, 39, 60, 61, 62, 84, 85, 86, 87, 67, 102, 103, 104] (by decide +kernel) (by decide +kernel)
set_option maxRecDepth 20000 in
theorem gX6_seek_X3_firstNameThatFits : GoodIn wsX6_seek (wsV RX6 63 RX3 yX3_firstNameThatFits wsX3_firstNameThatFits) := goodIn_app (goodIn_of _ (by decide +kernel)) ggX6_seek_X3_firstNameThatFits
theorem dX6_seek_0 : decode cX6_seek 0 = .ok (.aload_n 0, 1) := by decide +kernel
theorem dX6_seek_1 : decode cX6_seek 1 = .ok (.iconst 0, 1) := by decide +kernel
theorem dX6_seek_2 : decode cX6_seek 2 = .ok (.putfield 15, 3) := by decide +kernel
theorem dX6_seek_5 : decode cX6_seek 5 = .ok (.iload_n 2, 1) := by decide +kernel
theorem dX6_seek_6 : decode cX6_seek 6 = .ok (.iload_n 3, 1) := by decide +kernel
theorem dX6_seek_7 : decode cX6_seek 7 = .ok (.isub, 1) := by decide +kernel
theorem dX6_seek_8 : decode cX6_seek 8 = .ok (.invokestatic 26, 3) := by decide +kernel
theorem dX6_seek_11 : decode cX6_seek 11 = .ok (.iload 4, 2) := by decide +kernel
theorem dX6_seek_13 : decode cX6_seek 13 = .ok (.if_icmp .lt 17, 3) := by decide +kernel
theorem dX6_seek_16 : decode cX6_seek 16 = .ok (.aload_n 0, 1) := by decide +kernel
theorem dX6_seek_17 : decode cX6_seek 17 = .ok (.getfield 22, 3) := by decide +kernel
theorem dX6_seek_20 : decode cX6_seek 20 = .ok (.iload_n 2, 1) := by decide +kernel
theorem dX6_seek_21 : decode cX6_seek 21 = .ok (.iload_n 3, 1) := by decide +kernel
theorem dX6_seek_22 : decode cX6_seek 22 = .ok (.iload 4, 2) := by decide +kernel
theorem dX6_seek_24 : decode cX6_seek 24 = .ok (.invokevirtual 32, 3) := by decide +kernel
theorem dX6_seek_27 : decode cX6_seek 27 = .ok (.ifCond .ne 4, 3) := by decide +kernel
theorem dX6_seek_30 : decode cX6_seek 30 = .ok (.return_, 1) := by decide +kernel
theorem dX6_seek_31 : decode cX6_seek 31 = .ok (.aload_n 0, 1) := by decide +kernel
theorem dX6_seek_32 : decode cX6_seek 32 = .ok (.getfield 22, 3) := by decide +kernel
theorem dX6_seek_35 : decode cX6_seek 35 = .ok (.iload_n 1, 1) := by decide +kernel
theorem dX6_seek_36 : decode cX6_seek 36 = .ok (.iconst 1, 1) := by decide +kernel
theorem dX6_seek_37 : decode cX6_seek 37 = .ok (.iload_n 2, 1) := by decide +kernel
theorem dX6_seek_38 : decode cX6_seek 38 = .ok (.iload_n 3, 1) := by decide +kernel
theorem dX6_seek_39 : decode cX6_seek 39 = .ok (.iload 4, 2) := by decide +kernel
theorem dX6_seek_41 : decode cX6_seek 41 = .ok (.invokevirtual 38, 3) := by decide +kernel
theorem dX6_seek_44 : decode cX6_seek 44 = .ok (.ifCond .eq 4, 3) := by decide +kernel
theorem dX6_seek_47 : decode cX6_seek 47 = .ok (.return_, 1) := by decide +kernel
theorem dX6_seek_48 : decode cX6_seek 48 = .ok (.iconst 0, 1) := by decide +kernel
theorem dX6_seek_49 : decode cX6_seek 49 = .ok (.istore 5, 2) := by decide +kernel
theorem dX6_seek_51 : decode cX6_seek 51 = .ok (.iload 5, 2) := by decide +kernel
theorem dX6_seek_53 : decode cX6_seek 53 = .ok (.iload 4, 2) := by decide +kernel
theorem dX6_seek_55 : decode cX6_seek 55 = .ok (.if_icmp .ge 148, 3) := by decide +kernel
theorem dX6_seek_58 : decode cX6_seek 58 = .ok (.aload_n 0, 1) := by decide +kernel
theorem dX6_seek_59 : decode cX6_seek 59 = .ok (.getfield 15, 3) := by decide +kernel
theorem dX6_seek_62 : decode cX6_seek 62 = .ok (.ifCond .ne 141, 3) := by decide +kernel
theorem dX6_seek_65 : decode cX6_seek 65 = .ok (.aload_n 0, 1) := by decide +kernel
theorem dX6_seek_66 : decode cX6_seek 66 = .ok (.getfield 18, 3) := by decide +kernel
theorem dX6_seek_69 : decode cX6_seek 69 = .ok (.iload_n 1, 1) := by decide +kernel
theorem dX6_seek_70 : decode cX6_seek 70 = .ok (.iload_n 3, 1) := by decide +kernel
theorem dX6_seek_71 : decode cX6_seek 71 = .ok (.iload 5, 2) := by decide +kernel
theorem dX6_seek_73 : decode cX6_seek 73 = .ok (.iadd, 1) := by decide +kernel
theorem dX6_seek_74 : decode cX6_seek 74 = .ok (.invokevirtual 42, 3) := by decide +kernel
theorem dX6_seek_77 : decode cX6_seek 77 = .ok (.istore 6, 2) := by decide +kernel
theorem dX6_seek_79 : decode cX6_seek 79 = .ok (.iconst 0, 1) := by decide +kernel
theorem dX6_seek_80 : decode cX6_seek 80 = .ok (.istore 7, 2) := by decide +kernel
theorem dX6_seek_82 : decode cX6_seek 82 = .ok (.iload 7, 2) := by decide +kernel
theorem dX6_seek_84 : decode cX6_seek 84 = .ok (.iload 6, 2) := by decide +kernel
theorem dX6_seek_86 : decode cX6_seek 86 = .ok (.if_icmp .ge 111, 3) := by decide +kernel
theorem dX6_seek_89 : decode cX6_seek 89 = .ok (.aload_n 0, 1) := by decide +kernel
theorem dX6_seek_90 : decode cX6_seek 90 = .ok (.getfield 15, 3) := by decide +kernel
theorem dX6_seek_93 : decode cX6_seek 93 = .ok (.ifCond .ne 104, 3) := by decide +kernel
theorem dX6_seek_96 : decode cX6_seek 96 = .ok (.aload_n 0, 1) := by decide +kernel
theorem dX6_seek_97 : decode cX6_seek 97 = .ok (.getfield 18, 3) := by decide +kernel
theorem dX6_seek_100 : decode cX6_seek 100 = .ok (.iload_n 1, 1) := by decide +kernel
theorem dX6_seek_101 : decode cX6_seek 101 = .ok (.iload_n 2, 1) := by decide +kernel
theorem dX6_seek_102 : decode cX6_seek 102 = .ok (.iload 5, 2) := by decide +kernel
theorem dX6_seek_104 : decode cX6_seek 104 = .ok (.iadd, 1) := by decide +kernel
theorem dX6_seek_105 : decode cX6_seek 105 = .ok (.iload 7, 2) := by decide +kernel
theorem dX6_seek_107 : decode cX6_seek 107 = .ok (.invokevirtual 48, 3) := by decide +kernel
theorem dX6_seek_110 : decode cX6_seek 110 = .ok (.istore 8, 2) := by decide +kernel
theorem dX6_seek_112 : decode cX6_seek 112 = .ok (.aload_n 0, 1) := by decide +kernel
theorem dX6_seek_113 : decode cX6_seek 113 = .ok (.getfield 18, 3) := by decide +kernel
theorem dX6_seek_116 : decode cX6_seek 116 = .ok (.iload_n 1, 1) := by decide +kernel
theorem dX6_seek_117 : decode cX6_seek 117 = .ok (.iload_n 3, 1) := by decide +kernel
theorem dX6_seek_118 : decode cX6_seek 118 = .ok (.iload 5, 2) := by decide +kernel
theorem dX6_seek_120 : decode cX6_seek 120 = .ok (.iadd, 1) := by decide +kernel
theorem dX6_seek_121 : decode cX6_seek 121 = .ok (.iload 7, 2) := by decide +kernel
theorem dX6_seek_123 : decode cX6_seek 123 = .ok (.invokevirtual 48, 3) := by decide +kernel
theorem dX6_seek_126 : decode cX6_seek 126 = .ok (.istore 9, 2) := by decide +kernel
theorem dX6_seek_128 : decode cX6_seek 128 = .ok (.aload_n 0, 1) := by decide +kernel
theorem dX6_seek_129 : decode cX6_seek 129 = .ok (.iload 5, 2) := by decide +kernel
theorem dX6_seek_131 : decode cX6_seek 131 = .ok (.bipush 10, 2) := by decide +kernel
theorem dX6_seek_133 : decode cX6_seek 133 = .ok (.imul, 1) := by decide +kernel
theorem dX6_seek_134 : decode cX6_seek 134 = .ok (.iload 7, 2) := by decide +kernel
theorem dX6_seek_136 : decode cX6_seek 136 = .ok (.iadd, 1) := by decide +kernel
theorem dX6_seek_137 : decode cX6_seek 137 = .ok (.putfield 9, 3) := by decide +kernel
theorem dX6_seek_140 : decode cX6_seek 140 = .ok (.iload 8, 2) := by decide +kernel
theorem dX6_seek_142 : decode cX6_seek 142 = .ok (.invokestatic 52, 3) := by decide +kernel
theorem dX6_seek_145 : decode cX6_seek 145 = .ok (.ifCond .eq 46, 3) := by decide +kernel
theorem dX6_seek_148 : decode cX6_seek 148 = .ok (.iload 9, 2) := by decide +kernel
theorem dX6_seek_150 : decode cX6_seek 150 = .ok (.invokestatic 52, 3) := by decide +kernel
theorem dX6_seek_153 : decode cX6_seek 153 = .ok (.ifCond .eq 38, 3) := by decide +kernel
theorem dX6_seek_156 : decode cX6_seek 156 = .ok (.aload_n 0, 1) := by decide +kernel
theorem dX6_seek_157 : decode cX6_seek 157 = .ok (.getfield 22, 3) := by decide +kernel
theorem dX6_seek_160 : decode cX6_seek 160 = .ok (.iload_n 1, 1) := by decide +kernel
theorem dX6_seek_161 : decode cX6_seek 161 = .ok (.iload_n 2, 1) := by decide +kernel
theorem dX6_seek_162 : decode cX6_seek 162 = .ok (.iload_n 3, 1) := by decide +kernel
theorem dX6_seek_163 : decode cX6_seek 163 = .ok (.iload 4, 2) := by decide +kernel
theorem dX6_seek_165 : decode cX6_seek 165 = .ok (.aload_n 0, 1) := by decide +kernel
theorem dX6_seek_166 : decode cX6_seek 166 = .ok (.getfield 9, 3) := by decide +kernel
theorem dX6_seek_169 : decode cX6_seek 169 = .ok (.invokevirtual 56, 3) := by decide +kernel
theorem dX6_seek_172 : decode cX6_seek 172 = .ok (.ifCond .eq 19, 3) := by decide +kernel
theorem dX6_seek_175 : decode cX6_seek 175 = .ok (.aload_n 0, 1) := by decide +kernel
theorem dX6_seek_176 : decode cX6_seek 176 = .ok (.aload_n 0, 1) := by decide +kernel
theorem dX6_seek_177 : decode cX6_seek 177 = .ok (.getfield 22, 3) := by decide +kernel
theorem dX6_seek_180 : decode cX6_seek 180 = .ok (.getfield 59, 3) := by decide +kernel
theorem dX6_seek_183 : decode cX6_seek 183 = .ok (.iload 8, 2) := by decide +kernel
theorem dX6_seek_185 : decode cX6_seek 185 = .ok (.invokevirtual 63, 3) := by decide +kernel
theorem dX6_seek_188 : decode cX6_seek 188 = .ok (.putfield 15, 3) := by decide +kernel
theorem dX6_seek_191 : decode cX6_seek 191 = .ok (.iinc 7 1, 3) := by decide +kernel
theorem dX6_seek_194 : decode cX6_seek 194 = .ok (.goto (-112), 3) := by decide +kernel
theorem dX6_seek_197 : decode cX6_seek 197 = .ok (.iinc 5 1, 3) := by decide +kernel
theorem dX6_seek_200 : decode cX6_seek 200 = .ok (.goto (-149), 3) := by decide +kernel
theorem dX6_seek_203 : decode cX6_seek 203 = .ok (.return_, 1) := by decide +kernel
end
section
set_option maxRecDepth 20000 in
theorem ggX7_init_X0_init : GoodIn wsX7_init wsX0_init := goodIn_r _ [33, 34, 2, 3, 10, 35, 36, 37, 38, 98, 99, 100, 101] (by decide +kernel) (by decide +kernel)
set_option maxRecDepth 20000 in
theorem gX7_init_X0_init_n9 : GoodIn wsX7_init (wsX0_init) := ggX7_init_X0_init
set_option maxRecDepth 20000 in
theorem ggX7_init_X2_init : GoodIn wsX7_init wsX2_init := goodIn_r _ [41, 42, 2, 3, 43, 44, 45, 46, 10, 47, 48, 49, 50, 51, 52, 53, 54, 55, 56, 57, 144, 145, 146, 114, 115, 116, 117, 118, 119] (by decide +kernel) (by decide +kernel)
set_option maxRecDepth 20000 in
theorem gX7_init_X2_init : GoodIn wsX7_init (wsX2_init) := ggX7_init_X2_init
set_option maxRecDepth 20000 in
theorem ggX7_init_X5_init : GoodIn wsX7_init wsX5_init := goodIn_r _ [60, 61, 2, 3, 10, 62, 63, 64, 65, 66, 67, 68, 69, 70, 120, 121, 122, 123, 124, 125, 126, 127, 128] (by decide +kernel) (by decide +kernel)
set_option maxRecDepth 20000 in
theorem gX7_init_X5_init : GoodIn wsX7_init (wsX5_init) := ggX7_init_X5_init
set_option maxRecDepth 20000 in
theorem ggX7_init_X4_init : GoodIn wsX7_init wsX4_init := goodIn_r _ [73, 74, 2, 3, 10, 75, 76, 77, 78, 79, 80, 81, 82, 83, 129, 130, 131, 132, 133, 134, 135, 136, 137] (by decide +kernel) (by decide +kernel)
set_option maxRecDepth 20000 in
theorem gX7_init_X4_init : GoodIn wsX7_init (wsX4_init) := ggX7_init_X4_init
set_option maxRecDepth 20000 in
theorem ggX7_init_X6_init : GoodIn wsX7_init wsX6_init := goodIn_r _ [86, 87, 2, 3, 88, 89, 90, 91, 138, 139, 140, 141] (by decide +kernel) (by decide +kernel)
set_option maxRecDepth 20000 in
theorem gX7_init_X6_init : GoodIn wsX7_init (wsX6_init) := ggX7_init_X6_init
set_option maxRecDepth 20000 in
theorem ggX7_init_X1_init : GoodIn wsX7_init wsX1_init := goodIn_r _ [94, 95, 2, 3, 10, 96, 97, 142, 143] (by decide +kernel) (by decide +kernel)
set_option maxRecDepth 20000 in
theorem gX7_init_X1_init : GoodIn wsX7_init (wsX1_init) := ggX7_init_X1_init
theorem dX7_init_0 : decode cX7_init 0 = .ok (.aload_n 0, 1) := by decide +kernel
theorem dX7_init_1 : decode cX7_init 1 = .ok (.invokespecial 1, 3) := by decide +kernel
theorem dX7_init_4 : decode cX7_init 4 = .ok (.aload_n 0, 1) := by decide +kernel
theorem dX7_init_5 : decode cX7_init 5 = .ok (.new 7, 3) := by decide +kernel
theorem dX7_init_8 : decode cX7_init 8 = .ok (.dup, 1) := by decide +kernel
theorem dX7_init_9 : decode cX7_init 9 = .ok (.invokespecial 9, 3) := by decide +kernel
theorem dX7_init_12 : decode cX7_init 12 = .ok (.putfield 10, 3) := by decide +kernel
theorem dX7_init_15 : decode cX7_init 15 = .ok (.aload_n 0, 1) := by decide +kernel
theorem dX7_init_16 : decode cX7_init 16 = .ok (.new 7, 3) := by decide +kernel
theorem dX7_init_19 : decode cX7_init 19 = .ok (.dup, 1) := by decide +kernel
theorem dX7_init_20 : decode cX7_init 20 = .ok (.invokespecial 9, 3) := by decide +kernel
theorem dX7_init_23 : decode cX7_init 23 = .ok (.putfield 16, 3) := by decide +kernel
theorem dX7_init_26 : decode cX7_init 26 = .ok (.aload_n 0, 1) := by decide +kernel
theorem dX7_init_27 : decode cX7_init 27 = .ok (.new 7, 3) := by decide +kernel
theorem dX7_init_30 : decode cX7_init 30 = .ok (.dup, 1) := by decide +kernel
theorem dX7_init_31 : decode cX7_init 31 = .ok (.invokespecial 9, 3) := by decide +kernel
theorem dX7_init_34 : decode cX7_init 34 = .ok (.putfield 19, 3) := by decide +kernel
theorem dX7_init_37 : decode cX7_init 37 = .ok (.aload_n 0, 1) := by decide +kernel
theorem dX7_init_38 : decode cX7_init 38 = .ok (.bipush 8, 2) := by decide +kernel
theorem dX7_init_40 : decode cX7_init 40 = .ok (.newarray .int, 2) := by decide +kernel
theorem dX7_init_42 : decode cX7_init 42 = .ok (.putfield 22, 3) := by decide +kernel
theorem dX7_init_45 : decode cX7_init 45 = .ok (.aload_n 0, 1) := by decide +kernel
theorem dX7_init_46 : decode cX7_init 46 = .ok (.new 26, 3) := by decide +kernel
theorem dX7_init_49 : decode cX7_init 49 = .ok (.dup, 1) := by decide +kernel
theorem dX7_init_50 : decode cX7_init 50 = .ok (.aload_n 0, 1) := by decide +kernel
theorem dX7_init_51 : decode cX7_init 51 = .ok (.getfield 10, 3) := by decide +kernel
theorem dX7_init_54 : decode cX7_init 54 = .ok (.invokespecial 28, 3) := by decide +kernel
theorem dX7_init_57 : decode cX7_init 57 = .ok (.putfield 31, 3) := by decide +kernel
theorem dX7_init_60 : decode cX7_init 60 = .ok (.aload_n 0, 1) := by decide +kernel
theorem dX7_init_61 : decode cX7_init 61 = .ok (.new 35, 3) := by decide +kernel
theorem dX7_init_64 : decode cX7_init 64 = .ok (.dup, 1) := by decide +kernel
theorem dX7_init_65 : decode cX7_init 65 = .ok (.aload_n 0, 1) := by decide +kernel
theorem dX7_init_66 : decode cX7_init 66 = .ok (.getfield 10, 3) := by decide +kernel
theorem dX7_init_69 : decode cX7_init 69 = .ok (.aload_n 0, 1) := by decide +kernel
theorem dX7_init_70 : decode cX7_init 70 = .ok (.getfield 31, 3) := by decide +kernel
theorem dX7_init_73 : decode cX7_init 73 = .ok (.invokespecial 37, 3) := by decide +kernel
theorem dX7_init_76 : decode cX7_init 76 = .ok (.putfield 40, 3) := by decide +kernel
theorem dX7_init_79 : decode cX7_init 79 = .ok (.aload_n 0, 1) := by decide +kernel
theorem dX7_init_80 : decode cX7_init 80 = .ok (.new 44, 3) := by decide +kernel
theorem dX7_init_83 : decode cX7_init 83 = .ok (.dup, 1) := by decide +kernel
theorem dX7_init_84 : decode cX7_init 84 = .ok (.aload_n 0, 1) := by decide +kernel
theorem dX7_init_85 : decode cX7_init 85 = .ok (.getfield 10, 3) := by decide +kernel
theorem dX7_init_88 : decode cX7_init 88 = .ok (.aload_n 0, 1) := by decide +kernel
theorem dX7_init_89 : decode cX7_init 89 = .ok (.getfield 31, 3) := by decide +kernel
theorem dX7_init_92 : decode cX7_init 92 = .ok (.aload_n 0, 1) := by decide +kernel
theorem dX7_init_93 : decode cX7_init 93 = .ok (.getfield 40, 3) := by decide +kernel
theorem dX7_init_96 : decode cX7_init 96 = .ok (.invokespecial 46, 3) := by decide +kernel
theorem dX7_init_99 : decode cX7_init 99 = .ok (.putfield 49, 3) := by decide +kernel
theorem dX7_init_102 : decode cX7_init 102 = .ok (.aload_n 0, 1) := by decide +kernel
theorem dX7_init_103 : decode cX7_init 103 = .ok (.new 53, 3) := by decide +kernel
theorem dX7_init_106 : decode cX7_init 106 = .ok (.dup, 1) := by decide +kernel
theorem dX7_init_107 : decode cX7_init 107 = .ok (.aload_n 0, 1) := by decide +kernel
theorem dX7_init_108 : decode cX7_init 108 = .ok (.getfield 10, 3) := by decide +kernel
theorem dX7_init_111 : decode cX7_init 111 = .ok (.aload_n 0, 1) := by decide +kernel
theorem dX7_init_112 : decode cX7_init 112 = .ok (.getfield 31, 3) := by decide +kernel
theorem dX7_init_115 : decode cX7_init 115 = .ok (.invokespecial 55, 3) := by decide +kernel
theorem dX7_init_118 : decode cX7_init 118 = .ok (.putfield 56, 3) := by decide +kernel
theorem dX7_init_121 : decode cX7_init 121 = .ok (.aload_n 0, 1) := by decide +kernel
theorem dX7_init_122 : decode cX7_init 122 = .ok (.new 60, 3) := by decide +kernel
theorem dX7_init_125 : decode cX7_init 125 = .ok (.dup, 1) := by decide +kernel
theorem dX7_init_126 : decode cX7_init 126 = .ok (.aload_n 0, 1) := by decide +kernel
theorem dX7_init_127 : decode cX7_init 127 = .ok (.getfield 10, 3) := by decide +kernel
theorem dX7_init_130 : decode cX7_init 130 = .ok (.invokespecial 62, 3) := by decide +kernel
theorem dX7_init_133 : decode cX7_init 133 = .ok (.putfield 63, 3) := by decide +kernel
theorem dX7_init_136 : decode cX7_init 136 = .ok (.return_, 1) := by decide +kernel
theorem dX7_say_0 : decode cX7_say 0 = .ok (.iload_n 1, 1) := by decide +kernel
theorem dX7_say_1 : decode cX7_say 1 = .ok (.bipush 33, 2) := by decide +kernel
theorem dX7_say_3 : decode cX7_say 3 = .ok (.if_icmp .lt 9, 3) := by decide +kernel
theorem dX7_say_6 : decode cX7_say 6 = .ok (.iload_n 1, 1) := by decide +kernel
theorem dX7_say_7 : decode cX7_say 7 = .ok (.bipush 126, 2) := by decide +kernel
theorem dX7_say_9 : decode cX7_say 9 = .ok (.if_icmp .le 6, 3) := by decide +kernel
theorem dX7_say_12 : decode cX7_say 12 = .ok (.bipush (-2), 2) := by decide +kernel
theorem dX7_say_14 : decode cX7_say 14 = .ok (.ireturn, 1) := by decide +kernel
theorem dX7_say_15 : decode cX7_say 15 = .ok (.aload_n 0, 1) := by decide +kernel
theorem dX7_say_16 : decode cX7_say 16 = .ok (.getfield 67, 3) := by decide +kernel
theorem dX7_say_19 : decode cX7_say 19 = .ok (.ifCond .lt 12, 3) := by decide +kernel
theorem dX7_say_22 : decode cX7_say 22 = .ok (.aload_n 0, 1) := by decide +kernel
theorem dX7_say_23 : decode cX7_say 23 = .ok (.getfield 67, 3) := by decide +kernel
theorem dX7_say_26 : decode cX7_say 26 = .ok (.bipush 8, 2) := by decide +kernel
theorem dX7_say_28 : decode cX7_say 28 = .ok (.if_icmp .lt 6, 3) := by decide +kernel
theorem dX7_say_31 : decode cX7_say 31 = .ok (.bipush (-4), 2) := by decide +kernel
theorem dX7_say_33 : decode cX7_say 33 = .ok (.ireturn, 1) := by decide +kernel
theorem dX7_say_34 : decode cX7_say 34 = .ok (.aload_n 0, 1) := by decide +kernel
theorem dX7_say_35 : decode cX7_say 35 = .ok (.getfield 22, 3) := by decide +kernel
theorem dX7_say_38 : decode cX7_say 38 = .ok (.aload_n 0, 1) := by decide +kernel
theorem dX7_say_39 : decode cX7_say 39 = .ok (.getfield 67, 3) := by decide +kernel
theorem dX7_say_42 : decode cX7_say 42 = .ok (.iload_n 1, 1) := by decide +kernel
theorem dX7_say_43 : decode cX7_say 43 = .ok (.iastore, 1) := by decide +kernel
theorem dX7_say_44 : decode cX7_say 44 = .ok (.aload_n 0, 1) := by decide +kernel
theorem dX7_say_45 : decode cX7_say 45 = .ok (.dup, 1) := by decide +kernel
theorem dX7_say_46 : decode cX7_say 46 = .ok (.getfield 67, 3) := by decide +kernel
theorem dX7_say_49 : decode cX7_say 49 = .ok (.iconst 1, 1) := by decide +kernel
theorem dX7_say_50 : decode cX7_say 50 = .ok (.iadd, 1) := by decide +kernel
theorem dX7_say_51 : decode cX7_say 51 = .ok (.putfield 67, 3) := by decide +kernel
theorem dX7_say_54 : decode cX7_say 54 = .ok (.aload_n 0, 1) := by decide +kernel
theorem dX7_say_55 : decode cX7_say 55 = .ok (.getfield 67, 3) := by decide +kernel
theorem dX7_say_58 : decode cX7_say 58 = .ok (.ireturn, 1) := by decide +kernel
theorem dX7_wipe_0 : decode cX7_wipe 0 = .ok (.aload_n 0, 1) := by decide +kernel
theorem dX7_wipe_1 : decode cX7_wipe 1 = .ok (.getfield 67, 3) := by decide +kernel
theorem dX7_wipe_4 : decode cX7_wipe 4 = .ok (.istore_n 1, 1) := by decide +kernel
theorem dX7_wipe_5 : decode cX7_wipe 5 = .ok (.aload_n 0, 1) := by decide +kernel
theorem dX7_wipe_6 : decode cX7_wipe 6 = .ok (.iconst 0, 1) := by decide +kernel
theorem dX7_wipe_7 : decode cX7_wipe 7 = .ok (.putfield 67, 3) := by decide +kernel
theorem dX7_wipe_10 : decode cX7_wipe 10 = .ok (.iload_n 1, 1) := by decide +kernel
theorem dX7_wipe_11 : decode cX7_wipe 11 = .ok (.ireturn, 1) := by decide +kernel
set_option maxRecDepth 20000 in
theorem ggX7_line_X0_lines : GoodIn wsX7_line wsX0_lines := goodIn_r _ [8, 9, 45, 46, 47, 48] (by decide +kernel) (by decide +kernel)
set_option maxRecDepth 20000 in
theorem gX7_line_X0_lines : GoodIn wsX7_line (wsV RX7 71 RX0 yX0_lines wsX0_lines) := goodIn_app (goodIn_of _ (by decide +kernel)) ggX7_line_X0_lines
set_option maxRecDepth 20000 in
theorem ggX7_line_X0_addLine : GoodIn wsX7_line wsX0_addLine := goodIn_r _ [13, 9, 14, 15, 16, 17, 7, 18, 19, 20, 21, 22, 23, 24, 25, 26, 27, 28, 29, 30, 31, 32, 45, 46, 47, 48] (by decide +kernel) (by decide +kernel)
set_option maxRecDepth 20000 in
theorem gX7_line_X0_addLine : GoodIn wsX7_line (wsV RX7 75 RX0 yX0_addLine wsX0_addLine) := goodIn_app (goodIn_of _ (by decide +kernel)) ggX7_line_X0_addLine
theorem dX7_line_0 : decode cX7_line 0 = .ok (.aload_n 0, 1) := by decide +kernel
theorem dX7_line_1 : decode cX7_line 1 = .ok (.getfield 10, 3) := by decide +kernel
theorem dX7_line_4 : decode cX7_line 4 = .ok (.invokevirtual 71, 3) := by decide +kernel
theorem dX7_line_7 : decode cX7_line 7 = .ok (.bipush 20, 2) := by decide +kernel
theorem dX7_line_9 : decode cX7_line 9 = .ok (.if_icmp .lt 6, 3) := by decide +kernel
theorem dX7_line_12 : decode cX7_line 12 = .ok (.bipush (-4), 2) := by decide +kernel
theorem dX7_line_14 : decode cX7_line 14 = .ok (.ireturn, 1) := by decide +kernel
theorem dX7_line_15 : decode cX7_line 15 = .ok (.aload_n 0, 1) := by decide +kernel
theorem dX7_line_16 : decode cX7_line 16 = .ok (.getfield 67, 3) := by decide +kernel
theorem dX7_line_19 : decode cX7_line 19 = .ok (.ifCond .ne 6, 3) := by decide +kernel
theorem dX7_line_22 : decode cX7_line 22 = .ok (.bipush (-5), 2) := by decide +kernel
theorem dX7_line_24 : decode cX7_line 24 = .ok (.ireturn, 1) := by decide +kernel
theorem dX7_line_25 : decode cX7_line 25 = .ok (.aload_n 0, 1) := by decide +kernel
theorem dX7_line_26 : decode cX7_line 26 = .ok (.getfield 10, 3) := by decide +kernel
theorem dX7_line_29 : decode cX7_line 29 = .ok (.invokevirtual 71, 3) := by decide +kernel
theorem dX7_line_32 : decode cX7_line 32 = .ok (.istore_n 1, 1) := by decide +kernel
theorem dX7_line_33 : decode cX7_line 33 = .ok (.aload_n 0, 1) := by decide +kernel
theorem dX7_line_34 : decode cX7_line 34 = .ok (.getfield 10, 3) := by decide +kernel
theorem dX7_line_37 : decode cX7_line 37 = .ok (.aload_n 0, 1) := by decide +kernel
theorem dX7_line_38 : decode cX7_line 38 = .ok (.getfield 22, 3) := by decide +kernel
theorem dX7_line_41 : decode cX7_line 41 = .ok (.aload_n 0, 1) := by decide +kernel
theorem dX7_line_42 : decode cX7_line 42 = .ok (.getfield 67, 3) := by decide +kernel
theorem dX7_line_45 : decode cX7_line 45 = .ok (.invokevirtual 75, 3) := by decide +kernel
theorem dX7_line_48 : decode cX7_line 48 = .ok (.aload_n 0, 1) := by decide +kernel
theorem dX7_line_49 : decode cX7_line 49 = .ok (.iconst 0, 1) := by decide +kernel
theorem dX7_line_50 : decode cX7_line 50 = .ok (.putfield 67, 3) := by decide +kernel
theorem dX7_line_53 : decode cX7_line 53 = .ok (.iload_n 1, 1) := by decide +kernel
theorem dX7_line_54 : decode cX7_line 54 = .ok (.ireturn, 1) := by decide +kernel
set_option maxRecDepth 20000 in
theorem ggX7_change_X0_hasLine : GoodIn wsX7_change wsX0_hasLine := goodIn_r _ [8, 9, 42, 43, 44, 45] (by decide +kernel) (by decide +kernel)
set_option maxRecDepth 20000 in
theorem gX7_change_X0_hasLine : GoodIn wsX7_change (wsV RX7 79 RX0 yX0_hasLine wsX0_hasLine) := goodIn_app (goodIn_of _ (by decide +kernel)) ggX7_change_X0_hasLine
set_option maxRecDepth 20000 in
theorem ggX7_change_X0_versions : GoodIn wsX7_change wsX0_versions := goodIn_r _ [13, 14, 42, 43, 44, 45] (by decide +kernel) (by decide +kernel)
set_option maxRecDepth 20000 in
theorem gX7_change_X0_versions : GoodIn wsX7_change (wsV RX7 83 RX0 yX0_versions wsX0_versions) := goodIn_app (goodIn_of _ (by decide +kernel)) ggX7_change_X0_versions
set_option maxRecDepth 20000 in
theorem ggX7_change_X0_write : GoodIn wsX7_change wsX0_write := goodIn_r _ [18, 19, 20, 21, 22, 23, 24, 25, 26, 27, 7, 28, 14, 29, 5, 6, 8, 9, 42, 43, 44, 45] (by decide +kernel) (by decide +kernel)
set_option maxRecDepth 20000 in
theorem gX7_change_X0_write : GoodIn wsX7_change (wsV RX7 86 RX0 yX0_write wsX0_write) := goodIn_app (goodIn_of _ (by decide +kernel)) ggX7_change_X0_write
theorem dX7_change_0 : decode cX7_change 0 = .ok (.aload_n 0, 1) := by decide +kernel
theorem dX7_change_1 : decode cX7_change 1 = .ok (.getfield 10, 3) := by decide +kernel
theorem dX7_change_4 : decode cX7_change 4 = .ok (.iload_n 1, 1) := by decide +kernel
theorem dX7_change_5 : decode cX7_change 5 = .ok (.invokevirtual 79, 3) := by decide +kernel
theorem dX7_change_8 : decode cX7_change 8 = .ok (.ifCond .ne 5, 3) := by decide +kernel
theorem dX7_change_11 : decode cX7_change 11 = .ok (.iconst (-1), 1) := by decide +kernel
theorem dX7_change_12 : decode cX7_change 12 = .ok (.ireturn, 1) := by decide +kernel
theorem dX7_change_13 : decode cX7_change 13 = .ok (.aload_n 0, 1) := by decide +kernel
theorem dX7_change_14 : decode cX7_change 14 = .ok (.getfield 67, 3) := by decide +kernel
theorem dX7_change_17 : decode cX7_change 17 = .ok (.ifCond .ne 6, 3) := by decide +kernel
theorem dX7_change_20 : decode cX7_change 20 = .ok (.bipush (-5), 2) := by decide +kernel
theorem dX7_change_22 : decode cX7_change 22 = .ok (.ireturn, 1) := by decide +kernel
theorem dX7_change_23 : decode cX7_change 23 = .ok (.aload_n 0, 1) := by decide +kernel
theorem dX7_change_24 : decode cX7_change 24 = .ok (.getfield 10, 3) := by decide +kernel
theorem dX7_change_27 : decode cX7_change 27 = .ok (.aload_n 0, 1) := by decide +kernel
theorem dX7_change_28 : decode cX7_change 28 = .ok (.getfield 10, 3) := by decide +kernel
theorem dX7_change_31 : decode cX7_change 31 = .ok (.invokevirtual 83, 3) := by decide +kernel
theorem dX7_change_34 : decode cX7_change 34 = .ok (.iconst 1, 1) := by decide +kernel
theorem dX7_change_35 : decode cX7_change 35 = .ok (.isub, 1) := by decide +kernel
theorem dX7_change_36 : decode cX7_change 36 = .ok (.iload_n 1, 1) := by decide +kernel
theorem dX7_change_37 : decode cX7_change 37 = .ok (.aload_n 0, 1) := by decide +kernel
theorem dX7_change_38 : decode cX7_change 38 = .ok (.getfield 22, 3) := by decide +kernel
theorem dX7_change_41 : decode cX7_change 41 = .ok (.aload_n 0, 1) := by decide +kernel
theorem dX7_change_42 : decode cX7_change 42 = .ok (.getfield 67, 3) := by decide +kernel
theorem dX7_change_45 : decode cX7_change 45 = .ok (.invokevirtual 86, 3) := by decide +kernel
theorem dX7_change_48 : decode cX7_change 48 = .ok (.aload_n 0, 1) := by decide +kernel
theorem dX7_change_49 : decode cX7_change 49 = .ok (.iconst 0, 1) := by decide +kernel
theorem dX7_change_50 : decode cX7_change 50 = .ok (.putfield 67, 3) := by decide +kernel
theorem dX7_change_53 : decode cX7_change 53 = .ok (.iconst 1, 1) := by decide +kernel
theorem dX7_change_54 : decode cX7_change 54 = .ok (.ireturn, 1) := by decide +kernel
set_option maxRecDepth 20000 in
theorem ggX7_version_X0_versions : GoodIn wsX7_version wsX0_versions := goodIn_r _ [6, 7, 30, 31, 32, 33] (by decide +kernel) (by decide +kernel)
set_option maxRecDepth 20000 in
theorem gX7_version_X0_versions : GoodIn wsX7_version (wsV RX7 83 RX0 yX0_versions wsX0_versions) := goodIn_app (goodIn_of _ (by decide +kernel)) ggX7_version_X0_versions
set_option maxRecDepth 20000 in
theorem ggX7_version_X0_addVersion : GoodIn wsX7_version wsX0_addVersion := goodIn_r _ [11, 7, 12, 13, 14, 15, 16, 17, 30, 31, 32, 33] (by decide +kernel) (by decide +kernel)
set_option maxRecDepth 20000 in
theorem gX7_version_X0_addVersion : GoodIn wsX7_version (wsV RX7 90 RX0 yX0_addVersion wsX0_addVersion) := goodIn_app (goodIn_of _ (by decide +kernel)) ggX7_version_X0_addVersion
theorem dX7_version_0 : decode cX7_version 0 = .ok (.aload_n 0, 1) := by decide +kernel
theorem dX7_version_1 : decode cX7_version 1 = .ok (.getfield 10, 3) := by decide +kernel
theorem dX7_version_4 : decode cX7_version 4 = .ok (.invokevirtual 83, 3) := by decide +kernel
theorem dX7_version_7 : decode cX7_version 7 = .ok (.iconst 4, 1) := by decide +kernel
theorem dX7_version_8 : decode cX7_version 8 = .ok (.if_icmp .lt 6, 3) := by decide +kernel
theorem dX7_version_11 : decode cX7_version 11 = .ok (.bipush (-4), 2) := by decide +kernel
theorem dX7_version_13 : decode cX7_version 13 = .ok (.ireturn, 1) := by decide +kernel
theorem dX7_version_14 : decode cX7_version 14 = .ok (.aload_n 0, 1) := by decide +kernel
theorem dX7_version_15 : decode cX7_version 15 = .ok (.getfield 10, 3) := by decide +kernel
theorem dX7_version_18 : decode cX7_version 18 = .ok (.invokevirtual 90, 3) := by decide +kernel
theorem dX7_version_21 : decode cX7_version 21 = .ok (.aload_n 0, 1) := by decide +kernel
theorem dX7_version_22 : decode cX7_version 22 = .ok (.getfield 10, 3) := by decide +kernel
theorem dX7_version_25 : decode cX7_version 25 = .ok (.invokevirtual 83, 3) := by decide +kernel
theorem dX7_version_28 : decode cX7_version 28 = .ok (.iconst 1, 1) := by decide +kernel
theorem dX7_version_29 : decode cX7_version 29 = .ok (.isub, 1) := by decide +kernel
theorem dX7_version_30 : decode cX7_version 30 = .ok (.ireturn, 1) := by decide +kernel
set_option maxRecDepth 20000 in
theorem ggX7_sign_X0_hasVersion : GoodIn wsX7_sign wsX0_hasVersion := goodIn_r _ [6, 7, 35, 36, 37, 38] (by decide +kernel) (by decide +kernel)
set_option maxRecDepth 20000 in
theorem gX7_sign_X0_hasVersion : GoodIn wsX7_sign (wsV RX7 93 RX0 yX0_hasVersion wsX0_hasVersion) := goodIn_app (goodIn_of _ (by decide +kernel)) ggX7_sign_X0_hasVersion
set_option maxRecDepth 20000 in
theorem ggX7_sign_X0_hasLine : GoodIn wsX7_sign wsX0_hasLine := goodIn_r _ [11, 12, 35, 36, 37, 38] (by decide +kernel) (by decide +kernel)
set_option maxRecDepth 20000 in
theorem gX7_sign_X0_hasLine : GoodIn wsX7_sign (wsV RX7 79 RX0 yX0_hasLine wsX0_hasLine) := goodIn_app (goodIn_of _ (by decide +kernel)) ggX7_sign_X0_hasLine
set_option maxRecDepth 20000 in
theorem ggX7_sign_X0_sizeOf : GoodIn wsX7_sign wsX0_sizeOf := goodIn_r _ [16, 7, 12, 17, 35, 36, 37, 38] (by decide +kernel) (by decide +kernel)
set_option maxRecDepth 20000 in
theorem gX7_sign_X0_sizeOf : GoodIn wsX7_sign (wsV RX7 96 RX0 yX0_sizeOf wsX0_sizeOf) := goodIn_app (goodIn_of _ (by decide +kernel)) ggX7_sign_X0_sizeOf
set_option maxRecDepth 20000 in
theorem ggX7_sign_X0_signAt : GoodIn wsX7_sign wsX0_signAt := goodIn_r _ [21, 7, 12, 17, 22, 35, 36, 37, 38] (by decide +kernel) (by decide +kernel)
set_option maxRecDepth 20000 in
theorem gX7_sign_X0_signAt : GoodIn wsX7_sign (wsV RX7 100 RX0 yX0_signAt wsX0_signAt) := goodIn_app (goodIn_of _ (by decide +kernel)) ggX7_sign_X0_signAt
theorem dX7_sign_0 : decode cX7_sign 0 = .ok (.aload_n 0, 1) := by decide +kernel
theorem dX7_sign_1 : decode cX7_sign 1 = .ok (.getfield 10, 3) := by decide +kernel
theorem dX7_sign_4 : decode cX7_sign 4 = .ok (.iload_n 1, 1) := by decide +kernel
theorem dX7_sign_5 : decode cX7_sign 5 = .ok (.invokevirtual 93, 3) := by decide +kernel
theorem dX7_sign_8 : decode cX7_sign 8 = .ok (.ifCond .eq 14, 3) := by decide +kernel
theorem dX7_sign_11 : decode cX7_sign 11 = .ok (.aload_n 0, 1) := by decide +kernel
theorem dX7_sign_12 : decode cX7_sign 12 = .ok (.getfield 10, 3) := by decide +kernel
theorem dX7_sign_15 : decode cX7_sign 15 = .ok (.iload_n 2, 1) := by decide +kernel
theorem dX7_sign_16 : decode cX7_sign 16 = .ok (.invokevirtual 79, 3) := by decide +kernel
theorem dX7_sign_19 : decode cX7_sign 19 = .ok (.ifCond .ne 5, 3) := by decide +kernel
theorem dX7_sign_22 : decode cX7_sign 22 = .ok (.iconst (-1), 1) := by decide +kernel
theorem dX7_sign_23 : decode cX7_sign 23 = .ok (.ireturn, 1) := by decide +kernel
theorem dX7_sign_24 : decode cX7_sign 24 = .ok (.iload_n 3, 1) := by decide +kernel
theorem dX7_sign_25 : decode cX7_sign 25 = .ok (.iconst (-1), 1) := by decide +kernel
theorem dX7_sign_26 : decode cX7_sign 26 = .ok (.if_icmp .ne 13, 3) := by decide +kernel
theorem dX7_sign_29 : decode cX7_sign 29 = .ok (.aload_n 0, 1) := by decide +kernel
theorem dX7_sign_30 : decode cX7_sign 30 = .ok (.getfield 10, 3) := by decide +kernel
theorem dX7_sign_33 : decode cX7_sign 33 = .ok (.iload_n 1, 1) := by decide +kernel
theorem dX7_sign_34 : decode cX7_sign 34 = .ok (.iload_n 2, 1) := by decide +kernel
theorem dX7_sign_35 : decode cX7_sign 35 = .ok (.invokevirtual 96, 3) := by decide +kernel
theorem dX7_sign_38 : decode cX7_sign 38 = .ok (.ireturn, 1) := by decide +kernel
theorem dX7_sign_39 : decode cX7_sign 39 = .ok (.aload_n 0, 1) := by decide +kernel
theorem dX7_sign_40 : decode cX7_sign 40 = .ok (.getfield 10, 3) := by decide +kernel
theorem dX7_sign_43 : decode cX7_sign 43 = .ok (.iload_n 1, 1) := by decide +kernel
theorem dX7_sign_44 : decode cX7_sign 44 = .ok (.iload_n 2, 1) := by decide +kernel
theorem dX7_sign_45 : decode cX7_sign 45 = .ok (.iload_n 3, 1) := by decide +kernel
theorem dX7_sign_46 : decode cX7_sign 46 = .ok (.invokevirtual 100, 3) := by decide +kernel
theorem dX7_sign_49 : decode cX7_sign 49 = .ok (.istore 4, 2) := by decide +kernel
theorem dX7_sign_51 : decode cX7_sign 51 = .ok (.iload 4, 2) := by decide +kernel
theorem dX7_sign_53 : decode cX7_sign 53 = .ok (.ifCond .ne 8, 3) := by decide +kernel
theorem dX7_sign_56 : decode cX7_sign 56 = .ok (.bipush (-6), 2) := by decide +kernel
theorem dX7_sign_58 : decode cX7_sign 58 = .ok (.goto 5, 3) := by decide +kernel
theorem dX7_sign_61 : decode cX7_sign 61 = .ok (.iload 4, 2) := by decide +kernel
theorem dX7_sign_63 : decode cX7_sign 63 = .ok (.ireturn, 1) := by decide +kernel
set_option maxRecDepth 20000 in
theorem ggX7_alike_X7_isWay : GoodIn wsX7_alike wsX7_isWay := goodIn_r _ [5, 6, 7, 4, 8] (by decide +kernel) (by decide +kernel)
set_option maxRecDepth 20000 in
theorem gX7_alike_X7_isWay : GoodIn wsX7_alike (va_wsS RX7 104 yX7_isWay wsX7_isWay) := goodIn_app (goodIn_of _ (by decide +kernel)) ggX7_alike_X7_isWay
set_option maxRecDepth 20000 in
theorem ggX7_alike_X7_areRows : GoodIn wsX7_alike wsX7_areRows := goodIn_r _ [11, 12, 13, 4, 14, 6, 7, 8, 15, 16, 17] (by decide +kernel) (by decide +kernel)
set_option maxRecDepth 20000 in
theorem gX7_alike_X7_areRows : GoodIn wsX7_alike (va_wsS RX7 107 yX7_areRows wsX7_areRows) := goodIn_app (goodIn_of _ (by decide +kernel)) ggX7_alike_X7_areRows
set_option maxRecDepth 20000 in
theorem ggX7_alike_X7_refusalIn : GoodIn wsX7_alike wsX7_refusalIn := goodIn_r _ [21, 22, 23, 24, 25, 26, 27, 28, 87, 88, 89, 90, 91, 92, 93, 94, 95, 96, 97, 98, 99, 100, 101, 102] (by decide +kernel) (by decide +kernel)
set_option maxRecDepth 20000 in
theorem gX7_alike_X7_refusalIn : GoodIn wsX7_alike (wsV RX7 111 RX7 yX7_refusalIn wsX7_refusalIn) := goodIn_app (goodIn_of _ (by decide +kernel)) ggX7_alike_X7_refusalIn
set_option maxRecDepth 20000 in
theorem ggX7_alike_X2_rowsAlike : GoodIn wsX7_alike wsX2_rowsAlike := goodIn_r _ [33, 34, 35, 36, 32, 37, 38, 39, 40, 41, 42, 43, 44, 45, 26, 46, 47, 48, 49, 50, 51, 52, 53, 54, 55, 56, 57, 58, 59, 60, 61, 62, 63, 64, 65, 66, 67, 28, 68, 69, 70, 71, 72, 73, 74, 75, 76, 77, 78, 4, 79, 80, 81, 82, 83, 84, 85, 86, 103, 104, 105, 106, 107, 108, 99, 100, 101, 102, 109, 110, 111] (by decide +kernel) (by decide +kernel)
set_option maxRecDepth 20000 in
theorem gX7_alike_X2_rowsAlike : GoodIn wsX7_alike (wsV RX7 115 RX2 yX2_rowsAlike wsX2_rowsAlike) := goodIn_app (goodIn_of _ (by decide +kernel)) ggX7_alike_X2_rowsAlike
theorem dX7_alike_0 : decode cX7_alike 0 = .ok (.aload_n 0, 1) := by decide +kernel
theorem dX7_alike_1 : decode cX7_alike 1 = .ok (.iload_n 1, 1) := by decide +kernel
theorem dX7_alike_2 : decode cX7_alike 2 = .ok (.iload_n 2, 1) := by decide +kernel
theorem dX7_alike_3 : decode cX7_alike 3 = .ok (.invokestatic 104, 3) := by decide +kernel
theorem dX7_alike_6 : decode cX7_alike 6 = .ok (.ifCond .eq 18, 3) := by decide +kernel
theorem dX7_alike_9 : decode cX7_alike 9 = .ok (.iload_n 3, 1) := by decide +kernel
theorem dX7_alike_10 : decode cX7_alike 10 = .ok (.iload 4, 2) := by decide +kernel
theorem dX7_alike_12 : decode cX7_alike 12 = .ok (.iload 5, 2) := by decide +kernel
theorem dX7_alike_14 : decode cX7_alike 14 = .ok (.invokestatic 107, 3) := by decide +kernel
theorem dX7_alike_17 : decode cX7_alike 17 = .ok (.ifCond .eq 7, 3) := by decide +kernel
theorem dX7_alike_20 : decode cX7_alike 20 = .ok (.iconst 1, 1) := by decide +kernel
theorem dX7_alike_21 : decode cX7_alike 21 = .ok (.goto 4, 3) := by decide +kernel
theorem dX7_alike_24 : decode cX7_alike 24 = .ok (.iconst 0, 1) := by decide +kernel
theorem dX7_alike_25 : decode cX7_alike 25 = .ok (.invokevirtual 111, 3) := by decide +kernel
theorem dX7_alike_28 : decode cX7_alike 28 = .ok (.istore 6, 2) := by decide +kernel
theorem dX7_alike_30 : decode cX7_alike 30 = .ok (.iload 6, 2) := by decide +kernel
theorem dX7_alike_32 : decode cX7_alike 32 = .ok (.ifCond .eq 6, 3) := by decide +kernel
theorem dX7_alike_35 : decode cX7_alike 35 = .ok (.iload 6, 2) := by decide +kernel
theorem dX7_alike_37 : decode cX7_alike 37 = .ok (.ireturn, 1) := by decide +kernel
theorem dX7_alike_38 : decode cX7_alike 38 = .ok (.aload_n 0, 1) := by decide +kernel
theorem dX7_alike_39 : decode cX7_alike 39 = .ok (.getfield 31, 3) := by decide +kernel
theorem dX7_alike_42 : decode cX7_alike 42 = .ok (.iload_n 1, 1) := by decide +kernel
theorem dX7_alike_43 : decode cX7_alike 43 = .ok (.iload_n 2, 1) := by decide +kernel
theorem dX7_alike_44 : decode cX7_alike 44 = .ok (.iload_n 3, 1) := by decide +kernel
theorem dX7_alike_45 : decode cX7_alike 45 = .ok (.iload 4, 2) := by decide +kernel
theorem dX7_alike_47 : decode cX7_alike 47 = .ok (.iload 5, 2) := by decide +kernel
theorem dX7_alike_49 : decode cX7_alike 49 = .ok (.invokevirtual 115, 3) := by decide +kernel
theorem dX7_alike_52 : decode cX7_alike 52 = .ok (.ifCond .eq 7, 3) := by decide +kernel
theorem dX7_alike_55 : decode cX7_alike 55 = .ok (.iconst 1, 1) := by decide +kernel
theorem dX7_alike_56 : decode cX7_alike 56 = .ok (.goto 4, 3) := by decide +kernel
theorem dX7_alike_59 : decode cX7_alike 59 = .ok (.iconst 0, 1) := by decide +kernel
theorem dX7_alike_60 : decode cX7_alike 60 = .ok (.ireturn, 1) := by decide +kernel
set_option maxRecDepth 20000 in
theorem ggX7_longest_X7_isWay : GoodIn wsX7_longest wsX7_isWay := goodIn_r _ [5, 6, 7, 4, 8] (by decide +kernel) (by decide +kernel)
set_option maxRecDepth 20000 in
theorem gX7_longest_X7_isWay : GoodIn wsX7_longest (va_wsS RX7 104 yX7_isWay wsX7_isWay) := goodIn_app (goodIn_of _ (by decide +kernel)) ggX7_longest_X7_isWay
set_option maxRecDepth 20000 in
theorem ggX7_longest_X7_isUpTo : GoodIn wsX7_longest wsX7_isUpTo := goodIn_r _ [8] (by decide +kernel) (by decide +kernel)
set_option maxRecDepth 20000 in
theorem gX7_longest_X7_isUpTo : GoodIn wsX7_longest (va_wsS RX7 119 yX7_isUpTo wsX7_isUpTo) := goodIn_app (goodIn_of _ (by decide +kernel)) ggX7_longest_X7_isUpTo
set_option maxRecDepth 20000 in
theorem ggX7_longest_X7_refusalIn : GoodIn wsX7_longest wsX7_refusalIn := goodIn_r _ [12, 13, 14, 15, 16, 17, 18, 19, 94, 95, 96, 97, 98, 99, 100, 101, 102, 103, 104, 105, 112, 113, 114, 115] (by decide +kernel) (by decide +kernel)
set_option maxRecDepth 20000 in
theorem gX7_longest_X7_refusalIn : GoodIn wsX7_longest (wsV RX7 111 RX7 yX7_refusalIn wsX7_refusalIn) := goodIn_app (goodIn_of _ (by decide +kernel)) ggX7_longest_X7_refusalIn
set_option maxRecDepth 20000 in
theorem ggX7_longest_X2_compareAll : GoodIn wsX7_longest wsX2_compareAll := goodIn_r _ [24, 25, 26, 27, 28, 17, 29, 30, 31, 32, 33, 23, 34, 35, 36, 37, 38, 39, 40, 41, 42, 43, 44, 45, 46, 47, 48, 49, 50, 51, 52, 53, 54, 55, 56, 57, 58, 59, 19, 60, 61, 62, 63, 64, 65, 66, 67, 68, 69, 70, 4, 71, 72, 73, 74, 75, 76, 77, 78, 106, 107, 108, 109, 110, 111, 112, 113, 114, 115, 116, 117, 118] (by decide +kernel) (by decide +kernel)
set_option maxRecDepth 20000 in
theorem gX7_longest_X2_compareAll : GoodIn wsX7_longest (wsV RX7 123 RX2 yX2_compareAll wsX2_compareAll) := goodIn_app (goodIn_of _ (by decide +kernel)) ggX7_longest_X2_compareAll
set_option maxRecDepth 20000 in
theorem ggX7_longest_X2_seekLongest : GoodIn wsX7_longest wsX2_seekLongest := goodIn_r _ [82, 83, 25, 84, 85, 86, 87, 88, 89, 26, 27, 28, 17, 29, 30, 90, 91, 92, 23, 93, 35, 36, 37, 38, 39, 106, 107, 108, 109, 110, 111, 112, 113, 114, 115] (by decide +kernel) (by decide +kernel)
set_option maxRecDepth 20000 in
theorem gX7_longest_X2_seekLongest : GoodIn wsX7_longest (wsV RX7 127 RX2 yX2_seekLongest wsX2_seekLongest) := goodIn_app (goodIn_of _ (by decide +kernel)) ggX7_longest_X2_seekLongest
theorem dX7_longest_0 : decode cX7_longest 0 = .ok (.aload_n 0, 1) := by decide +kernel
theorem dX7_longest_1 : decode cX7_longest 1 = .ok (.iload_n 1, 1) := by decide +kernel
theorem dX7_longest_2 : decode cX7_longest 2 = .ok (.iload_n 2, 1) := by decide +kernel
theorem dX7_longest_3 : decode cX7_longest 3 = .ok (.invokestatic 104, 3) := by decide +kernel
theorem dX7_longest_6 : decode cX7_longest 6 = .ok (.ifCond .eq 15, 3) := by decide +kernel
theorem dX7_longest_9 : decode cX7_longest 9 = .ok (.iload_n 3, 1) := by decide +kernel
theorem dX7_longest_10 : decode cX7_longest 10 = .ok (.iconst 2, 1) := by decide +kernel
theorem dX7_longest_11 : decode cX7_longest 11 = .ok (.invokestatic 119, 3) := by decide +kernel
theorem dX7_longest_14 : decode cX7_longest 14 = .ok (.ifCond .eq 7, 3) := by decide +kernel
theorem dX7_longest_17 : decode cX7_longest 17 = .ok (.iconst 1, 1) := by decide +kernel
theorem dX7_longest_18 : decode cX7_longest 18 = .ok (.goto 4, 3) := by decide +kernel
theorem dX7_longest_21 : decode cX7_longest 21 = .ok (.iconst 0, 1) := by decide +kernel
theorem dX7_longest_22 : decode cX7_longest 22 = .ok (.invokevirtual 111, 3) := by decide +kernel
theorem dX7_longest_25 : decode cX7_longest 25 = .ok (.istore 4, 2) := by decide +kernel
theorem dX7_longest_27 : decode cX7_longest 27 = .ok (.iload 4, 2) := by decide +kernel
theorem dX7_longest_29 : decode cX7_longest 29 = .ok (.ifCond .eq 6, 3) := by decide +kernel
theorem dX7_longest_32 : decode cX7_longest 32 = .ok (.iload 4, 2) := by decide +kernel
theorem dX7_longest_34 : decode cX7_longest 34 = .ok (.ireturn, 1) := by decide +kernel
theorem dX7_longest_35 : decode cX7_longest 35 = .ok (.aload_n 0, 1) := by decide +kernel
theorem dX7_longest_36 : decode cX7_longest 36 = .ok (.getfield 31, 3) := by decide +kernel
theorem dX7_longest_39 : decode cX7_longest 39 = .ok (.iload_n 1, 1) := by decide +kernel
theorem dX7_longest_40 : decode cX7_longest 40 = .ok (.iload_n 2, 1) := by decide +kernel
theorem dX7_longest_41 : decode cX7_longest 41 = .ok (.invokevirtual 123, 3) := by decide +kernel
theorem dX7_longest_44 : decode cX7_longest 44 = .ok (.aload_n 0, 1) := by decide +kernel
theorem dX7_longest_45 : decode cX7_longest 45 = .ok (.getfield 31, 3) := by decide +kernel
theorem dX7_longest_48 : decode cX7_longest 48 = .ok (.invokevirtual 127, 3) := by decide +kernel
theorem dX7_longest_51 : decode cX7_longest 51 = .ok (.aload_n 0, 1) := by decide +kernel
theorem dX7_longest_52 : decode cX7_longest 52 = .ok (.getfield 31, 3) := by decide +kernel
theorem dX7_longest_55 : decode cX7_longest 55 = .ok (.getfield 130, 3) := by decide +kernel
theorem dX7_longest_58 : decode cX7_longest 58 = .ok (.ifCond .ne 6, 3) := by decide +kernel
theorem dX7_longest_61 : decode cX7_longest 61 = .ok (.bipush (-6), 2) := by decide +kernel
theorem dX7_longest_63 : decode cX7_longest 63 = .ok (.ireturn, 1) := by decide +kernel
theorem dX7_longest_64 : decode cX7_longest 64 = .ok (.iload_n 3, 1) := by decide +kernel
theorem dX7_longest_65 : decode cX7_longest 65 = .ok (.ifCond .ne 11, 3) := by decide +kernel
theorem dX7_longest_68 : decode cX7_longest 68 = .ok (.aload_n 0, 1) := by decide +kernel
theorem dX7_longest_69 : decode cX7_longest 69 = .ok (.getfield 31, 3) := by decide +kernel
theorem dX7_longest_72 : decode cX7_longest 72 = .ok (.getfield 130, 3) := by decide +kernel
theorem dX7_longest_75 : decode cX7_longest 75 = .ok (.ireturn, 1) := by decide +kernel
theorem dX7_longest_76 : decode cX7_longest 76 = .ok (.iload_n 3, 1) := by decide +kernel
theorem dX7_longest_77 : decode cX7_longest 77 = .ok (.iconst 1, 1) := by decide +kernel
theorem dX7_longest_78 : decode cX7_longest 78 = .ok (.if_icmp .ne 13, 3) := by decide +kernel
theorem dX7_longest_81 : decode cX7_longest 81 = .ok (.aload_n 0, 1) := by decide +kernel
theorem dX7_longest_82 : decode cX7_longest 82 = .ok (.getfield 31, 3) := by decide +kernel
theorem dX7_longest_85 : decode cX7_longest 85 = .ok (.getfield 133, 3) := by decide +kernel
theorem dX7_longest_88 : decode cX7_longest 88 = .ok (.goto 10, 3) := by decide +kernel
theorem dX7_longest_91 : decode cX7_longest 91 = .ok (.aload_n 0, 1) := by decide +kernel
theorem dX7_longest_92 : decode cX7_longest 92 = .ok (.getfield 31, 3) := by decide +kernel
theorem dX7_longest_95 : decode cX7_longest 95 = .ok (.getfield 136, 3) := by decide +kernel
theorem dX7_longest_98 : decode cX7_longest 98 = .ok (.ireturn, 1) := by decide +kernel
set_option maxRecDepth 20000 in
theorem ggX7_like_X7_isWay : GoodIn wsX7_like wsX7_isWay := goodIn_r _ [5, 6, 7, 4, 8] (by decide +kernel) (by decide +kernel)
set_option maxRecDepth 20000 in
theorem gX7_like_X7_isWay : GoodIn wsX7_like (va_wsS RX7 104 yX7_isWay wsX7_isWay) := goodIn_app (goodIn_of _ (by decide +kernel)) ggX7_like_X7_isWay
set_option maxRecDepth 20000 in
theorem ggX7_like_X7_isStart : GoodIn wsX7_like wsX7_isStart := goodIn_r _ [11, 6, 7, 4, 8] (by decide +kernel) (by decide +kernel)
set_option maxRecDepth 20000 in
theorem gX7_like_X7_isStart : GoodIn wsX7_like (va_wsS RX7 139 yX7_isStart wsX7_isStart) := goodIn_app (goodIn_of _ (by decide +kernel)) ggX7_like_X7_isStart
set_option maxRecDepth 20000 in
theorem ggX7_like_X7_isLength : GoodIn wsX7_like wsX7_isLength := goodIn_r _ [14] (by decide +kernel) (by decide +kernel)
set_option maxRecDepth 20000 in
theorem gX7_like_X7_isLength : GoodIn wsX7_like (va_wsS RX7 142 yX7_isLength wsX7_isLength) := goodIn_app (goodIn_of _ (by decide +kernel)) ggX7_like_X7_isLength
set_option maxRecDepth 20000 in
theorem ggX7_like_X7_refusalIn : GoodIn wsX7_like wsX7_refusalIn := goodIn_r _ [18, 19, 20, 21, 22, 23, 24, 25, 93, 94, 95, 96, 97, 98, 99, 100, 101, 102, 103, 104, 105, 106, 107, 108] (by decide +kernel) (by decide +kernel)
set_option maxRecDepth 20000 in
theorem gX7_like_X7_refusalIn : GoodIn wsX7_like (wsV RX7 111 RX7 yX7_refusalIn wsX7_refusalIn) := goodIn_app (goodIn_of _ (by decide +kernel)) ggX7_like_X7_refusalIn
set_option maxRecDepth 20000 in
theorem ggX7_like_X2_compareAll : GoodIn wsX7_like wsX2_compareAll := goodIn_r _ [30, 31, 32, 33, 34, 23, 35, 36, 37, 38, 39, 29, 40, 41, 42, 43, 44, 45, 46, 47, 48, 49, 50, 51, 52, 53, 54, 55, 56, 57, 58, 59, 60, 61, 62, 63, 64, 65, 25, 66, 67, 68, 69, 70, 71, 72, 73, 74, 75, 76, 4, 77, 78, 79, 80, 81, 82, 83, 84, 109, 110, 111, 112, 113, 114, 105, 106, 107, 108, 115, 116, 117] (by decide +kernel) (by decide +kernel)
set_option maxRecDepth 20000 in
theorem gX7_like_X2_compareAll : GoodIn wsX7_like (wsV RX7 123 RX2 yX2_compareAll wsX2_compareAll) := goodIn_app (goodIn_of _ (by decide +kernel)) ggX7_like_X2_compareAll
set_option maxRecDepth 20000 in
theorem ggX7_like_X2_startsLike : GoodIn wsX7_like wsX2_startsLike := goodIn_r _ [88, 31, 32, 33, 34, 23, 35, 36, 89, 90, 91, 29, 92, 41, 42, 43, 44, 45, 109, 110, 111, 112, 113, 114, 105, 106, 107, 108] (by decide +kernel) (by decide +kernel)
set_option maxRecDepth 20000 in
theorem gX7_like_X2_startsLike : GoodIn wsX7_like (wsV RX7 145 RX2 yX2_startsLike wsX2_startsLike) := goodIn_app (goodIn_of _ (by decide +kernel)) ggX7_like_X2_startsLike
theorem dX7_like_0 : decode cX7_like 0 = .ok (.aload_n 0, 1) := by decide +kernel
theorem dX7_like_1 : decode cX7_like 1 = .ok (.iload_n 1, 1) := by decide +kernel
theorem dX7_like_2 : decode cX7_like 2 = .ok (.iload_n 2, 1) := by decide +kernel
theorem dX7_like_3 : decode cX7_like 3 = .ok (.invokestatic 104, 3) := by decide +kernel
theorem dX7_like_6 : decode cX7_like 6 = .ok (.ifCond .eq 22, 3) := by decide +kernel
theorem dX7_like_9 : decode cX7_like 9 = .ok (.iload_n 3, 1) := by decide +kernel
theorem dX7_like_10 : decode cX7_like 10 = .ok (.invokestatic 139, 3) := by decide +kernel
theorem dX7_like_13 : decode cX7_like 13 = .ok (.ifCond .eq 15, 3) := by decide +kernel
theorem dX7_like_16 : decode cX7_like 16 = .ok (.iload 4, 2) := by decide +kernel
theorem dX7_like_18 : decode cX7_like 18 = .ok (.invokestatic 142, 3) := by decide +kernel
theorem dX7_like_21 : decode cX7_like 21 = .ok (.ifCond .eq 7, 3) := by decide +kernel
theorem dX7_like_24 : decode cX7_like 24 = .ok (.iconst 1, 1) := by decide +kernel
theorem dX7_like_25 : decode cX7_like 25 = .ok (.goto 4, 3) := by decide +kernel
theorem dX7_like_28 : decode cX7_like 28 = .ok (.iconst 0, 1) := by decide +kernel
theorem dX7_like_29 : decode cX7_like 29 = .ok (.invokevirtual 111, 3) := by decide +kernel
theorem dX7_like_32 : decode cX7_like 32 = .ok (.istore 5, 2) := by decide +kernel
theorem dX7_like_34 : decode cX7_like 34 = .ok (.iload 5, 2) := by decide +kernel
theorem dX7_like_36 : decode cX7_like 36 = .ok (.ifCond .eq 6, 3) := by decide +kernel
theorem dX7_like_39 : decode cX7_like 39 = .ok (.iload 5, 2) := by decide +kernel
theorem dX7_like_41 : decode cX7_like 41 = .ok (.ireturn, 1) := by decide +kernel
theorem dX7_like_42 : decode cX7_like 42 = .ok (.aload_n 0, 1) := by decide +kernel
theorem dX7_like_43 : decode cX7_like 43 = .ok (.getfield 31, 3) := by decide +kernel
theorem dX7_like_46 : decode cX7_like 46 = .ok (.iload_n 1, 1) := by decide +kernel
theorem dX7_like_47 : decode cX7_like 47 = .ok (.iload_n 2, 1) := by decide +kernel
theorem dX7_like_48 : decode cX7_like 48 = .ok (.invokevirtual 123, 3) := by decide +kernel
theorem dX7_like_51 : decode cX7_like 51 = .ok (.aload_n 0, 1) := by decide +kernel
theorem dX7_like_52 : decode cX7_like 52 = .ok (.getfield 31, 3) := by decide +kernel
theorem dX7_like_55 : decode cX7_like 55 = .ok (.iload_n 3, 1) := by decide +kernel
theorem dX7_like_56 : decode cX7_like 56 = .ok (.iload 4, 2) := by decide +kernel
theorem dX7_like_58 : decode cX7_like 58 = .ok (.invokevirtual 145, 3) := by decide +kernel
theorem dX7_like_61 : decode cX7_like 61 = .ok (.ireturn, 1) := by decide +kernel
set_option maxRecDepth 20000 in
theorem ggX7_groups_X7_isWay : GoodIn wsX7_groups wsX7_isWay := goodIn_r _ [6, 7, 8, 5, 9] (by decide +kernel) (by decide +kernel)
set_option maxRecDepth 20000 in
theorem gX7_groups_X7_isWay : GoodIn wsX7_groups (va_wsS RX7 104 yX7_isWay wsX7_isWay) := goodIn_app (goodIn_of _ (by decide +kernel)) ggX7_groups_X7_isWay
set_option maxRecDepth 20000 in
theorem ggX7_groups_X7_isLength : GoodIn wsX7_groups wsX7_isLength := goodIn_r _ [12] (by decide +kernel) (by decide +kernel)
set_option maxRecDepth 20000 in
theorem gX7_groups_X7_isLength : GoodIn wsX7_groups (va_wsS RX7 142 yX7_isLength wsX7_isLength) := goodIn_app (goodIn_of _ (by decide +kernel)) ggX7_groups_X7_isLength
set_option maxRecDepth 20000 in
theorem ggX7_groups_X7_refusalIn : GoodIn wsX7_groups wsX7_refusalIn := goodIn_r _ [16, 2, 17, 18, 19, 20, 21, 22, 105, 106, 107, 108, 109, 110, 111, 112, 113, 114, 115, 116, 117, 118, 119, 120] (by decide +kernel) (by decide +kernel)
set_option maxRecDepth 20000 in
theorem gX7_groups_X7_refusalIn : GoodIn wsX7_groups (wsV RX7 111 RX7 yX7_refusalIn wsX7_refusalIn) := goodIn_app (goodIn_of _ (by decide +kernel)) ggX7_groups_X7_refusalIn
set_option maxRecDepth 20000 in
theorem ggX7_groups_X2_compareAll : GoodIn wsX7_groups wsX2_compareAll := goodIn_r _ [27, 28, 29, 30, 31, 20, 32, 33, 34, 35, 36, 26, 37, 38, 39, 40, 41, 42, 43, 44, 45, 46, 47, 48, 49, 50, 51, 52, 53, 54, 55, 56, 57, 58, 59, 60, 61, 62, 22, 63, 64, 65, 66, 67, 68, 69, 70, 71, 72, 73, 5, 74, 75, 76, 77, 78, 79, 80, 81, 121, 122, 123, 124, 125, 126, 117, 118, 119, 120, 127, 128, 129] (by decide +kernel) (by decide +kernel)
set_option maxRecDepth 20000 in
theorem gX7_groups_X2_compareAll : GoodIn wsX7_groups (wsV RX7 123 RX2 yX2_compareAll wsX2_compareAll) := goodIn_app (goodIn_of _ (by decide +kernel)) ggX7_groups_X2_compareAll
set_option maxRecDepth 20000 in
theorem ggX7_groups_X0_lines : GoodIn wsX7_groups wsX0_lines := goodIn_r _ [32, 33, 117, 118, 119, 120] (by decide +kernel) (by decide +kernel)
set_option maxRecDepth 20000 in
theorem gX7_groups_X0_lines : GoodIn wsX7_groups (wsV RX7 71 RX0 yX0_lines wsX0_lines) := goodIn_app (goodIn_of _ (by decide +kernel)) ggX7_groups_X0_lines
set_option maxRecDepth 20000 in
theorem ggX7_groups_X2_isLeastOfGroup : GoodIn wsX7_groups wsX2_isLeastOfGroup := goodIn_r _ [86, 87, 88, 89, 26, 90, 28, 29, 30, 31, 20, 32, 33, 91, 92, 93, 94, 38, 39, 40, 41, 42, 95, 96, 97, 98, 99, 100, 101, 102, 103, 104, 121, 122, 123, 124, 125, 126, 117, 118, 119, 120] (by decide +kernel) (by decide +kernel)
set_option maxRecDepth 20000 in
theorem gX7_groups_X2_isLeastOfGroup : GoodIn wsX7_groups (wsV RX7 148 RX2 yX2_isLeastOfGroup wsX2_isLeastOfGroup) := goodIn_app (goodIn_of _ (by decide +kernel)) ggX7_groups_X2_isLeastOfGroup
theorem dX7_groups_0 : decode cX7_groups 0 = .ok (.aload_n 0, 1) := by decide +kernel
theorem dX7_groups_1 : decode cX7_groups 1 = .ok (.iload_n 1, 1) := by decide +kernel
theorem dX7_groups_2 : decode cX7_groups 2 = .ok (.iload_n 2, 1) := by decide +kernel
theorem dX7_groups_3 : decode cX7_groups 3 = .ok (.invokestatic 104, 3) := by decide +kernel
theorem dX7_groups_6 : decode cX7_groups 6 = .ok (.ifCond .eq 14, 3) := by decide +kernel
theorem dX7_groups_9 : decode cX7_groups 9 = .ok (.iload_n 3, 1) := by decide +kernel
theorem dX7_groups_10 : decode cX7_groups 10 = .ok (.invokestatic 142, 3) := by decide +kernel
theorem dX7_groups_13 : decode cX7_groups 13 = .ok (.ifCond .eq 7, 3) := by decide +kernel
theorem dX7_groups_16 : decode cX7_groups 16 = .ok (.iconst 1, 1) := by decide +kernel
theorem dX7_groups_17 : decode cX7_groups 17 = .ok (.goto 4, 3) := by decide +kernel
theorem dX7_groups_20 : decode cX7_groups 20 = .ok (.iconst 0, 1) := by decide +kernel
theorem dX7_groups_21 : decode cX7_groups 21 = .ok (.invokevirtual 111, 3) := by decide +kernel
theorem dX7_groups_24 : decode cX7_groups 24 = .ok (.istore 5, 2) := by decide +kernel
theorem dX7_groups_26 : decode cX7_groups 26 = .ok (.iload 5, 2) := by decide +kernel
theorem dX7_groups_28 : decode cX7_groups 28 = .ok (.ifCond .eq 6, 3) := by decide +kernel
theorem dX7_groups_31 : decode cX7_groups 31 = .ok (.iload 5, 2) := by decide +kernel
theorem dX7_groups_33 : decode cX7_groups 33 = .ok (.ireturn, 1) := by decide +kernel
theorem dX7_groups_34 : decode cX7_groups 34 = .ok (.aload_n 0, 1) := by decide +kernel
theorem dX7_groups_35 : decode cX7_groups 35 = .ok (.getfield 31, 3) := by decide +kernel
theorem dX7_groups_38 : decode cX7_groups 38 = .ok (.iload_n 1, 1) := by decide +kernel
theorem dX7_groups_39 : decode cX7_groups 39 = .ok (.iload_n 2, 1) := by decide +kernel
theorem dX7_groups_40 : decode cX7_groups 40 = .ok (.invokevirtual 123, 3) := by decide +kernel
theorem dX7_groups_43 : decode cX7_groups 43 = .ok (.iconst 0, 1) := by decide +kernel
theorem dX7_groups_44 : decode cX7_groups 44 = .ok (.istore 6, 2) := by decide +kernel
theorem dX7_groups_46 : decode cX7_groups 46 = .ok (.iconst 0, 1) := by decide +kernel
theorem dX7_groups_47 : decode cX7_groups 47 = .ok (.istore 7, 2) := by decide +kernel
theorem dX7_groups_49 : decode cX7_groups 49 = .ok (.iload 7, 2) := by decide +kernel
theorem dX7_groups_51 : decode cX7_groups 51 = .ok (.aload_n 0, 1) := by decide +kernel
theorem dX7_groups_52 : decode cX7_groups 52 = .ok (.getfield 10, 3) := by decide +kernel
theorem dX7_groups_55 : decode cX7_groups 55 = .ok (.invokevirtual 71, 3) := by decide +kernel
theorem dX7_groups_58 : decode cX7_groups 58 = .ok (.if_icmp .ge 35, 3) := by decide +kernel
theorem dX7_groups_61 : decode cX7_groups 61 = .ok (.aload_n 0, 1) := by decide +kernel
theorem dX7_groups_62 : decode cX7_groups 62 = .ok (.getfield 31, 3) := by decide +kernel
theorem dX7_groups_65 : decode cX7_groups 65 = .ok (.iload 7, 2) := by decide +kernel
theorem dX7_groups_67 : decode cX7_groups 67 = .ok (.iload_n 3, 1) := by decide +kernel
theorem dX7_groups_68 : decode cX7_groups 68 = .ok (.invokevirtual 148, 3) := by decide +kernel
theorem dX7_groups_71 : decode cX7_groups 71 = .ok (.ifCond .eq 16, 3) := by decide +kernel
theorem dX7_groups_74 : decode cX7_groups 74 = .ok (.iload 6, 2) := by decide +kernel
theorem dX7_groups_76 : decode cX7_groups 76 = .ok (.iload 4, 2) := by decide +kernel
theorem dX7_groups_78 : decode cX7_groups 78 = .ok (.if_icmp .ne 6, 3) := by decide +kernel
theorem dX7_groups_81 : decode cX7_groups 81 = .ok (.iload 7, 2) := by decide +kernel
theorem dX7_groups_83 : decode cX7_groups 83 = .ok (.ireturn, 1) := by decide +kernel
theorem dX7_groups_84 : decode cX7_groups 84 = .ok (.iinc 6 1, 3) := by decide +kernel
theorem dX7_groups_87 : decode cX7_groups 87 = .ok (.iinc 7 1, 3) := by decide +kernel
theorem dX7_groups_90 : decode cX7_groups 90 = .ok (.goto (-41), 3) := by decide +kernel
theorem dX7_groups_93 : decode cX7_groups 93 = .ok (.iload 4, 2) := by decide +kernel
theorem dX7_groups_95 : decode cX7_groups 95 = .ok (.iconst (-1), 1) := by decide +kernel
theorem dX7_groups_96 : decode cX7_groups 96 = .ok (.if_icmp .ne 8, 3) := by decide +kernel
theorem dX7_groups_99 : decode cX7_groups 99 = .ok (.iload 6, 2) := by decide +kernel
theorem dX7_groups_101 : decode cX7_groups 101 = .ok (.goto 5, 3) := by decide +kernel
theorem dX7_groups_104 : decode cX7_groups 104 = .ok (.bipush (-6), 2) := by decide +kernel
theorem dX7_groups_106 : decode cX7_groups 106 = .ok (.ireturn, 1) := by decide +kernel
set_option maxRecDepth 20000 in
theorem ggX7_whole_X7_isWay : GoodIn wsX7_whole wsX7_isWay := goodIn_r _ [5, 6, 7, 4, 8] (by decide +kernel) (by decide +kernel)
set_option maxRecDepth 20000 in
theorem gX7_whole_X7_isWay : GoodIn wsX7_whole (va_wsS RX7 104 yX7_isWay wsX7_isWay) := goodIn_app (goodIn_of _ (by decide +kernel)) ggX7_whole_X7_isWay
set_option maxRecDepth 20000 in
theorem ggX7_whole_X7_isStart : GoodIn wsX7_whole wsX7_isStart := goodIn_r _ [11, 6, 7, 4, 8] (by decide +kernel) (by decide +kernel)
set_option maxRecDepth 20000 in
theorem gX7_whole_X7_isStart : GoodIn wsX7_whole (va_wsS RX7 139 yX7_isStart wsX7_isStart) := goodIn_app (goodIn_of _ (by decide +kernel)) ggX7_whole_X7_isStart
set_option maxRecDepth 20000 in
theorem ggX7_whole_X7_isLength : GoodIn wsX7_whole wsX7_isLength := goodIn_r _ [14] (by decide +kernel) (by decide +kernel)
set_option maxRecDepth 20000 in
theorem gX7_whole_X7_isLength : GoodIn wsX7_whole (va_wsS RX7 142 yX7_isLength wsX7_isLength) := goodIn_app (goodIn_of _ (by decide +kernel)) ggX7_whole_X7_isLength
set_option maxRecDepth 20000 in
theorem ggX7_whole_X7_refusalIn : GoodIn wsX7_whole wsX7_refusalIn := goodIn_r _ [18, 19, 20, 21, 22, 23, 24, 25, 108, 109, 110, 111, 112, 113, 114, 115, 116, 117, 118, 119, 120, 121, 122, 123] (by decide +kernel) (by decide +kernel)
set_option maxRecDepth 20000 in
theorem gX7_whole_X7_refusalIn : GoodIn wsX7_whole (wsV RX7 111 RX7 yX7_refusalIn wsX7_refusalIn) := goodIn_app (goodIn_of _ (by decide +kernel)) ggX7_whole_X7_refusalIn
set_option maxRecDepth 20000 in
theorem ggX7_whole_X2_compareAll : GoodIn wsX7_whole wsX2_compareAll := goodIn_r _ [30, 31, 32, 33, 34, 23, 35, 36, 37, 38, 39, 29, 40, 41, 42, 43, 44, 45, 46, 47, 48, 49, 50, 51, 52, 53, 54, 55, 56, 57, 58, 59, 60, 61, 62, 63, 64, 65, 25, 66, 67, 68, 69, 70, 71, 72, 73, 74, 75, 76, 4, 77, 78, 79, 80, 81, 82, 83, 84, 124, 125, 126, 127, 128, 129, 120, 121, 122, 123, 130, 131, 132] (by decide +kernel) (by decide +kernel)
set_option maxRecDepth 20000 in
theorem gX7_whole_X2_compareAll : GoodIn wsX7_whole (wsV RX7 123 RX2 yX2_compareAll wsX2_compareAll) := goodIn_app (goodIn_of _ (by decide +kernel)) ggX7_whole_X2_compareAll
set_option maxRecDepth 20000 in
theorem ggX7_whole_X2_startsLike : GoodIn wsX7_whole wsX2_startsLike := goodIn_r _ [88, 31, 32, 33, 34, 23, 35, 36, 89, 90, 91, 29, 92, 41, 42, 43, 44, 45, 124, 125, 126, 127, 128, 129, 120, 121, 122, 123] (by decide +kernel) (by decide +kernel)
set_option maxRecDepth 20000 in
theorem gX7_whole_X2_startsLike : GoodIn wsX7_whole (wsV RX7 145 RX2 yX2_startsLike wsX2_startsLike) := goodIn_app (goodIn_of _ (by decide +kernel)) ggX7_whole_X2_startsLike
set_option maxRecDepth 20000 in
theorem ggX7_whole_J6_bitCount_0f7a4 : GoodIn wsX7_whole wsJ6_bitCount_0f7a4 := goodIn_r _ [96, 97, 98, 99] (by decide +kernel) (by decide +kernel)
set_option maxRecDepth 20000 in
theorem gX7_whole_J6_bitCount_0f7a4 : GoodIn wsX7_whole (va_wsS RX7 151 yJ6_bitCount_0f7a4 wsJ6_bitCount_0f7a4) := goodIn_app (goodIn_of _ (by decide +kernel)) ggX7_whole_J6_bitCount_0f7a4
set_option maxRecDepth 20000 in
theorem ggX7_whole_X2_isWithinLonger : GoodIn wsX7_whole wsX2_isWithinLonger := goodIn_r _ [103, 104, 105, 29, 106, 107, 86, 87, 88, 31, 32, 33, 34, 23, 35, 36, 89, 90, 91, 92, 41, 42, 43, 44, 45, 124, 125, 126, 127, 128, 129, 120, 121, 122, 123] (by decide +kernel) (by decide +kernel)
set_option maxRecDepth 20000 in
theorem gX7_whole_X2_isWithinLonger : GoodIn wsX7_whole (wsV RX7 157 RX2 yX2_isWithinLonger wsX2_isWithinLonger) := goodIn_app (goodIn_of _ (by decide +kernel)) ggX7_whole_X2_isWithinLonger
theorem dX7_whole_0 : decode cX7_whole 0 = .ok (.aload_n 0, 1) := by decide +kernel
theorem dX7_whole_1 : decode cX7_whole 1 = .ok (.iload_n 1, 1) := by decide +kernel
theorem dX7_whole_2 : decode cX7_whole 2 = .ok (.iload_n 2, 1) := by decide +kernel
theorem dX7_whole_3 : decode cX7_whole 3 = .ok (.invokestatic 104, 3) := by decide +kernel
theorem dX7_whole_6 : decode cX7_whole 6 = .ok (.ifCond .eq 22, 3) := by decide +kernel
theorem dX7_whole_9 : decode cX7_whole 9 = .ok (.iload_n 3, 1) := by decide +kernel
theorem dX7_whole_10 : decode cX7_whole 10 = .ok (.invokestatic 139, 3) := by decide +kernel
theorem dX7_whole_13 : decode cX7_whole 13 = .ok (.ifCond .eq 15, 3) := by decide +kernel
theorem dX7_whole_16 : decode cX7_whole 16 = .ok (.iload 4, 2) := by decide +kernel
theorem dX7_whole_18 : decode cX7_whole 18 = .ok (.invokestatic 142, 3) := by decide +kernel
theorem dX7_whole_21 : decode cX7_whole 21 = .ok (.ifCond .eq 7, 3) := by decide +kernel
theorem dX7_whole_24 : decode cX7_whole 24 = .ok (.iconst 1, 1) := by decide +kernel
theorem dX7_whole_25 : decode cX7_whole 25 = .ok (.goto 4, 3) := by decide +kernel
theorem dX7_whole_28 : decode cX7_whole 28 = .ok (.iconst 0, 1) := by decide +kernel
theorem dX7_whole_29 : decode cX7_whole 29 = .ok (.invokevirtual 111, 3) := by decide +kernel
theorem dX7_whole_32 : decode cX7_whole 32 = .ok (.istore 5, 2) := by decide +kernel
theorem dX7_whole_34 : decode cX7_whole 34 = .ok (.iload 5, 2) := by decide +kernel
theorem dX7_whole_36 : decode cX7_whole 36 = .ok (.ifCond .eq 6, 3) := by decide +kernel
theorem dX7_whole_39 : decode cX7_whole 39 = .ok (.iload 5, 2) := by decide +kernel
theorem dX7_whole_41 : decode cX7_whole 41 = .ok (.ireturn, 1) := by decide +kernel
theorem dX7_whole_42 : decode cX7_whole 42 = .ok (.aload_n 0, 1) := by decide +kernel
theorem dX7_whole_43 : decode cX7_whole 43 = .ok (.getfield 31, 3) := by decide +kernel
theorem dX7_whole_46 : decode cX7_whole 46 = .ok (.iload_n 1, 1) := by decide +kernel
theorem dX7_whole_47 : decode cX7_whole 47 = .ok (.iload_n 2, 1) := by decide +kernel
theorem dX7_whole_48 : decode cX7_whole 48 = .ok (.invokevirtual 123, 3) := by decide +kernel
theorem dX7_whole_51 : decode cX7_whole 51 = .ok (.aload_n 0, 1) := by decide +kernel
theorem dX7_whole_52 : decode cX7_whole 52 = .ok (.getfield 31, 3) := by decide +kernel
theorem dX7_whole_55 : decode cX7_whole 55 = .ok (.iload_n 3, 1) := by decide +kernel
theorem dX7_whole_56 : decode cX7_whole 56 = .ok (.iload 4, 2) := by decide +kernel
theorem dX7_whole_58 : decode cX7_whole 58 = .ok (.invokevirtual 145, 3) := by decide +kernel
theorem dX7_whole_61 : decode cX7_whole 61 = .ok (.istore 6, 2) := by decide +kernel
theorem dX7_whole_63 : decode cX7_whole 63 = .ok (.iload 6, 2) := by decide +kernel
theorem dX7_whole_65 : decode cX7_whole 65 = .ok (.invokestatic 151, 3) := by decide +kernel
theorem dX7_whole_68 : decode cX7_whole 68 = .ok (.iconst 2, 1) := by decide +kernel
theorem dX7_whole_69 : decode cX7_whole 69 = .ok (.if_icmp .ge 6, 3) := by decide +kernel
theorem dX7_whole_72 : decode cX7_whole 72 = .ok (.bipush (-5), 2) := by decide +kernel
theorem dX7_whole_74 : decode cX7_whole 74 = .ok (.ireturn, 1) := by decide +kernel
theorem dX7_whole_75 : decode cX7_whole 75 = .ok (.aload_n 0, 1) := by decide +kernel
theorem dX7_whole_76 : decode cX7_whole 76 = .ok (.getfield 31, 3) := by decide +kernel
theorem dX7_whole_79 : decode cX7_whole 79 = .ok (.iload 6, 2) := by decide +kernel
theorem dX7_whole_81 : decode cX7_whole 81 = .ok (.iload 4, 2) := by decide +kernel
theorem dX7_whole_83 : decode cX7_whole 83 = .ok (.invokevirtual 157, 3) := by decide +kernel
theorem dX7_whole_86 : decode cX7_whole 86 = .ok (.ifCond .eq 7, 3) := by decide +kernel
theorem dX7_whole_89 : decode cX7_whole 89 = .ok (.iconst 0, 1) := by decide +kernel
theorem dX7_whole_90 : decode cX7_whole 90 = .ok (.goto 4, 3) := by decide +kernel
theorem dX7_whole_93 : decode cX7_whole 93 = .ok (.iconst 1, 1) := by decide +kernel
theorem dX7_whole_94 : decode cX7_whole 94 = .ok (.ireturn, 1) := by decide +kernel
set_option maxRecDepth 20000 in
theorem ggX7_pulled_X7_isWay : GoodIn wsX7_pulled wsX7_isWay := goodIn_r _ [6, 7, 8, 5, 9] (by decide +kernel) (by decide +kernel)
set_option maxRecDepth 20000 in
theorem gX7_pulled_X7_isWay : GoodIn wsX7_pulled (va_wsS RX7 104 yX7_isWay wsX7_isWay) := goodIn_app (goodIn_of _ (by decide +kernel)) ggX7_pulled_X7_isWay
set_option maxRecDepth 20000 in
theorem ggX7_pulled_X7_isStart : GoodIn wsX7_pulled wsX7_isStart := goodIn_r _ [12, 7, 8, 5, 9] (by decide +kernel) (by decide +kernel)
set_option maxRecDepth 20000 in
theorem gX7_pulled_X7_isStart : GoodIn wsX7_pulled (va_wsS RX7 139 yX7_isStart wsX7_isStart) := goodIn_app (goodIn_of _ (by decide +kernel)) ggX7_pulled_X7_isStart
set_option maxRecDepth 20000 in
theorem ggX7_pulled_X7_isLength : GoodIn wsX7_pulled wsX7_isLength := goodIn_r _ [15] (by decide +kernel) (by decide +kernel)
set_option maxRecDepth 20000 in
theorem gX7_pulled_X7_isLength : GoodIn wsX7_pulled (va_wsS RX7 142 yX7_isLength wsX7_isLength) := goodIn_app (goodIn_of _ (by decide +kernel)) ggX7_pulled_X7_isLength
set_option maxRecDepth 20000 in
theorem ggX7_pulled_X7_isUpTo : GoodIn wsX7_pulled wsX7_isUpTo := goodIn_r _ [9] (by decide +kernel) (by decide +kernel)
set_option maxRecDepth 20000 in
theorem gX7_pulled_X7_isUpTo : GoodIn wsX7_pulled (va_wsS RX7 119 yX7_isUpTo wsX7_isUpTo) := goodIn_app (goodIn_of _ (by decide +kernel)) ggX7_pulled_X7_isUpTo
set_option maxRecDepth 20000 in
theorem ggX7_pulled_X7_refusalIn : GoodIn wsX7_pulled wsX7_refusalIn := goodIn_r _ [19, 20, 21, 22, 23, 24, 25, 26, 134, 135, 136, 137, 138, 139, 140, 141, 142, 143, 144, 145, 155, 156, 157, 158] (by decide +kernel) (by decide +kernel)
set_option maxRecDepth 20000 in
theorem gX7_pulled_X7_refusalIn : GoodIn wsX7_pulled (wsV RX7 111 RX7 yX7_refusalIn wsX7_refusalIn) := goodIn_app (goodIn_of _ (by decide +kernel)) ggX7_pulled_X7_refusalIn
set_option maxRecDepth 20000 in
theorem ggX7_pulled_X2_compareAll : GoodIn wsX7_pulled wsX2_compareAll := goodIn_r _ [31, 32, 33, 34, 35, 24, 36, 37, 38, 39, 40, 30, 41, 42, 43, 44, 45, 46, 47, 48, 49, 50, 51, 52, 53, 54, 55, 56, 57, 58, 59, 60, 61, 62, 63, 64, 65, 66, 26, 67, 68, 69, 70, 71, 72, 73, 74, 75, 76, 77, 5, 78, 79, 80, 81, 82, 83, 84, 85, 159, 160, 161, 162, 163, 164, 155, 156, 157, 158, 165, 166, 167] (by decide +kernel) (by decide +kernel)
set_option maxRecDepth 20000 in
theorem gX7_pulled_X2_compareAll : GoodIn wsX7_pulled (wsV RX7 123 RX2 yX2_compareAll wsX2_compareAll) := goodIn_app (goodIn_of _ (by decide +kernel)) ggX7_pulled_X2_compareAll
set_option maxRecDepth 20000 in
theorem ggX7_pulled_X5_pullOut : GoodIn wsX7_pulled wsX5_pullOut := goodIn_r _ [90, 91, 92, 93, 94, 95, 96, 97, 98, 30, 99, 32, 33, 34, 35, 24, 36, 37, 100, 101, 102, 103, 42, 43, 44, 45, 46, 104, 105, 106, 89, 107, 108, 109, 110, 111, 112, 113, 114, 115, 116, 117, 118, 119, 120, 64, 65, 66, 26, 67, 121, 122, 123, 124, 125, 69, 70, 71, 72, 126, 127, 128, 129, 130, 131, 132, 133, 146, 147, 148, 149, 150, 151, 152, 153, 154, 159, 160, 161, 162, 163, 164, 155, 156, 157, 158] (by decide +kernel) (by decide +kernel)
set_option maxRecDepth 20000 in
theorem gX7_pulled_X5_pullOut : GoodIn wsX7_pulled (wsV RX7 160 RX5 yX5_pullOut wsX5_pullOut) := goodIn_app (goodIn_of _ (by decide +kernel)) ggX7_pulled_X5_pullOut
theorem dX7_pulled_0 : decode cX7_pulled 0 = .ok (.iload_n 2, 1) := by decide +kernel
theorem dX7_pulled_1 : decode cX7_pulled 1 = .ok (.invokestatic 104, 3) := by decide +kernel
theorem dX7_pulled_4 : decode cX7_pulled 4 = .ok (.ifCond .eq 31, 3) := by decide +kernel
theorem dX7_pulled_7 : decode cX7_pulled 7 = .ok (.iload_n 3, 1) := by decide +kernel
theorem dX7_pulled_8 : decode cX7_pulled 8 = .ok (.invokestatic 139, 3) := by decide +kernel
theorem dX7_pulled_11 : decode cX7_pulled 11 = .ok (.ifCond .eq 24, 3) := by decide +kernel
theorem dX7_pulled_14 : decode cX7_pulled 14 = .ok (.iload 4, 2) := by decide +kernel
theorem dX7_pulled_16 : decode cX7_pulled 16 = .ok (.invokestatic 142, 3) := by decide +kernel
theorem dX7_pulled_19 : decode cX7_pulled 19 = .ok (.ifCond .eq 16, 3) := by decide +kernel
theorem dX7_pulled_22 : decode cX7_pulled 22 = .ok (.iload 5, 2) := by decide +kernel
theorem dX7_pulled_24 : decode cX7_pulled 24 = .ok (.iconst 2, 1) := by decide +kernel
theorem dX7_pulled_25 : decode cX7_pulled 25 = .ok (.invokestatic 119, 3) := by decide +kernel
theorem dX7_pulled_28 : decode cX7_pulled 28 = .ok (.ifCond .eq 7, 3) := by decide +kernel
theorem dX7_pulled_31 : decode cX7_pulled 31 = .ok (.iconst 1, 1) := by decide +kernel
theorem dX7_pulled_32 : decode cX7_pulled 32 = .ok (.goto 4, 3) := by decide +kernel
theorem dX7_pulled_35 : decode cX7_pulled 35 = .ok (.iconst 0, 1) := by decide +kernel
theorem dX7_pulled_36 : decode cX7_pulled 36 = .ok (.istore 6, 2) := by decide +kernel
theorem dX7_pulled_38 : decode cX7_pulled 38 = .ok (.aload_n 0, 1) := by decide +kernel
theorem dX7_pulled_39 : decode cX7_pulled 39 = .ok (.iload_n 1, 1) := by decide +kernel
theorem dX7_pulled_40 : decode cX7_pulled 40 = .ok (.iload 6, 2) := by decide +kernel
theorem dX7_pulled_42 : decode cX7_pulled 42 = .ok (.invokevirtual 111, 3) := by decide +kernel
theorem dX7_pulled_45 : decode cX7_pulled 45 = .ok (.istore 7, 2) := by decide +kernel
theorem dX7_pulled_47 : decode cX7_pulled 47 = .ok (.iload 7, 2) := by decide +kernel
theorem dX7_pulled_49 : decode cX7_pulled 49 = .ok (.ifCond .eq 10, 3) := by decide +kernel
theorem dX7_pulled_52 : decode cX7_pulled 52 = .ok (.sipush (-1000), 3) := by decide +kernel
theorem dX7_pulled_55 : decode cX7_pulled 55 = .ok (.iload 7, 2) := by decide +kernel
theorem dX7_pulled_57 : decode cX7_pulled 57 = .ok (.iadd, 1) := by decide +kernel
theorem dX7_pulled_58 : decode cX7_pulled 58 = .ok (.ireturn, 1) := by decide +kernel
theorem dX7_pulled_59 : decode cX7_pulled 59 = .ok (.aload_n 0, 1) := by decide +kernel
theorem dX7_pulled_60 : decode cX7_pulled 60 = .ok (.getfield 31, 3) := by decide +kernel
theorem dX7_pulled_63 : decode cX7_pulled 63 = .ok (.iload_n 1, 1) := by decide +kernel
theorem dX7_pulled_64 : decode cX7_pulled 64 = .ok (.iload_n 2, 1) := by decide +kernel
theorem dX7_pulled_65 : decode cX7_pulled 65 = .ok (.invokevirtual 123, 3) := by decide +kernel
theorem dX7_pulled_68 : decode cX7_pulled 68 = .ok (.aload_n 0, 1) := by decide +kernel
theorem dX7_pulled_69 : decode cX7_pulled 69 = .ok (.getfield 40, 3) := by decide +kernel
theorem dX7_pulled_72 : decode cX7_pulled 72 = .ok (.iload_n 1, 1) := by decide +kernel
theorem dX7_pulled_73 : decode cX7_pulled 73 = .ok (.iload_n 3, 1) := by decide +kernel
theorem dX7_pulled_74 : decode cX7_pulled 74 = .ok (.iload 4, 2) := by decide +kernel
theorem dX7_pulled_76 : decode cX7_pulled 76 = .ok (.invokevirtual 160, 3) := by decide +kernel
theorem dX7_pulled_79 : decode cX7_pulled 79 = .ok (.aload_n 0, 1) := by decide +kernel
theorem dX7_pulled_80 : decode cX7_pulled 80 = .ok (.getfield 40, 3) := by decide +kernel
theorem dX7_pulled_83 : decode cX7_pulled 83 = .ok (.getfield 164, 3) := by decide +kernel
theorem dX7_pulled_86 : decode cX7_pulled 86 = .ok (.iconst 2, 1) := by decide +kernel
theorem dX7_pulled_87 : decode cX7_pulled 87 = .ok (.if_icmp .ge 7, 3) := by decide +kernel
theorem dX7_pulled_90 : decode cX7_pulled 90 = .ok (.sipush (-1005), 3) := by decide +kernel
theorem dX7_pulled_93 : decode cX7_pulled 93 = .ok (.ireturn, 1) := by decide +kernel
theorem dX7_pulled_94 : decode cX7_pulled 94 = .ok (.iload 5, 2) := by decide +kernel
theorem dX7_pulled_96 : decode cX7_pulled 96 = .ok (.ifCond .ne 11, 3) := by decide +kernel
theorem dX7_pulled_99 : decode cX7_pulled 99 = .ok (.aload_n 0, 1) := by decide +kernel
theorem dX7_pulled_100 : decode cX7_pulled 100 = .ok (.getfield 40, 3) := by decide +kernel
theorem dX7_pulled_103 : decode cX7_pulled 103 = .ok (.getfield 167, 3) := by decide +kernel
theorem dX7_pulled_106 : decode cX7_pulled 106 = .ok (.ireturn, 1) := by decide +kernel
theorem dX7_pulled_107 : decode cX7_pulled 107 = .ok (.iload 5, 2) := by decide +kernel
theorem dX7_pulled_109 : decode cX7_pulled 109 = .ok (.iconst 1, 1) := by decide +kernel
theorem dX7_pulled_110 : decode cX7_pulled 110 = .ok (.if_icmp .ne 13, 3) := by decide +kernel
theorem dX7_pulled_113 : decode cX7_pulled 113 = .ok (.aload_n 0, 1) := by decide +kernel
theorem dX7_pulled_114 : decode cX7_pulled 114 = .ok (.getfield 40, 3) := by decide +kernel
theorem dX7_pulled_117 : decode cX7_pulled 117 = .ok (.getfield 170, 3) := by decide +kernel
theorem dX7_pulled_120 : decode cX7_pulled 120 = .ok (.goto 10, 3) := by decide +kernel
theorem dX7_pulled_123 : decode cX7_pulled 123 = .ok (.aload_n 0, 1) := by decide +kernel
theorem dX7_pulled_124 : decode cX7_pulled 124 = .ok (.getfield 40, 3) := by decide +kernel
theorem dX7_pulled_127 : decode cX7_pulled 127 = .ok (.getfield 173, 3) := by decide +kernel
theorem dX7_pulled_130 : decode cX7_pulled 130 = .ok (.ireturn, 1) := by decide +kernel
set_option maxRecDepth 20000 in
theorem ggX7_best_X7_isWay : GoodIn wsX7_best wsX7_isWay := goodIn_r _ [6, 7, 8, 5, 9] (by decide +kernel) (by decide +kernel)
end
section
set_option maxRecDepth 20000 in
theorem gX7_best_X7_isWay : GoodIn wsX7_best (va_wsS RX7 104 yX7_isWay wsX7_isWay) := goodIn_app (goodIn_of _ (by decide +kernel)) ggX7_best_X7_isWay
set_option maxRecDepth 20000 in
theorem ggX7_best_X7_isUpTo : GoodIn wsX7_best wsX7_isUpTo := goodIn_r _ [9] (by decide +kernel) (by decide +kernel)
set_option maxRecDepth 20000 in
theorem gX7_best_X7_isUpTo : GoodIn wsX7_best (va_wsS RX7 119 yX7_isUpTo wsX7_isUpTo) := goodIn_app (goodIn_of _ (by decide +kernel)) ggX7_best_X7_isUpTo
set_option maxRecDepth 20000 in
theorem ggX7_best_X7_refusalIn : GoodIn wsX7_best wsX7_refusalIn := goodIn_r _ [13, 14, 15, 16, 17, 18, 19, 20, 162, 163, 164, 165, 166, 167, 168, 169, 170, 171, 172, 173, 183, 184, 185, 186] (by decide +kernel) (by decide +kernel)
set_option maxRecDepth 20000 in
theorem gX7_best_X7_refusalIn : GoodIn wsX7_best (wsV RX7 111 RX7 yX7_refusalIn wsX7_refusalIn) := goodIn_app (goodIn_of _ (by decide +kernel)) ggX7_best_X7_refusalIn
set_option maxRecDepth 20000 in
theorem ggX7_best_X2_compareAll : GoodIn wsX7_best wsX2_compareAll := goodIn_r _ [25, 26, 27, 28, 29, 18, 30, 31, 32, 33, 34, 24, 35, 36, 37, 38, 39, 40, 41, 42, 43, 44, 45, 46, 47, 48, 49, 50, 51, 52, 53, 54, 55, 56, 57, 58, 59, 60, 20, 61, 62, 63, 64, 65, 66, 67, 68, 69, 70, 71, 5, 72, 73, 74, 75, 76, 77, 78, 79, 187, 188, 189, 190, 191, 192, 183, 184, 185, 186, 193, 194, 195] (by decide +kernel) (by decide +kernel)
set_option maxRecDepth 20000 in
theorem gX7_best_X2_compareAll : GoodIn wsX7_best (wsV RX7 123 RX2 yX2_compareAll wsX2_compareAll) := goodIn_app (goodIn_of _ (by decide +kernel)) ggX7_best_X2_compareAll
set_option maxRecDepth 20000 in
theorem ggX7_best_X4_lookAtAll : GoodIn wsX7_best wsX4_lookAtAll := goodIn_r _ [84, 85, 86, 87, 88, 89, 90, 28, 29, 18, 30, 31, 91, 92, 93, 24, 94, 95, 96, 97, 98, 26, 27, 99, 100, 101, 102, 36, 37, 38, 39, 40, 103, 104, 105, 106, 107, 108, 109, 110, 111, 112, 113, 114, 115, 116, 117, 118, 119, 120, 121, 122, 123, 124, 125, 126, 127, 128, 129, 130, 131, 132, 133, 134, 135, 136, 137, 138, 139, 140, 58, 59, 60, 20, 61, 141, 142, 143, 144, 145, 63, 64, 65, 66, 146, 147, 148, 149, 150, 151, 152, 153, 154, 155, 156, 83, 157, 158, 159, 160, 161, 174, 175, 176, 177, 178, 179, 180, 181, 182, 183, 184, 185, 186, 187, 188, 189, 190, 191, 192, 196, 197, 198, 199, 200, 201, 202, 203, 204] (by decide +kernel) (by decide +kernel)
set_option maxRecDepth 20000 in
theorem gX7_best_X4_lookAtAll : GoodIn wsX7_best (wsV RX7 176 RX4 yX4_lookAtAll wsX4_lookAtAll) := goodIn_app (goodIn_of _ (by decide +kernel)) ggX7_best_X4_lookAtAll
theorem dX7_best_0 : decode cX7_best 0 = .ok (.aload_n 0, 1) := by decide +kernel
theorem dX7_best_1 : decode cX7_best 1 = .ok (.iload_n 1, 1) := by decide +kernel
theorem dX7_best_2 : decode cX7_best 2 = .ok (.iload_n 2, 1) := by decide +kernel
theorem dX7_best_3 : decode cX7_best 3 = .ok (.invokestatic 104, 3) := by decide +kernel
theorem dX7_best_6 : decode cX7_best 6 = .ok (.ifCond .eq 15, 3) := by decide +kernel
theorem dX7_best_9 : decode cX7_best 9 = .ok (.iload_n 3, 1) := by decide +kernel
theorem dX7_best_10 : decode cX7_best 10 = .ok (.iconst 2, 1) := by decide +kernel
theorem dX7_best_11 : decode cX7_best 11 = .ok (.invokestatic 119, 3) := by decide +kernel
theorem dX7_best_14 : decode cX7_best 14 = .ok (.ifCond .eq 7, 3) := by decide +kernel
theorem dX7_best_17 : decode cX7_best 17 = .ok (.iconst 1, 1) := by decide +kernel
theorem dX7_best_18 : decode cX7_best 18 = .ok (.goto 4, 3) := by decide +kernel
theorem dX7_best_21 : decode cX7_best 21 = .ok (.iconst 0, 1) := by decide +kernel
theorem dX7_best_22 : decode cX7_best 22 = .ok (.invokevirtual 111, 3) := by decide +kernel
theorem dX7_best_25 : decode cX7_best 25 = .ok (.istore 4, 2) := by decide +kernel
theorem dX7_best_27 : decode cX7_best 27 = .ok (.iload 4, 2) := by decide +kernel
theorem dX7_best_29 : decode cX7_best 29 = .ok (.ifCond .eq 6, 3) := by decide +kernel
theorem dX7_best_32 : decode cX7_best 32 = .ok (.iload 4, 2) := by decide +kernel
theorem dX7_best_34 : decode cX7_best 34 = .ok (.ireturn, 1) := by decide +kernel
theorem dX7_best_35 : decode cX7_best 35 = .ok (.aload_n 0, 1) := by decide +kernel
theorem dX7_best_36 : decode cX7_best 36 = .ok (.getfield 31, 3) := by decide +kernel
theorem dX7_best_39 : decode cX7_best 39 = .ok (.iload_n 1, 1) := by decide +kernel
theorem dX7_best_40 : decode cX7_best 40 = .ok (.iload_n 2, 1) := by decide +kernel
theorem dX7_best_41 : decode cX7_best 41 = .ok (.invokevirtual 123, 3) := by decide +kernel
theorem dX7_best_44 : decode cX7_best 44 = .ok (.aload_n 0, 1) := by decide +kernel
theorem dX7_best_45 : decode cX7_best 45 = .ok (.getfield 49, 3) := by decide +kernel
theorem dX7_best_48 : decode cX7_best 48 = .ok (.iload_n 1, 1) := by decide +kernel
theorem dX7_best_49 : decode cX7_best 49 = .ok (.invokevirtual 176, 3) := by decide +kernel
theorem dX7_best_52 : decode cX7_best 52 = .ok (.aload_n 0, 1) := by decide +kernel
theorem dX7_best_53 : decode cX7_best 53 = .ok (.getfield 49, 3) := by decide +kernel
theorem dX7_best_56 : decode cX7_best 56 = .ok (.getfield 180, 3) := by decide +kernel
theorem dX7_best_59 : decode cX7_best 59 = .ok (.ifCond .ne 6, 3) := by decide +kernel
theorem dX7_best_62 : decode cX7_best 62 = .ok (.bipush (-6), 2) := by decide +kernel
theorem dX7_best_64 : decode cX7_best 64 = .ok (.ireturn, 1) := by decide +kernel
theorem dX7_best_65 : decode cX7_best 65 = .ok (.iload_n 3, 1) := by decide +kernel
theorem dX7_best_66 : decode cX7_best 66 = .ok (.ifCond .ne 11, 3) := by decide +kernel
theorem dX7_best_69 : decode cX7_best 69 = .ok (.aload_n 0, 1) := by decide +kernel
theorem dX7_best_70 : decode cX7_best 70 = .ok (.getfield 49, 3) := by decide +kernel
theorem dX7_best_73 : decode cX7_best 73 = .ok (.getfield 180, 3) := by decide +kernel
theorem dX7_best_76 : decode cX7_best 76 = .ok (.ireturn, 1) := by decide +kernel
theorem dX7_best_77 : decode cX7_best 77 = .ok (.iload_n 3, 1) := by decide +kernel
theorem dX7_best_78 : decode cX7_best 78 = .ok (.iconst 1, 1) := by decide +kernel
theorem dX7_best_79 : decode cX7_best 79 = .ok (.if_icmp .ne 13, 3) := by decide +kernel
theorem dX7_best_82 : decode cX7_best 82 = .ok (.aload_n 0, 1) := by decide +kernel
theorem dX7_best_83 : decode cX7_best 83 = .ok (.getfield 49, 3) := by decide +kernel
theorem dX7_best_86 : decode cX7_best 86 = .ok (.getfield 183, 3) := by decide +kernel
theorem dX7_best_89 : decode cX7_best 89 = .ok (.goto 10, 3) := by decide +kernel
theorem dX7_best_92 : decode cX7_best 92 = .ok (.aload_n 0, 1) := by decide +kernel
theorem dX7_best_93 : decode cX7_best 93 = .ok (.getfield 49, 3) := by decide +kernel
theorem dX7_best_96 : decode cX7_best 96 = .ok (.getfield 186, 3) := by decide +kernel
theorem dX7_best_99 : decode cX7_best 99 = .ok (.ireturn, 1) := by decide +kernel
set_option maxRecDepth 20000 in
theorem ggX7_two_X7_isWay : GoodIn wsX7_two wsX7_isWay := goodIn_r _ [6, 7, 8, 5, 9] (by decide +kernel) (by decide +kernel)
set_option maxRecDepth 20000 in
theorem gX7_two_X7_isWay : GoodIn wsX7_two (va_wsS RX7 104 yX7_isWay wsX7_isWay) := goodIn_app (goodIn_of _ (by decide +kernel)) ggX7_two_X7_isWay
set_option maxRecDepth 20000 in
theorem ggX7_two_X7_refusalIn : GoodIn wsX7_two wsX7_refusalIn := goodIn_r _ [13, 14, 15, 16, 17, 18, 19, 20, 170, 171, 172, 173, 174, 175, 176, 177, 178, 179, 180, 181, 182, 183, 184, 185] (by decide +kernel) (by decide +kernel)
set_option maxRecDepth 20000 in
theorem gX7_two_X7_refusalIn : GoodIn wsX7_two (wsV RX7 111 RX7 yX7_refusalIn wsX7_refusalIn) := goodIn_app (goodIn_of _ (by decide +kernel)) ggX7_two_X7_refusalIn
set_option maxRecDepth 20000 in
theorem ggX7_two_X2_compareAll : GoodIn wsX7_two wsX2_compareAll := goodIn_r _ [25, 26, 27, 28, 29, 18, 30, 31, 32, 33, 34, 24, 35, 36, 37, 38, 39, 40, 41, 42, 43, 44, 45, 46, 47, 48, 49, 50, 51, 52, 53, 54, 55, 56, 57, 58, 59, 60, 20, 61, 62, 63, 64, 65, 66, 67, 68, 69, 70, 71, 5, 72, 73, 74, 75, 76, 77, 78, 79, 186, 187, 188, 189, 190, 191, 182, 183, 184, 185, 192, 193, 194] (by decide +kernel) (by decide +kernel)
set_option maxRecDepth 20000 in
theorem gX7_two_X2_compareAll : GoodIn wsX7_two (wsV RX7 123 RX2 yX2_compareAll wsX2_compareAll) := goodIn_app (goodIn_of _ (by decide +kernel)) ggX7_two_X2_compareAll
set_option maxRecDepth 20000 in
theorem ggX7_two_X4_lookAtAll : GoodIn wsX7_two wsX4_lookAtAll := goodIn_r _ [84, 85, 86, 87, 88, 89, 90, 28, 29, 18, 30, 31, 91, 92, 93, 24, 94, 95, 96, 97, 98, 26, 27, 99, 100, 101, 102, 36, 37, 38, 39, 40, 103, 104, 105, 106, 107, 108, 109, 110, 111, 112, 113, 114, 115, 116, 117, 118, 119, 120, 121, 122, 123, 124, 125, 126, 127, 128, 129, 130, 131, 132, 133, 134, 135, 136, 137, 138, 139, 140, 58, 59, 60, 20, 61, 141, 142, 143, 144, 145, 63, 64, 65, 66, 146, 147, 148, 149, 150, 151, 152, 153, 154, 155, 156, 83, 157, 158, 159, 160, 161, 195, 196, 197, 198, 199, 200, 201, 202, 203, 182, 183, 184, 185, 186, 187, 188, 189, 190, 191, 204, 205, 206, 207, 208, 209, 210, 211, 212] (by decide +kernel) (by decide +kernel)
set_option maxRecDepth 20000 in
theorem gX7_two_X4_lookAtAll : GoodIn wsX7_two (wsV RX7 176 RX4 yX4_lookAtAll wsX4_lookAtAll) := goodIn_app (goodIn_of _ (by decide +kernel)) ggX7_two_X4_lookAtAll
set_option maxRecDepth 20000 in
theorem ggX7_two_X4_bestSumOfTwo : GoodIn wsX7_two wsX4_bestSumOfTwo := goodIn_r _ [165, 86, 85, 159, 158, 166, 167, 168, 169, 195, 196, 197, 198, 199, 200, 201, 202, 203] (by decide +kernel) (by decide +kernel)
set_option maxRecDepth 20000 in
theorem gX7_two_X4_bestSumOfTwo : GoodIn wsX7_two (wsV RX7 189 RX4 yX4_bestSumOfTwo wsX4_bestSumOfTwo) := goodIn_app (goodIn_of _ (by decide +kernel)) ggX7_two_X4_bestSumOfTwo
theorem dX7_two_0 : decode cX7_two 0 = .ok (.aload_n 0, 1) := by decide +kernel
theorem dX7_two_1 : decode cX7_two 1 = .ok (.iload_n 1, 1) := by decide +kernel
theorem dX7_two_2 : decode cX7_two 2 = .ok (.iload_n 2, 1) := by decide +kernel
theorem dX7_two_3 : decode cX7_two 3 = .ok (.invokestatic 104, 3) := by decide +kernel
theorem dX7_two_6 : decode cX7_two 6 = .ok (.invokevirtual 111, 3) := by decide +kernel
theorem dX7_two_9 : decode cX7_two 9 = .ok (.istore_n 3, 1) := by decide +kernel
theorem dX7_two_10 : decode cX7_two 10 = .ok (.iload_n 3, 1) := by decide +kernel
theorem dX7_two_11 : decode cX7_two 11 = .ok (.ifCond .eq 5, 3) := by decide +kernel
theorem dX7_two_14 : decode cX7_two 14 = .ok (.iload_n 3, 1) := by decide +kernel
theorem dX7_two_15 : decode cX7_two 15 = .ok (.ireturn, 1) := by decide +kernel
theorem dX7_two_16 : decode cX7_two 16 = .ok (.aload_n 0, 1) := by decide +kernel
theorem dX7_two_17 : decode cX7_two 17 = .ok (.getfield 31, 3) := by decide +kernel
theorem dX7_two_20 : decode cX7_two 20 = .ok (.iload_n 1, 1) := by decide +kernel
theorem dX7_two_21 : decode cX7_two 21 = .ok (.iload_n 2, 1) := by decide +kernel
theorem dX7_two_22 : decode cX7_two 22 = .ok (.invokevirtual 123, 3) := by decide +kernel
theorem dX7_two_25 : decode cX7_two 25 = .ok (.aload_n 0, 1) := by decide +kernel
theorem dX7_two_26 : decode cX7_two 26 = .ok (.getfield 49, 3) := by decide +kernel
theorem dX7_two_29 : decode cX7_two 29 = .ok (.iload_n 1, 1) := by decide +kernel
theorem dX7_two_30 : decode cX7_two 30 = .ok (.invokevirtual 176, 3) := by decide +kernel
theorem dX7_two_33 : decode cX7_two 33 = .ok (.aload_n 0, 1) := by decide +kernel
theorem dX7_two_34 : decode cX7_two 34 = .ok (.getfield 49, 3) := by decide +kernel
theorem dX7_two_37 : decode cX7_two 37 = .ok (.invokevirtual 189, 3) := by decide +kernel
theorem dX7_two_40 : decode cX7_two 40 = .ok (.ireturn, 1) := by decide +kernel
set_option maxRecDepth 20000 in
theorem ggX7_forgotten_X7_areRows : GoodIn wsX7_forgotten wsX7_areRows := goodIn_r _ [5, 6, 7, 4, 8, 9, 10, 11, 12, 13, 14] (by decide +kernel) (by decide +kernel)
set_option maxRecDepth 20000 in
theorem gX7_forgotten_X7_areRows : GoodIn wsX7_forgotten (va_wsS RX7 107 yX7_areRows wsX7_areRows) := goodIn_app (goodIn_of _ (by decide +kernel)) ggX7_forgotten_X7_areRows
set_option maxRecDepth 20000 in
theorem ggX7_forgotten_X7_isUpTo : GoodIn wsX7_forgotten wsX7_isUpTo := goodIn_r _ [11] (by decide +kernel) (by decide +kernel)
set_option maxRecDepth 20000 in
theorem gX7_forgotten_X7_isUpTo : GoodIn wsX7_forgotten (va_wsS RX7 119 yX7_isUpTo wsX7_isUpTo) := goodIn_app (goodIn_of _ (by decide +kernel)) ggX7_forgotten_X7_isUpTo
set_option maxRecDepth 20000 in
theorem ggX7_forgotten_X7_refusalIn : GoodIn wsX7_forgotten wsX7_refusalIn := goodIn_r _ [18, 19, 20, 21, 22, 23, 24, 25, 115, 116, 117, 118, 119, 120, 121, 122, 123, 124, 125, 126, 131, 132, 133, 134] (by decide +kernel) (by decide +kernel)
set_option maxRecDepth 20000 in
theorem gX7_forgotten_X7_refusalIn : GoodIn wsX7_forgotten (wsV RX7 111 RX7 yX7_refusalIn wsX7_refusalIn) := goodIn_app (goodIn_of _ (by decide +kernel)) ggX7_forgotten_X7_refusalIn
set_option maxRecDepth 20000 in
theorem ggX7_forgotten_X6_seek : GoodIn wsX7_forgotten wsX6_seek := goodIn_r _ [30, 31, 32, 33, 34, 35, 36, 37, 38, 39, 40, 41, 42, 43, 44, 45, 46, 47, 48, 49, 50, 23, 51, 52, 53, 54, 55, 56, 57, 58, 59, 60, 61, 62, 63, 64, 65, 66, 67, 68, 69, 70, 71, 72, 73, 74, 75, 76, 77, 25, 78, 79, 80, 81, 82, 83, 84, 85, 86, 87, 88, 4, 89, 90, 91, 92, 93, 94, 95, 96, 97, 98, 99, 100, 101, 102, 103, 104, 105, 106, 107, 108, 109, 110, 111, 112, 113, 114, 127, 128, 129, 130, 135, 136, 137, 138, 139, 140, 131, 132, 133, 134, 141, 142, 143] (by decide +kernel) (by decide +kernel)
set_option maxRecDepth 20000 in
theorem gX7_forgotten_X6_seek : GoodIn wsX7_forgotten (wsV RX7 192 RX6 yX6_seek wsX6_seek) := goodIn_app (goodIn_of _ (by decide +kernel)) ggX7_forgotten_X6_seek
theorem dX7_forgotten_0 : decode cX7_forgotten 0 = .ok (.aload_n 0, 1) := by decide +kernel
theorem dX7_forgotten_1 : decode cX7_forgotten 1 = .ok (.iload_n 1, 1) := by decide +kernel
theorem dX7_forgotten_2 : decode cX7_forgotten 2 = .ok (.iload_n 2, 1) := by decide +kernel
theorem dX7_forgotten_3 : decode cX7_forgotten 3 = .ok (.iload_n 3, 1) := by decide +kernel
theorem dX7_forgotten_4 : decode cX7_forgotten 4 = .ok (.iload 4, 2) := by decide +kernel
theorem dX7_forgotten_6 : decode cX7_forgotten 6 = .ok (.invokestatic 107, 3) := by decide +kernel
theorem dX7_forgotten_9 : decode cX7_forgotten 9 = .ok (.ifCond .eq 16, 3) := by decide +kernel
theorem dX7_forgotten_12 : decode cX7_forgotten 12 = .ok (.iload 5, 2) := by decide +kernel
theorem dX7_forgotten_14 : decode cX7_forgotten 14 = .ok (.iconst 1, 1) := by decide +kernel
theorem dX7_forgotten_15 : decode cX7_forgotten 15 = .ok (.invokestatic 119, 3) := by decide +kernel
theorem dX7_forgotten_18 : decode cX7_forgotten 18 = .ok (.ifCond .eq 7, 3) := by decide +kernel
theorem dX7_forgotten_21 : decode cX7_forgotten 21 = .ok (.iconst 1, 1) := by decide +kernel
theorem dX7_forgotten_22 : decode cX7_forgotten 22 = .ok (.goto 4, 3) := by decide +kernel
theorem dX7_forgotten_25 : decode cX7_forgotten 25 = .ok (.iconst 0, 1) := by decide +kernel
theorem dX7_forgotten_26 : decode cX7_forgotten 26 = .ok (.invokevirtual 111, 3) := by decide +kernel
theorem dX7_forgotten_29 : decode cX7_forgotten 29 = .ok (.istore 6, 2) := by decide +kernel
theorem dX7_forgotten_31 : decode cX7_forgotten 31 = .ok (.iload 6, 2) := by decide +kernel
theorem dX7_forgotten_33 : decode cX7_forgotten 33 = .ok (.ifCond .eq 6, 3) := by decide +kernel
theorem dX7_forgotten_36 : decode cX7_forgotten 36 = .ok (.iload 6, 2) := by decide +kernel
theorem dX7_forgotten_38 : decode cX7_forgotten 38 = .ok (.ireturn, 1) := by decide +kernel
theorem dX7_forgotten_39 : decode cX7_forgotten 39 = .ok (.aload_n 0, 1) := by decide +kernel
theorem dX7_forgotten_40 : decode cX7_forgotten 40 = .ok (.getfield 56, 3) := by decide +kernel
theorem dX7_forgotten_43 : decode cX7_forgotten 43 = .ok (.iload_n 1, 1) := by decide +kernel
theorem dX7_forgotten_44 : decode cX7_forgotten 44 = .ok (.iload_n 2, 1) := by decide +kernel
theorem dX7_forgotten_45 : decode cX7_forgotten 45 = .ok (.iload_n 3, 1) := by decide +kernel
theorem dX7_forgotten_46 : decode cX7_forgotten 46 = .ok (.iload 4, 2) := by decide +kernel
theorem dX7_forgotten_48 : decode cX7_forgotten 48 = .ok (.invokevirtual 192, 3) := by decide +kernel
theorem dX7_forgotten_51 : decode cX7_forgotten 51 = .ok (.aload_n 0, 1) := by decide +kernel
theorem dX7_forgotten_52 : decode cX7_forgotten 52 = .ok (.getfield 56, 3) := by decide +kernel
theorem dX7_forgotten_55 : decode cX7_forgotten 55 = .ok (.getfield 196, 3) := by decide +kernel
theorem dX7_forgotten_58 : decode cX7_forgotten 58 = .ok (.ifCond .ne 6, 3) := by decide +kernel
theorem dX7_forgotten_61 : decode cX7_forgotten 61 = .ok (.bipush (-6), 2) := by decide +kernel
theorem dX7_forgotten_63 : decode cX7_forgotten 63 = .ok (.ireturn, 1) := by decide +kernel
theorem dX7_forgotten_64 : decode cX7_forgotten 64 = .ok (.iload 5, 2) := by decide +kernel
theorem dX7_forgotten_66 : decode cX7_forgotten 66 = .ok (.ifCond .ne 13, 3) := by decide +kernel
theorem dX7_forgotten_69 : decode cX7_forgotten 69 = .ok (.aload_n 0, 1) := by decide +kernel
theorem dX7_forgotten_70 : decode cX7_forgotten 70 = .ok (.getfield 56, 3) := by decide +kernel
theorem dX7_forgotten_73 : decode cX7_forgotten 73 = .ok (.getfield 199, 3) := by decide +kernel
theorem dX7_forgotten_76 : decode cX7_forgotten 76 = .ok (.goto 10, 3) := by decide +kernel
theorem dX7_forgotten_79 : decode cX7_forgotten 79 = .ok (.aload_n 0, 1) := by decide +kernel
theorem dX7_forgotten_80 : decode cX7_forgotten 80 = .ok (.getfield 56, 3) := by decide +kernel
theorem dX7_forgotten_83 : decode cX7_forgotten 83 = .ok (.getfield 196, 3) := by decide +kernel
theorem dX7_forgotten_86 : decode cX7_forgotten 86 = .ok (.ireturn, 1) := by decide +kernel
set_option maxRecDepth 20000 in
theorem ggX7_parted_X7_isWay : GoodIn wsX7_parted wsX7_isWay := goodIn_r _ [6, 7, 8, 5, 9] (by decide +kernel) (by decide +kernel)
set_option maxRecDepth 20000 in
theorem gX7_parted_X7_isWay : GoodIn wsX7_parted (va_wsS RX7 104 yX7_isWay wsX7_isWay) := goodIn_app (goodIn_of _ (by decide +kernel)) ggX7_parted_X7_isWay
set_option maxRecDepth 20000 in
theorem ggX7_parted_X7_areRows : GoodIn wsX7_parted wsX7_areRows := goodIn_r _ [12, 13, 14, 5, 15, 7, 8, 9, 16, 17, 18] (by decide +kernel) (by decide +kernel)
set_option maxRecDepth 20000 in
theorem gX7_parted_X7_areRows : GoodIn wsX7_parted (va_wsS RX7 107 yX7_areRows wsX7_areRows) := goodIn_app (goodIn_of _ (by decide +kernel)) ggX7_parted_X7_areRows
set_option maxRecDepth 20000 in
theorem ggX7_parted_X0_versions : GoodIn wsX7_parted wsX0_versions := goodIn_r _ [23, 24, 95, 96, 97, 98] (by decide +kernel) (by decide +kernel)
set_option maxRecDepth 20000 in
theorem gX7_parted_X0_versions : GoodIn wsX7_parted (wsV RX7 83 RX0 yX0_versions wsX0_versions) := goodIn_app (goodIn_of _ (by decide +kernel)) ggX7_parted_X0_versions
set_option maxRecDepth 20000 in
theorem ggX7_parted_X2_rowsAlike : GoodIn wsX7_parted wsX2_rowsAlike := goodIn_r _ [29, 30, 31, 32, 28, 33, 34, 35, 36, 37, 38, 39, 40, 41, 22, 42, 43, 44, 45, 46, 47, 48, 49, 50, 51, 52, 53, 54, 55, 56, 57, 58, 59, 60, 61, 62, 63, 24, 64, 65, 66, 67, 68, 69, 70, 71, 72, 73, 74, 5, 75, 76, 77, 78, 79, 80, 81, 82, 99, 100, 101, 102, 103, 104, 95, 96, 97, 98, 105, 106, 107] (by decide +kernel) (by decide +kernel)
set_option maxRecDepth 20000 in
theorem gX7_parted_X2_rowsAlike : GoodIn wsX7_parted (wsV RX7 115 RX2 yX2_rowsAlike wsX2_rowsAlike) := goodIn_app (goodIn_of _ (by decide +kernel)) ggX7_parted_X2_rowsAlike
theorem dX7_parted_0 : decode cX7_parted 0 = .ok (.iload_n 1, 1) := by decide +kernel
theorem dX7_parted_1 : decode cX7_parted 1 = .ok (.invokestatic 104, 3) := by decide +kernel
theorem dX7_parted_4 : decode cX7_parted 4 = .ok (.ifCond .eq 13, 3) := by decide +kernel
theorem dX7_parted_7 : decode cX7_parted 7 = .ok (.iload_n 2, 1) := by decide +kernel
theorem dX7_parted_8 : decode cX7_parted 8 = .ok (.iload_n 3, 1) := by decide +kernel
theorem dX7_parted_9 : decode cX7_parted 9 = .ok (.iload 4, 2) := by decide +kernel
theorem dX7_parted_11 : decode cX7_parted 11 = .ok (.invokestatic 107, 3) := by decide +kernel
theorem dX7_parted_14 : decode cX7_parted 14 = .ok (.ifCond .ne 6, 3) := by decide +kernel
theorem dX7_parted_17 : decode cX7_parted 17 = .ok (.bipush (-2), 2) := by decide +kernel
theorem dX7_parted_19 : decode cX7_parted 19 = .ok (.ireturn, 1) := by decide +kernel
theorem dX7_parted_20 : decode cX7_parted 20 = .ok (.iconst 0, 1) := by decide +kernel
theorem dX7_parted_21 : decode cX7_parted 21 = .ok (.istore 5, 2) := by decide +kernel
theorem dX7_parted_23 : decode cX7_parted 23 = .ok (.iconst 0, 1) := by decide +kernel
theorem dX7_parted_24 : decode cX7_parted 24 = .ok (.istore 6, 2) := by decide +kernel
theorem dX7_parted_26 : decode cX7_parted 26 = .ok (.iload 6, 2) := by decide +kernel
theorem dX7_parted_28 : decode cX7_parted 28 = .ok (.aload_n 0, 1) := by decide +kernel
theorem dX7_parted_29 : decode cX7_parted 29 = .ok (.getfield 10, 3) := by decide +kernel
theorem dX7_parted_32 : decode cX7_parted 32 = .ok (.invokevirtual 83, 3) := by decide +kernel
theorem dX7_parted_35 : decode cX7_parted 35 = .ok (.if_icmp .ge 42, 3) := by decide +kernel
theorem dX7_parted_38 : decode cX7_parted 38 = .ok (.aload_n 0, 1) := by decide +kernel
theorem dX7_parted_39 : decode cX7_parted 39 = .ok (.getfield 31, 3) := by decide +kernel
theorem dX7_parted_42 : decode cX7_parted 42 = .ok (.iload 6, 2) := by decide +kernel
theorem dX7_parted_44 : decode cX7_parted 44 = .ok (.iload_n 1, 1) := by decide +kernel
theorem dX7_parted_45 : decode cX7_parted 45 = .ok (.iload_n 2, 1) := by decide +kernel
theorem dX7_parted_46 : decode cX7_parted 46 = .ok (.iload_n 3, 1) := by decide +kernel
theorem dX7_parted_47 : decode cX7_parted 47 = .ok (.iload 4, 2) := by decide +kernel
theorem dX7_parted_49 : decode cX7_parted 49 = .ok (.invokevirtual 115, 3) := by decide +kernel
theorem dX7_parted_52 : decode cX7_parted 52 = .ok (.istore 7, 2) := by decide +kernel
theorem dX7_parted_54 : decode cX7_parted 54 = .ok (.iload 5, 2) := by decide +kernel
theorem dX7_parted_56 : decode cX7_parted 56 = .ok (.ifCond .eq 11, 3) := by decide +kernel
theorem dX7_parted_59 : decode cX7_parted 59 = .ok (.iload 7, 2) := by decide +kernel
theorem dX7_parted_61 : decode cX7_parted 61 = .ok (.ifCond .ne 6, 3) := by decide +kernel
theorem dX7_parted_64 : decode cX7_parted 64 = .ok (.iload 6, 2) := by decide +kernel
theorem dX7_parted_66 : decode cX7_parted 66 = .ok (.ireturn, 1) := by decide +kernel
theorem dX7_parted_67 : decode cX7_parted 67 = .ok (.iload 7, 2) := by decide +kernel
theorem dX7_parted_69 : decode cX7_parted 69 = .ok (.istore 5, 2) := by decide +kernel
theorem dX7_parted_71 : decode cX7_parted 71 = .ok (.iinc 6 1, 3) := by decide +kernel
theorem dX7_parted_74 : decode cX7_parted 74 = .ok (.goto (-48), 3) := by decide +kernel
theorem dX7_parted_77 : decode cX7_parted 77 = .ok (.bipush (-6), 2) := by decide +kernel
theorem dX7_parted_79 : decode cX7_parted 79 = .ok (.ireturn, 1) := by decide +kernel
set_option maxRecDepth 20000 in
theorem ggX7_mends_X7_areRows : GoodIn wsX7_mends wsX7_areRows := goodIn_r _ [5, 6, 7, 4, 8, 9, 10, 11, 12, 13, 14] (by decide +kernel) (by decide +kernel)
set_option maxRecDepth 20000 in
theorem gX7_mends_X7_areRows : GoodIn wsX7_mends (va_wsS RX7 107 yX7_areRows wsX7_areRows) := goodIn_app (goodIn_of _ (by decide +kernel)) ggX7_mends_X7_areRows
set_option maxRecDepth 20000 in
theorem ggX7_mends_X7_refusalBehind : GoodIn wsX7_mends wsX7_refusalBehind := goodIn_r _ [18, 19, 20, 21, 22, 23, 24, 25, 26, 27, 28, 4, 29, 30, 31, 32, 33, 102, 103, 104, 105, 106, 107, 108, 109, 110, 111, 112, 113, 114, 115, 116, 117] (by decide +kernel) (by decide +kernel)
set_option maxRecDepth 20000 in
theorem gX7_mends_X7_refusalBehind : GoodIn wsX7_mends (wsV RX7 202 RX7 yX7_refusalBehind wsX7_refusalBehind) := goodIn_app (goodIn_of _ (by decide +kernel)) ggX7_mends_X7_refusalBehind
set_option maxRecDepth 20000 in
theorem ggX7_mends_X2_rowsAlike : GoodIn wsX7_mends wsX2_rowsAlike := goodIn_r _ [38, 39, 40, 41, 37, 42, 43, 44, 45, 46, 47, 48, 49, 50, 23, 51, 52, 53, 54, 55, 56, 57, 58, 59, 60, 61, 62, 63, 64, 65, 66, 67, 68, 69, 70, 71, 72, 25, 73, 74, 75, 76, 77, 78, 79, 80, 81, 82, 83, 4, 84, 85, 86, 87, 88, 89, 90, 91, 118, 119, 120, 121, 122, 123, 114, 115, 116, 117, 124, 125, 126] (by decide +kernel) (by decide +kernel)
set_option maxRecDepth 20000 in
theorem gX7_mends_X2_rowsAlike : GoodIn wsX7_mends (wsV RX7 115 RX2 yX2_rowsAlike wsX2_rowsAlike) := goodIn_app (goodIn_of _ (by decide +kernel)) ggX7_mends_X2_rowsAlike
set_option maxRecDepth 20000 in
theorem ggX7_mends_X7_wasMendedInFirstAlone : GoodIn wsX7_mends wsX7_wasMendedInFirstAlone := goodIn_r _ [95, 19, 96, 97, 98, 23, 99, 100, 70, 71, 72, 25, 52, 73, 101, 75, 76, 77, 78, 102, 103, 104, 105, 106, 107, 108, 109, 110, 111, 112, 113, 114, 115, 116, 117] (by decide +kernel) (by decide +kernel)
set_option maxRecDepth 20000 in
theorem gX7_mends_X7_wasMendedInFirstAlone : GoodIn wsX7_mends (wsV RX7 205 RX7 yX7_wasMendedInFirstAlone wsX7_wasMendedInFirstAlone) := goodIn_app (goodIn_of _ (by decide +kernel)) ggX7_mends_X7_wasMendedInFirstAlone
theorem dX7_mends_0 : decode cX7_mends 0 = .ok (.aload_n 0, 1) := by decide +kernel
theorem dX7_mends_1 : decode cX7_mends 1 = .ok (.iload_n 1, 1) := by decide +kernel
theorem dX7_mends_2 : decode cX7_mends 2 = .ok (.iload_n 2, 1) := by decide +kernel
theorem dX7_mends_3 : decode cX7_mends 3 = .ok (.iload_n 3, 1) := by decide +kernel
theorem dX7_mends_4 : decode cX7_mends 4 = .ok (.iload 4, 2) := by decide +kernel
theorem dX7_mends_6 : decode cX7_mends 6 = .ok (.invokestatic 107, 3) := by decide +kernel
theorem dX7_mends_9 : decode cX7_mends 9 = .ok (.invokevirtual 202, 3) := by decide +kernel
theorem dX7_mends_12 : decode cX7_mends 12 = .ok (.istore 5, 2) := by decide +kernel
theorem dX7_mends_14 : decode cX7_mends 14 = .ok (.iload 5, 2) := by decide +kernel
theorem dX7_mends_16 : decode cX7_mends 16 = .ok (.ifCond .eq 6, 3) := by decide +kernel
theorem dX7_mends_19 : decode cX7_mends 19 = .ok (.iload 5, 2) := by decide +kernel
theorem dX7_mends_21 : decode cX7_mends 21 = .ok (.ireturn, 1) := by decide +kernel
theorem dX7_mends_22 : decode cX7_mends 22 = .ok (.aload_n 0, 1) := by decide +kernel
theorem dX7_mends_23 : decode cX7_mends 23 = .ok (.getfield 31, 3) := by decide +kernel
theorem dX7_mends_26 : decode cX7_mends 26 = .ok (.iload_n 1, 1) := by decide +kernel
theorem dX7_mends_27 : decode cX7_mends 27 = .ok (.iconst 1, 1) := by decide +kernel
theorem dX7_mends_28 : decode cX7_mends 28 = .ok (.iload_n 2, 1) := by decide +kernel
theorem dX7_mends_29 : decode cX7_mends 29 = .ok (.iload_n 3, 1) := by decide +kernel
theorem dX7_mends_30 : decode cX7_mends 30 = .ok (.iload 4, 2) := by decide +kernel
theorem dX7_mends_32 : decode cX7_mends 32 = .ok (.invokevirtual 115, 3) := by decide +kernel
theorem dX7_mends_35 : decode cX7_mends 35 = .ok (.ifCond .ne 5, 3) := by decide +kernel
theorem dX7_mends_38 : decode cX7_mends 38 = .ok (.iconst 0, 1) := by decide +kernel
theorem dX7_mends_39 : decode cX7_mends 39 = .ok (.ireturn, 1) := by decide +kernel
theorem dX7_mends_40 : decode cX7_mends 40 = .ok (.iconst 0, 1) := by decide +kernel
theorem dX7_mends_41 : decode cX7_mends 41 = .ok (.istore 6, 2) := by decide +kernel
theorem dX7_mends_43 : decode cX7_mends 43 = .ok (.iconst 0, 1) := by decide +kernel
theorem dX7_mends_44 : decode cX7_mends 44 = .ok (.istore 7, 2) := by decide +kernel
theorem dX7_mends_46 : decode cX7_mends 46 = .ok (.iload 7, 2) := by decide +kernel
theorem dX7_mends_48 : decode cX7_mends 48 = .ok (.iload 4, 2) := by decide +kernel
theorem dX7_mends_50 : decode cX7_mends 50 = .ok (.if_icmp .ge 34, 3) := by decide +kernel
theorem dX7_mends_53 : decode cX7_mends 53 = .ok (.aload_n 0, 1) := by decide +kernel
theorem dX7_mends_54 : decode cX7_mends 54 = .ok (.iload_n 1, 1) := by decide +kernel
theorem dX7_mends_55 : decode cX7_mends 55 = .ok (.iload_n 2, 1) := by decide +kernel
theorem dX7_mends_56 : decode cX7_mends 56 = .ok (.iload 7, 2) := by decide +kernel
theorem dX7_mends_58 : decode cX7_mends 58 = .ok (.iadd, 1) := by decide +kernel
theorem dX7_mends_59 : decode cX7_mends 59 = .ok (.iload_n 3, 1) := by decide +kernel
theorem dX7_mends_60 : decode cX7_mends 60 = .ok (.iload 7, 2) := by decide +kernel
theorem dX7_mends_62 : decode cX7_mends 62 = .ok (.iadd, 1) := by decide +kernel
theorem dX7_mends_63 : decode cX7_mends 63 = .ok (.invokevirtual 205, 3) := by decide +kernel
theorem dX7_mends_66 : decode cX7_mends 66 = .ok (.ifCond .eq 12, 3) := by decide +kernel
theorem dX7_mends_69 : decode cX7_mends 69 = .ok (.iload 6, 2) := by decide +kernel
theorem dX7_mends_71 : decode cX7_mends 71 = .ok (.iconst 1, 1) := by decide +kernel
theorem dX7_mends_72 : decode cX7_mends 72 = .ok (.iload 7, 2) := by decide +kernel
theorem dX7_mends_74 : decode cX7_mends 74 = .ok (.ishl, 1) := by decide +kernel
theorem dX7_mends_75 : decode cX7_mends 75 = .ok (.ior, 1) := by decide +kernel
theorem dX7_mends_76 : decode cX7_mends 76 = .ok (.istore 6, 2) := by decide +kernel
theorem dX7_mends_78 : decode cX7_mends 78 = .ok (.iinc 7 1, 3) := by decide +kernel
theorem dX7_mends_81 : decode cX7_mends 81 = .ok (.goto (-35), 3) := by decide +kernel
theorem dX7_mends_84 : decode cX7_mends 84 = .ok (.iload 6, 2) := by decide +kernel
theorem dX7_mends_86 : decode cX7_mends 86 = .ok (.ireturn, 1) := by decide +kernel
set_option maxRecDepth 20000 in
theorem ggX7_mend_X7_areRows : GoodIn wsX7_mend wsX7_areRows := goodIn_r _ [6, 7, 8, 5, 9, 10, 11, 12, 13, 14, 15] (by decide +kernel) (by decide +kernel)
set_option maxRecDepth 20000 in
theorem gX7_mend_X7_areRows : GoodIn wsX7_mend (va_wsS RX7 107 yX7_areRows wsX7_areRows) := goodIn_app (goodIn_of _ (by decide +kernel)) ggX7_mend_X7_areRows
set_option maxRecDepth 20000 in
theorem ggX7_mend_X7_isUpTo : GoodIn wsX7_mend wsX7_isUpTo := goodIn_r _ [12] (by decide +kernel) (by decide +kernel)
set_option maxRecDepth 20000 in
theorem gX7_mend_X7_isUpTo : GoodIn wsX7_mend (va_wsS RX7 119 yX7_isUpTo wsX7_isUpTo) := goodIn_app (goodIn_of _ (by decide +kernel)) ggX7_mend_X7_isUpTo
set_option maxRecDepth 20000 in
theorem ggX7_mend_X7_refusalBehind : GoodIn wsX7_mend wsX7_refusalBehind := goodIn_r _ [19, 2, 20, 21, 22, 23, 24, 25, 26, 27, 28, 5, 29, 30, 31, 32, 33, 112, 113, 114, 115, 116, 117, 118, 119, 120, 121, 122, 123, 130, 131, 132, 133] (by decide +kernel) (by decide +kernel)
set_option maxRecDepth 20000 in
theorem gX7_mend_X7_refusalBehind : GoodIn wsX7_mend (wsV RX7 202 RX7 yX7_refusalBehind wsX7_refusalBehind) := goodIn_app (goodIn_of _ (by decide +kernel)) ggX7_mend_X7_refusalBehind
set_option maxRecDepth 20000 in
theorem ggX7_mend_X2_rowsAlike : GoodIn wsX7_mend wsX2_rowsAlike := goodIn_r _ [38, 39, 40, 41, 37, 42, 43, 44, 45, 46, 47, 48, 49, 50, 23, 51, 52, 53, 54, 55, 56, 57, 58, 59, 60, 61, 62, 63, 64, 65, 66, 67, 68, 69, 70, 71, 72, 25, 73, 74, 75, 76, 77, 78, 79, 80, 81, 82, 83, 5, 84, 85, 86, 87, 88, 89, 90, 91, 124, 125, 126, 127, 128, 129, 130, 131, 132, 133, 134, 135, 136] (by decide +kernel) (by decide +kernel)
set_option maxRecDepth 20000 in
theorem gX7_mend_X2_rowsAlike : GoodIn wsX7_mend (wsV RX7 115 RX2 yX2_rowsAlike wsX2_rowsAlike) := goodIn_app (goodIn_of _ (by decide +kernel)) ggX7_mend_X2_rowsAlike
set_option maxRecDepth 20000 in
theorem ggX7_mend_X7_wasMendedInFirstAlone : GoodIn wsX7_mend wsX7_wasMendedInFirstAlone := goodIn_r _ [95, 2, 96, 97, 98, 23, 99, 100, 70, 71, 72, 25, 52, 73, 101, 75, 76, 77, 78, 112, 113, 114, 115, 116, 117, 118, 119, 120, 121, 122, 123, 130, 131, 132, 133] (by decide +kernel) (by decide +kernel)
set_option maxRecDepth 20000 in
theorem gX7_mend_X7_wasMendedInFirstAlone : GoodIn wsX7_mend (wsV RX7 205 RX7 yX7_wasMendedInFirstAlone wsX7_wasMendedInFirstAlone) := goodIn_app (goodIn_of _ (by decide +kernel)) ggX7_mend_X7_wasMendedInFirstAlone
set_option maxRecDepth 20000 in
theorem ggX7_mend_X0_sizeOf : GoodIn wsX7_mend wsX0_sizeOf := goodIn_r _ [72, 25, 52, 73, 130, 131, 132, 133] (by decide +kernel) (by decide +kernel)
set_option maxRecDepth 20000 in
theorem gX7_mend_X0_sizeOf : GoodIn wsX7_mend (wsV RX7 96 RX0 yX0_sizeOf wsX0_sizeOf) := goodIn_app (goodIn_of _ (by decide +kernel)) ggX7_mend_X0_sizeOf
set_option maxRecDepth 20000 in
theorem ggX7_mend_X0_signAt : GoodIn wsX7_mend wsX0_signAt := goodIn_r _ [77, 25, 52, 73, 78, 130, 131, 132, 133] (by decide +kernel) (by decide +kernel)
set_option maxRecDepth 20000 in
theorem gX7_mend_X0_signAt : GoodIn wsX7_mend (wsV RX7 100 RX0 yX0_signAt wsX0_signAt) := goodIn_app (goodIn_of _ (by decide +kernel)) ggX7_mend_X0_signAt
set_option maxRecDepth 20000 in
theorem ggX7_mend_X3_renamed : GoodIn wsX7_mend wsX3_renamed := goodIn_r _ [107, 89, 108, 109, 110, 61, 111, 63, 83, 5, 84, 134, 135, 136] (by decide +kernel) (by decide +kernel)
set_option maxRecDepth 20000 in
theorem gX7_mend_X3_renamed : GoodIn wsX7_mend (wsV RX7 212 RX3 yX3_renamed wsX3_renamed) := goodIn_app (goodIn_of _ (by decide +kernel)) ggX7_mend_X3_renamed
theorem dX7_mend_0 : decode cX7_mend 0 = .ok (.aload_n 0, 1) := by decide +kernel
theorem dX7_mend_1 : decode cX7_mend 1 = .ok (.iload_n 1, 1) := by decide +kernel
theorem dX7_mend_2 : decode cX7_mend 2 = .ok (.iload_n 2, 1) := by decide +kernel
theorem dX7_mend_3 : decode cX7_mend 3 = .ok (.iload_n 3, 1) := by decide +kernel
theorem dX7_mend_4 : decode cX7_mend 4 = .ok (.iload 4, 2) := by decide +kernel
theorem dX7_mend_6 : decode cX7_mend 6 = .ok (.invokestatic 107, 3) := by decide +kernel
theorem dX7_mend_9 : decode cX7_mend 9 = .ok (.ifCond .eq 19, 3) := by decide +kernel
theorem dX7_mend_12 : decode cX7_mend 12 = .ok (.iload 5, 2) := by decide +kernel
theorem dX7_mend_14 : decode cX7_mend 14 = .ok (.iload 4, 2) := by decide +kernel
theorem dX7_mend_16 : decode cX7_mend 16 = .ok (.iconst 1, 1) := by decide +kernel
theorem dX7_mend_17 : decode cX7_mend 17 = .ok (.isub, 1) := by decide +kernel
theorem dX7_mend_18 : decode cX7_mend 18 = .ok (.invokestatic 119, 3) := by decide +kernel
theorem dX7_mend_21 : decode cX7_mend 21 = .ok (.ifCond .eq 7, 3) := by decide +kernel
theorem dX7_mend_24 : decode cX7_mend 24 = .ok (.iconst 1, 1) := by decide +kernel
theorem dX7_mend_25 : decode cX7_mend 25 = .ok (.goto 4, 3) := by decide +kernel
theorem dX7_mend_28 : decode cX7_mend 28 = .ok (.iconst 0, 1) := by decide +kernel
theorem dX7_mend_29 : decode cX7_mend 29 = .ok (.invokevirtual 202, 3) := by decide +kernel
theorem dX7_mend_32 : decode cX7_mend 32 = .ok (.istore 7, 2) := by decide +kernel
theorem dX7_mend_34 : decode cX7_mend 34 = .ok (.iload 7, 2) := by decide +kernel
theorem dX7_mend_36 : decode cX7_mend 36 = .ok (.ifCond .eq 6, 3) := by decide +kernel
theorem dX7_mend_39 : decode cX7_mend 39 = .ok (.iload 7, 2) := by decide +kernel
theorem dX7_mend_41 : decode cX7_mend 41 = .ok (.ireturn, 1) := by decide +kernel
theorem dX7_mend_42 : decode cX7_mend 42 = .ok (.aload_n 0, 1) := by decide +kernel
theorem dX7_mend_43 : decode cX7_mend 43 = .ok (.getfield 31, 3) := by decide +kernel
theorem dX7_mend_46 : decode cX7_mend 46 = .ok (.iload_n 1, 1) := by decide +kernel
theorem dX7_mend_47 : decode cX7_mend 47 = .ok (.iconst 1, 1) := by decide +kernel
theorem dX7_mend_48 : decode cX7_mend 48 = .ok (.iload_n 2, 1) := by decide +kernel
theorem dX7_mend_49 : decode cX7_mend 49 = .ok (.iload_n 3, 1) := by decide +kernel
theorem dX7_mend_50 : decode cX7_mend 50 = .ok (.iload 4, 2) := by decide +kernel
theorem dX7_mend_52 : decode cX7_mend 52 = .ok (.invokevirtual 115, 3) := by decide +kernel
theorem dX7_mend_55 : decode cX7_mend 55 = .ok (.ifCond .ne 6, 3) := by decide +kernel
theorem dX7_mend_58 : decode cX7_mend 58 = .ok (.bipush (-5), 2) := by decide +kernel
theorem dX7_mend_60 : decode cX7_mend 60 = .ok (.ireturn, 1) := by decide +kernel
theorem dX7_mend_61 : decode cX7_mend 61 = .ok (.aload_n 0, 1) := by decide +kernel
theorem dX7_mend_62 : decode cX7_mend 62 = .ok (.iload_n 1, 1) := by decide +kernel
theorem dX7_mend_63 : decode cX7_mend 63 = .ok (.iload_n 2, 1) := by decide +kernel
theorem dX7_mend_64 : decode cX7_mend 64 = .ok (.iload 5, 2) := by decide +kernel
theorem dX7_mend_66 : decode cX7_mend 66 = .ok (.iadd, 1) := by decide +kernel
theorem dX7_mend_67 : decode cX7_mend 67 = .ok (.iload_n 3, 1) := by decide +kernel
theorem dX7_mend_68 : decode cX7_mend 68 = .ok (.iload 5, 2) := by decide +kernel
theorem dX7_mend_70 : decode cX7_mend 70 = .ok (.iadd, 1) := by decide +kernel
theorem dX7_mend_71 : decode cX7_mend 71 = .ok (.invokevirtual 205, 3) := by decide +kernel
theorem dX7_mend_74 : decode cX7_mend 74 = .ok (.ifCond .ne 6, 3) := by decide +kernel
theorem dX7_mend_77 : decode cX7_mend 77 = .ok (.bipush (-5), 2) := by decide +kernel
theorem dX7_mend_79 : decode cX7_mend 79 = .ok (.ireturn, 1) := by decide +kernel
theorem dX7_mend_80 : decode cX7_mend 80 = .ok (.iload 6, 2) := by decide +kernel
theorem dX7_mend_82 : decode cX7_mend 82 = .ok (.iconst (-1), 1) := by decide +kernel
theorem dX7_mend_83 : decode cX7_mend 83 = .ok (.if_icmp .ne 18, 3) := by decide +kernel
theorem dX7_mend_86 : decode cX7_mend 86 = .ok (.aload_n 0, 1) := by decide +kernel
theorem dX7_mend_87 : decode cX7_mend 87 = .ok (.getfield 10, 3) := by decide +kernel
theorem dX7_mend_90 : decode cX7_mend 90 = .ok (.iload_n 1, 1) := by decide +kernel
theorem dX7_mend_91 : decode cX7_mend 91 = .ok (.iconst 1, 1) := by decide +kernel
theorem dX7_mend_92 : decode cX7_mend 92 = .ok (.iadd, 1) := by decide +kernel
theorem dX7_mend_93 : decode cX7_mend 93 = .ok (.iload_n 2, 1) := by decide +kernel
theorem dX7_mend_94 : decode cX7_mend 94 = .ok (.iload 5, 2) := by decide +kernel
theorem dX7_mend_96 : decode cX7_mend 96 = .ok (.iadd, 1) := by decide +kernel
theorem dX7_mend_97 : decode cX7_mend 97 = .ok (.invokevirtual 96, 3) := by decide +kernel
theorem dX7_mend_100 : decode cX7_mend 100 = .ok (.ireturn, 1) := by decide +kernel
theorem dX7_mend_101 : decode cX7_mend 101 = .ok (.aload_n 0, 1) := by decide +kernel
theorem dX7_mend_102 : decode cX7_mend 102 = .ok (.getfield 10, 3) := by decide +kernel
theorem dX7_mend_105 : decode cX7_mend 105 = .ok (.iload_n 1, 1) := by decide +kernel
theorem dX7_mend_106 : decode cX7_mend 106 = .ok (.iconst 1, 1) := by decide +kernel
theorem dX7_mend_107 : decode cX7_mend 107 = .ok (.iadd, 1) := by decide +kernel
theorem dX7_mend_108 : decode cX7_mend 108 = .ok (.iload_n 2, 1) := by decide +kernel
theorem dX7_mend_109 : decode cX7_mend 109 = .ok (.iload 5, 2) := by decide +kernel
theorem dX7_mend_111 : decode cX7_mend 111 = .ok (.iadd, 1) := by decide +kernel
theorem dX7_mend_112 : decode cX7_mend 112 = .ok (.iload 6, 2) := by decide +kernel
theorem dX7_mend_114 : decode cX7_mend 114 = .ok (.invokevirtual 100, 3) := by decide +kernel
theorem dX7_mend_117 : decode cX7_mend 117 = .ok (.istore 8, 2) := by decide +kernel
theorem dX7_mend_119 : decode cX7_mend 119 = .ok (.iload 8, 2) := by decide +kernel
theorem dX7_mend_121 : decode cX7_mend 121 = .ok (.ifCond .ne 8, 3) := by decide +kernel
theorem dX7_mend_124 : decode cX7_mend 124 = .ok (.bipush (-6), 2) := by decide +kernel
theorem dX7_mend_126 : decode cX7_mend 126 = .ok (.goto 15, 3) := by decide +kernel
theorem dX7_mend_129 : decode cX7_mend 129 = .ok (.aload_n 0, 1) := by decide +kernel
theorem dX7_mend_130 : decode cX7_mend 130 = .ok (.getfield 31, 3) := by decide +kernel
theorem dX7_mend_133 : decode cX7_mend 133 = .ok (.getfield 208, 3) := by decide +kernel
theorem dX7_mend_136 : decode cX7_mend 136 = .ok (.iload 8, 2) := by decide +kernel
theorem dX7_mend_138 : decode cX7_mend 138 = .ok (.invokevirtual 212, 3) := by decide +kernel
theorem dX7_mend_141 : decode cX7_mend 141 = .ok (.ireturn, 1) := by decide +kernel
set_option maxRecDepth 20000 in
theorem ggX7_far_X0_hasVersion : GoodIn wsX7_far wsX0_hasVersion := goodIn_r _ [7, 8, 55, 56, 57, 58] (by decide +kernel) (by decide +kernel)
set_option maxRecDepth 20000 in
theorem gX7_far_X0_hasVersion : GoodIn wsX7_far (wsV RX7 93 RX0 yX0_hasVersion wsX0_hasVersion) := goodIn_app (goodIn_of _ (by decide +kernel)) ggX7_far_X0_hasVersion
set_option maxRecDepth 20000 in
theorem ggX7_far_X0_hasLine : GoodIn wsX7_far wsX0_hasLine := goodIn_r _ [12, 13, 55, 56, 57, 58] (by decide +kernel) (by decide +kernel)
set_option maxRecDepth 20000 in
theorem gX7_far_X0_hasLine : GoodIn wsX7_far (wsV RX7 79 RX0 yX0_hasLine wsX0_hasLine) := goodIn_app (goodIn_of _ (by decide +kernel)) ggX7_far_X0_hasLine
set_option maxRecDepth 20000 in
theorem ggX7_far_X1_between : GoodIn wsX7_far wsX1_between := goodIn_r _ [18, 19, 20, 21, 22, 23, 24, 25, 26, 27, 6, 28, 8, 13, 29, 30, 31, 32, 33, 34, 35, 36, 17, 37, 38, 39, 40, 41, 42, 59, 60, 55, 56, 57, 58] (by decide +kernel) (by decide +kernel)
set_option maxRecDepth 20000 in
theorem gX7_far_X1_between : GoodIn wsX7_far (wsV RX7 217 RX1 yX1_between wsX1_between) := goodIn_app (goodIn_of _ (by decide +kernel)) ggX7_far_X1_between
theorem dX7_far_0 : decode cX7_far 0 = .ok (.aload_n 0, 1) := by decide +kernel
theorem dX7_far_1 : decode cX7_far 1 = .ok (.getfield 10, 3) := by decide +kernel
theorem dX7_far_4 : decode cX7_far 4 = .ok (.iload_n 1, 1) := by decide +kernel
theorem dX7_far_5 : decode cX7_far 5 = .ok (.invokevirtual 93, 3) := by decide +kernel
theorem dX7_far_8 : decode cX7_far 8 = .ok (.ifCond .eq 25, 3) := by decide +kernel
theorem dX7_far_11 : decode cX7_far 11 = .ok (.aload_n 0, 1) := by decide +kernel
theorem dX7_far_12 : decode cX7_far 12 = .ok (.getfield 10, 3) := by decide +kernel
theorem dX7_far_15 : decode cX7_far 15 = .ok (.iload_n 2, 1) := by decide +kernel
theorem dX7_far_16 : decode cX7_far 16 = .ok (.invokevirtual 79, 3) := by decide +kernel
theorem dX7_far_19 : decode cX7_far 19 = .ok (.ifCond .eq 14, 3) := by decide +kernel
theorem dX7_far_22 : decode cX7_far 22 = .ok (.aload_n 0, 1) := by decide +kernel
theorem dX7_far_23 : decode cX7_far 23 = .ok (.getfield 10, 3) := by decide +kernel
theorem dX7_far_26 : decode cX7_far 26 = .ok (.iload_n 3, 1) := by decide +kernel
theorem dX7_far_27 : decode cX7_far 27 = .ok (.invokevirtual 79, 3) := by decide +kernel
theorem dX7_far_30 : decode cX7_far 30 = .ok (.ifCond .ne 5, 3) := by decide +kernel
theorem dX7_far_33 : decode cX7_far 33 = .ok (.iconst (-1), 1) := by decide +kernel
theorem dX7_far_34 : decode cX7_far 34 = .ok (.ireturn, 1) := by decide +kernel
theorem dX7_far_35 : decode cX7_far 35 = .ok (.aload_n 0, 1) := by decide +kernel
theorem dX7_far_36 : decode cX7_far 36 = .ok (.getfield 63, 3) := by decide +kernel
theorem dX7_far_39 : decode cX7_far 39 = .ok (.iload_n 1, 1) := by decide +kernel
theorem dX7_far_40 : decode cX7_far 40 = .ok (.iload_n 2, 1) := by decide +kernel
theorem dX7_far_41 : decode cX7_far 41 = .ok (.iload_n 3, 1) := by decide +kernel
theorem dX7_far_42 : decode cX7_far 42 = .ok (.invokevirtual 217, 3) := by decide +kernel
theorem dX7_far_45 : decode cX7_far 45 = .ok (.ireturn, 1) := by decide +kernel
set_option maxRecDepth 20000 in
theorem ggX7_near_X0_hasVersion : GoodIn wsX7_near wsX0_hasVersion := goodIn_r _ [7, 8, 62, 63, 64, 65] (by decide +kernel) (by decide +kernel)
set_option maxRecDepth 20000 in
theorem gX7_near_X0_hasVersion : GoodIn wsX7_near (wsV RX7 93 RX0 yX0_hasVersion wsX0_hasVersion) := goodIn_app (goodIn_of _ (by decide +kernel)) ggX7_near_X0_hasVersion
set_option maxRecDepth 20000 in
theorem ggX7_near_X0_hasLine : GoodIn wsX7_near wsX0_hasLine := goodIn_r _ [12, 13, 62, 63, 64, 65] (by decide +kernel) (by decide +kernel)
set_option maxRecDepth 20000 in
theorem gX7_near_X0_hasLine : GoodIn wsX7_near (wsV RX7 79 RX0 yX0_hasLine wsX0_hasLine) := goodIn_app (goodIn_of _ (by decide +kernel)) ggX7_near_X0_hasLine
set_option maxRecDepth 20000 in
theorem ggX7_near_X7_isUpTo : GoodIn wsX7_near wsX7_isUpTo := goodIn_r _ [17] (by decide +kernel) (by decide +kernel)
set_option maxRecDepth 20000 in
theorem gX7_near_X7_isUpTo : GoodIn wsX7_near (va_wsS RX7 119 yX7_isUpTo wsX7_isUpTo) := goodIn_app (goodIn_of _ (by decide +kernel)) ggX7_near_X7_isUpTo
set_option maxRecDepth 20000 in
theorem ggX7_near_X0_lines : GoodIn wsX7_near wsX0_lines := goodIn_r _ [21, 13, 62, 63, 64, 65] (by decide +kernel) (by decide +kernel)
set_option maxRecDepth 20000 in
theorem gX7_near_X0_lines : GoodIn wsX7_near (wsV RX7 71 RX0 yX0_lines wsX0_lines) := goodIn_app (goodIn_of _ (by decide +kernel)) ggX7_near_X0_lines
set_option maxRecDepth 20000 in
theorem ggX7_near_X1_between : GoodIn wsX7_near wsX1_between := goodIn_r _ [26, 27, 28, 29, 30, 31, 32, 33, 34, 35, 6, 36, 8, 13, 37, 38, 39, 40, 41, 42, 43, 44, 25, 45, 46, 16, 47, 48, 49, 66, 67, 62, 63, 64, 65] (by decide +kernel) (by decide +kernel)
set_option maxRecDepth 20000 in
theorem gX7_near_X1_between : GoodIn wsX7_near (wsV RX7 217 RX1 yX1_between wsX1_between) := goodIn_app (goodIn_of _ (by decide +kernel)) ggX7_near_X1_between
theorem dX7_near_0 : decode cX7_near 0 = .ok (.aload_n 0, 1) := by decide +kernel
theorem dX7_near_1 : decode cX7_near 1 = .ok (.getfield 10, 3) := by decide +kernel
theorem dX7_near_4 : decode cX7_near 4 = .ok (.iload_n 1, 1) := by decide +kernel
theorem dX7_near_5 : decode cX7_near 5 = .ok (.invokevirtual 93, 3) := by decide +kernel
theorem dX7_near_8 : decode cX7_near 8 = .ok (.ifCond .eq 14, 3) := by decide +kernel
theorem dX7_near_11 : decode cX7_near 11 = .ok (.aload_n 0, 1) := by decide +kernel
theorem dX7_near_12 : decode cX7_near 12 = .ok (.getfield 10, 3) := by decide +kernel
theorem dX7_near_15 : decode cX7_near 15 = .ok (.iload_n 2, 1) := by decide +kernel
theorem dX7_near_16 : decode cX7_near 16 = .ok (.invokevirtual 79, 3) := by decide +kernel
theorem dX7_near_19 : decode cX7_near 19 = .ok (.ifCond .ne 5, 3) := by decide +kernel
theorem dX7_near_22 : decode cX7_near 22 = .ok (.iconst (-1), 1) := by decide +kernel
theorem dX7_near_23 : decode cX7_near 23 = .ok (.ireturn, 1) := by decide +kernel
theorem dX7_near_24 : decode cX7_near 24 = .ok (.iload_n 3, 1) := by decide +kernel
theorem dX7_near_25 : decode cX7_near 25 = .ok (.bipush 24, 2) := by decide +kernel
theorem dX7_near_27 : decode cX7_near 27 = .ok (.invokestatic 119, 3) := by decide +kernel
theorem dX7_near_30 : decode cX7_near 30 = .ok (.ifCond .ne 6, 3) := by decide +kernel
theorem dX7_near_33 : decode cX7_near 33 = .ok (.bipush (-2), 2) := by decide +kernel
theorem dX7_near_35 : decode cX7_near 35 = .ok (.ireturn, 1) := by decide +kernel
theorem dX7_near_36 : decode cX7_near 36 = .ok (.iconst 0, 1) := by decide +kernel
theorem dX7_near_37 : decode cX7_near 37 = .ok (.istore 4, 2) := by decide +kernel
theorem dX7_near_39 : decode cX7_near 39 = .ok (.iconst 0, 1) := by decide +kernel
theorem dX7_near_40 : decode cX7_near 40 = .ok (.istore 5, 2) := by decide +kernel
theorem dX7_near_42 : decode cX7_near 42 = .ok (.iload 5, 2) := by decide +kernel
theorem dX7_near_44 : decode cX7_near 44 = .ok (.aload_n 0, 1) := by decide +kernel
theorem dX7_near_45 : decode cX7_near 45 = .ok (.getfield 10, 3) := by decide +kernel
theorem dX7_near_48 : decode cX7_near 48 = .ok (.invokevirtual 71, 3) := by decide +kernel
theorem dX7_near_51 : decode cX7_near 51 = .ok (.if_icmp .ge 33, 3) := by decide +kernel
theorem dX7_near_54 : decode cX7_near 54 = .ok (.aload_n 0, 1) := by decide +kernel
theorem dX7_near_55 : decode cX7_near 55 = .ok (.getfield 63, 3) := by decide +kernel
theorem dX7_near_58 : decode cX7_near 58 = .ok (.iload_n 1, 1) := by decide +kernel
theorem dX7_near_59 : decode cX7_near 59 = .ok (.iload_n 2, 1) := by decide +kernel
theorem dX7_near_60 : decode cX7_near 60 = .ok (.iload 5, 2) := by decide +kernel
theorem dX7_near_62 : decode cX7_near 62 = .ok (.invokevirtual 217, 3) := by decide +kernel
theorem dX7_near_65 : decode cX7_near 65 = .ok (.iload_n 3, 1) := by decide +kernel
theorem dX7_near_66 : decode cX7_near 66 = .ok (.if_icmp .gt 12, 3) := by decide +kernel
theorem dX7_near_69 : decode cX7_near 69 = .ok (.iload 4, 2) := by decide +kernel
theorem dX7_near_71 : decode cX7_near 71 = .ok (.iconst 1, 1) := by decide +kernel
theorem dX7_near_72 : decode cX7_near 72 = .ok (.iload 5, 2) := by decide +kernel
theorem dX7_near_74 : decode cX7_near 74 = .ok (.ishl, 1) := by decide +kernel
theorem dX7_near_75 : decode cX7_near 75 = .ok (.ior, 1) := by decide +kernel
theorem dX7_near_76 : decode cX7_near 76 = .ok (.istore 4, 2) := by decide +kernel
theorem dX7_near_78 : decode cX7_near 78 = .ok (.iinc 5 1, 3) := by decide +kernel
theorem dX7_near_81 : decode cX7_near 81 = .ok (.goto (-39), 3) := by decide +kernel
theorem dX7_near_84 : decode cX7_near 84 = .ok (.iload 4, 2) := by decide +kernel
theorem dX7_near_86 : decode cX7_near 86 = .ok (.ireturn, 1) := by decide +kernel
set_option maxRecDepth 20000 in
theorem ggX7_image_X7_isUpTo : GoodIn wsX7_image wsX7_isUpTo := goodIn_r _ [9] (by decide +kernel) (by decide +kernel)
set_option maxRecDepth 20000 in
theorem gX7_image_X7_isUpTo : GoodIn wsX7_image (va_wsS RX7 119 yX7_isUpTo wsX7_isUpTo) := goodIn_app (goodIn_of _ (by decide +kernel)) ggX7_image_X7_isUpTo
set_option maxRecDepth 20000 in
theorem ggX7_image_X0_becomeAs : GoodIn wsX7_image wsX0_becomeAs := goodIn_r _ [14, 15, 16, 17, 18, 19, 20, 21, 22, 35, 36, 37, 38] (by decide +kernel) (by decide +kernel)
set_option maxRecDepth 20000 in
theorem gX7_image_X0_becomeAs : GoodIn wsX7_image (wsV RX7 220 RX0 yX0_becomeAs wsX0_becomeAs) := goodIn_app (goodIn_of _ (by decide +kernel)) ggX7_image_X0_becomeAs
theorem dX7_image_0 : decode cX7_image 0 = .ok (.iload_n 1, 1) := by decide +kernel
theorem dX7_image_1 : decode cX7_image 1 = .ok (.iconst 1, 1) := by decide +kernel
theorem dX7_image_2 : decode cX7_image 2 = .ok (.invokestatic 119, 3) := by decide +kernel
theorem dX7_image_5 : decode cX7_image 5 = .ok (.ifCond .ne 6, 3) := by decide +kernel
theorem dX7_image_8 : decode cX7_image 8 = .ok (.bipush (-2), 2) := by decide +kernel
theorem dX7_image_10 : decode cX7_image 10 = .ok (.ireturn, 1) := by decide +kernel
theorem dX7_image_11 : decode cX7_image 11 = .ok (.iload_n 1, 1) := by decide +kernel
theorem dX7_image_12 : decode cX7_image 12 = .ok (.ifCond .ne 22, 3) := by decide +kernel
theorem dX7_image_15 : decode cX7_image 15 = .ok (.aload_n 0, 1) := by decide +kernel
theorem dX7_image_16 : decode cX7_image 16 = .ok (.getfield 16, 3) := by decide +kernel
theorem dX7_image_19 : decode cX7_image 19 = .ok (.aload_n 0, 1) := by decide +kernel
theorem dX7_image_20 : decode cX7_image 20 = .ok (.getfield 10, 3) := by decide +kernel
theorem dX7_image_23 : decode cX7_image 23 = .ok (.invokevirtual 220, 3) := by decide +kernel
theorem dX7_image_26 : decode cX7_image 26 = .ok (.aload_n 0, 1) := by decide +kernel
theorem dX7_image_27 : decode cX7_image 27 = .ok (.iconst 1, 1) := by decide +kernel
theorem dX7_image_28 : decode cX7_image 28 = .ok (.putfield 223, 3) := by decide +kernel
theorem dX7_image_31 : decode cX7_image 31 = .ok (.goto 19, 3) := by decide +kernel
theorem dX7_image_34 : decode cX7_image 34 = .ok (.aload_n 0, 1) := by decide +kernel
theorem dX7_image_35 : decode cX7_image 35 = .ok (.getfield 19, 3) := by decide +kernel
theorem dX7_image_38 : decode cX7_image 38 = .ok (.aload_n 0, 1) := by decide +kernel
theorem dX7_image_39 : decode cX7_image 39 = .ok (.getfield 10, 3) := by decide +kernel
theorem dX7_image_42 : decode cX7_image 42 = .ok (.invokevirtual 220, 3) := by decide +kernel
theorem dX7_image_45 : decode cX7_image 45 = .ok (.aload_n 0, 1) := by decide +kernel
theorem dX7_image_46 : decode cX7_image 46 = .ok (.iconst 1, 1) := by decide +kernel
theorem dX7_image_47 : decode cX7_image 47 = .ok (.putfield 227, 3) := by decide +kernel
theorem dX7_image_50 : decode cX7_image 50 = .ok (.iconst 1, 1) := by decide +kernel
theorem dX7_image_51 : decode cX7_image 51 = .ok (.ireturn, 1) := by decide +kernel
set_option maxRecDepth 20000 in
theorem ggX7_restore_X7_isUpTo : GoodIn wsX7_restore wsX7_isUpTo := goodIn_r _ [9] (by decide +kernel) (by decide +kernel)
set_option maxRecDepth 20000 in
theorem gX7_restore_X7_isUpTo : GoodIn wsX7_restore (va_wsS RX7 119 yX7_isUpTo wsX7_isUpTo) := goodIn_app (goodIn_of _ (by decide +kernel)) ggX7_restore_X7_isUpTo
set_option maxRecDepth 20000 in
theorem ggX7_restore_X0_becomeAs : GoodIn wsX7_restore wsX0_becomeAs := goodIn_r _ [14, 15, 16, 17, 18, 19, 20, 21, 22, 35, 36, 37, 38] (by decide +kernel) (by decide +kernel)
set_option maxRecDepth 20000 in
theorem gX7_restore_X0_becomeAs : GoodIn wsX7_restore (wsV RX7 220 RX0 yX0_becomeAs wsX0_becomeAs) := goodIn_app (goodIn_of _ (by decide +kernel)) ggX7_restore_X0_becomeAs
theorem dX7_restore_0 : decode cX7_restore 0 = .ok (.iload_n 1, 1) := by decide +kernel
theorem dX7_restore_1 : decode cX7_restore 1 = .ok (.iconst 1, 1) := by decide +kernel
theorem dX7_restore_2 : decode cX7_restore 2 = .ok (.invokestatic 119, 3) := by decide +kernel
theorem dX7_restore_5 : decode cX7_restore 5 = .ok (.ifCond .ne 6, 3) := by decide +kernel
theorem dX7_restore_8 : decode cX7_restore 8 = .ok (.bipush (-2), 2) := by decide +kernel
theorem dX7_restore_10 : decode cX7_restore 10 = .ok (.ireturn, 1) := by decide +kernel
theorem dX7_restore_11 : decode cX7_restore 11 = .ok (.iload_n 1, 1) := by decide +kernel
theorem dX7_restore_12 : decode cX7_restore 12 = .ok (.ifCond .ne 10, 3) := by decide +kernel
theorem dX7_restore_15 : decode cX7_restore 15 = .ok (.aload_n 0, 1) := by decide +kernel
theorem dX7_restore_16 : decode cX7_restore 16 = .ok (.getfield 223, 3) := by decide +kernel
theorem dX7_restore_19 : decode cX7_restore 19 = .ok (.goto 7, 3) := by decide +kernel
theorem dX7_restore_22 : decode cX7_restore 22 = .ok (.aload_n 0, 1) := by decide +kernel
theorem dX7_restore_23 : decode cX7_restore 23 = .ok (.getfield 227, 3) := by decide +kernel
theorem dX7_restore_26 : decode cX7_restore 26 = .ok (.istore_n 2, 1) := by decide +kernel
theorem dX7_restore_27 : decode cX7_restore 27 = .ok (.iload_n 2, 1) := by decide +kernel
theorem dX7_restore_28 : decode cX7_restore 28 = .ok (.ifCond .ne 6, 3) := by decide +kernel
theorem dX7_restore_31 : decode cX7_restore 31 = .ok (.bipush (-3), 2) := by decide +kernel
theorem dX7_restore_33 : decode cX7_restore 33 = .ok (.ireturn, 1) := by decide +kernel
theorem dX7_restore_34 : decode cX7_restore 34 = .ok (.aload_n 0, 1) := by decide +kernel
theorem dX7_restore_35 : decode cX7_restore 35 = .ok (.getfield 10, 3) := by decide +kernel
theorem dX7_restore_38 : decode cX7_restore 38 = .ok (.iload_n 1, 1) := by decide +kernel
theorem dX7_restore_39 : decode cX7_restore 39 = .ok (.ifCond .ne 10, 3) := by decide +kernel
theorem dX7_restore_42 : decode cX7_restore 42 = .ok (.aload_n 0, 1) := by decide +kernel
theorem dX7_restore_43 : decode cX7_restore 43 = .ok (.getfield 16, 3) := by decide +kernel
theorem dX7_restore_46 : decode cX7_restore 46 = .ok (.goto 7, 3) := by decide +kernel
theorem dX7_restore_49 : decode cX7_restore 49 = .ok (.aload_n 0, 1) := by decide +kernel
theorem dX7_restore_50 : decode cX7_restore 50 = .ok (.getfield 19, 3) := by decide +kernel
theorem dX7_restore_53 : decode cX7_restore 53 = .ok (.invokevirtual 220, 3) := by decide +kernel
theorem dX7_restore_56 : decode cX7_restore 56 = .ok (.iconst 1, 1) := by decide +kernel
theorem dX7_restore_57 : decode cX7_restore 57 = .ok (.ireturn, 1) := by decide +kernel
set_option maxRecDepth 20000 in
theorem ggX7_told_X0_lines : GoodIn wsX7_told wsX0_lines := goodIn_r _ [7, 8, 26, 27, 28, 29] (by decide +kernel) (by decide +kernel)
set_option maxRecDepth 20000 in
theorem gX7_told_X0_lines : GoodIn wsX7_told (wsV RX7 71 RX0 yX0_lines wsX0_lines) := goodIn_app (goodIn_of _ (by decide +kernel)) ggX7_told_X0_lines
set_option maxRecDepth 20000 in
theorem ggX7_told_X0_versions : GoodIn wsX7_told wsX0_versions := goodIn_r _ [12, 13, 26, 27, 28, 29] (by decide +kernel) (by decide +kernel)
set_option maxRecDepth 20000 in
theorem gX7_told_X0_versions : GoodIn wsX7_told (wsV RX7 83 RX0 yX0_versions wsX0_versions) := goodIn_app (goodIn_of _ (by decide +kernel)) ggX7_told_X0_versions
theorem dX7_told_0 : decode cX7_told 0 = .ok (.iload_n 1, 1) := by decide +kernel
theorem dX7_told_1 : decode cX7_told 1 = .ok (.tableswitch 48 0 2 #[27, 32, 40], 27) := by decide +kernel
theorem dX7_told_28 : decode cX7_told 28 = .ok (.aload_n 0, 1) := by decide +kernel
theorem dX7_told_29 : decode cX7_told 29 = .ok (.getfield 67, 3) := by decide +kernel
theorem dX7_told_32 : decode cX7_told 32 = .ok (.ireturn, 1) := by decide +kernel
theorem dX7_told_33 : decode cX7_told 33 = .ok (.aload_n 0, 1) := by decide +kernel
theorem dX7_told_34 : decode cX7_told 34 = .ok (.getfield 10, 3) := by decide +kernel
theorem dX7_told_37 : decode cX7_told 37 = .ok (.invokevirtual 71, 3) := by decide +kernel
theorem dX7_told_40 : decode cX7_told 40 = .ok (.ireturn, 1) := by decide +kernel
theorem dX7_told_41 : decode cX7_told 41 = .ok (.aload_n 0, 1) := by decide +kernel
theorem dX7_told_42 : decode cX7_told 42 = .ok (.getfield 10, 3) := by decide +kernel
theorem dX7_told_45 : decode cX7_told 45 = .ok (.invokevirtual 83, 3) := by decide +kernel
theorem dX7_told_48 : decode cX7_told 48 = .ok (.ireturn, 1) := by decide +kernel
theorem dX7_told_49 : decode cX7_told 49 = .ok (.bipush (-2), 2) := by decide +kernel
theorem dX7_told_51 : decode cX7_told 51 = .ok (.ireturn, 1) := by decide +kernel
set_option maxRecDepth 20000 in
theorem ggX7_refusalIn_X0_hasVersion : GoodIn wsX7_refusalIn wsX0_hasVersion := goodIn_r _ [6, 7, 20, 21, 22, 23] (by decide +kernel) (by decide +kernel)
set_option maxRecDepth 20000 in
theorem gX7_refusalIn_X0_hasVersion : GoodIn wsX7_refusalIn (wsV RX7 93 RX0 yX0_hasVersion wsX0_hasVersion) := goodIn_app (goodIn_of _ (by decide +kernel)) ggX7_refusalIn_X0_hasVersion
theorem dX7_refusalIn_0 : decode cX7_refusalIn 0 = .ok (.aload_n 0, 1) := by decide +kernel
theorem dX7_refusalIn_1 : decode cX7_refusalIn 1 = .ok (.getfield 10, 3) := by decide +kernel
theorem dX7_refusalIn_4 : decode cX7_refusalIn 4 = .ok (.iload_n 1, 1) := by decide +kernel
theorem dX7_refusalIn_5 : decode cX7_refusalIn 5 = .ok (.invokevirtual 93, 3) := by decide +kernel
theorem dX7_refusalIn_8 : decode cX7_refusalIn 8 = .ok (.ifCond .ne 5, 3) := by decide +kernel
theorem dX7_refusalIn_11 : decode cX7_refusalIn 11 = .ok (.iconst (-1), 1) := by decide +kernel
theorem dX7_refusalIn_12 : decode cX7_refusalIn 12 = .ok (.ireturn, 1) := by decide +kernel
theorem dX7_refusalIn_13 : decode cX7_refusalIn 13 = .ok (.iload_n 2, 1) := by decide +kernel
theorem dX7_refusalIn_14 : decode cX7_refusalIn 14 = .ok (.ifCond .eq 7, 3) := by decide +kernel
theorem dX7_refusalIn_17 : decode cX7_refusalIn 17 = .ok (.iconst 0, 1) := by decide +kernel
theorem dX7_refusalIn_18 : decode cX7_refusalIn 18 = .ok (.goto 5, 3) := by decide +kernel
theorem dX7_refusalIn_21 : decode cX7_refusalIn 21 = .ok (.bipush (-2), 2) := by decide +kernel
theorem dX7_refusalIn_23 : decode cX7_refusalIn 23 = .ok (.ireturn, 1) := by decide +kernel
set_option maxRecDepth 20000 in
theorem ggX7_refusalBehind_X0_versions : GoodIn wsX7_refusalBehind wsX0_versions := goodIn_r _ [6, 7, 29, 30, 31, 32] (by decide +kernel) (by decide +kernel)
set_option maxRecDepth 20000 in
theorem gX7_refusalBehind_X0_versions : GoodIn wsX7_refusalBehind (wsV RX7 83 RX0 yX0_versions wsX0_versions) := goodIn_app (goodIn_of _ (by decide +kernel)) ggX7_refusalBehind_X0_versions
set_option maxRecDepth 20000 in
theorem ggX7_refusalBehind_X7_refusalIn : GoodIn wsX7_refusalBehind wsX7_refusalIn := goodIn_r _ [12, 1, 13, 14, 15, 5, 16, 7, 17, 18, 19, 20, 21, 22, 23, 24, 25, 26, 27, 28, 29, 30, 31, 32] (by decide +kernel) (by decide +kernel)
set_option maxRecDepth 20000 in
theorem gX7_refusalBehind_X7_refusalIn : GoodIn wsX7_refusalBehind (wsV RX7 111 RX7 yX7_refusalIn wsX7_refusalIn) := goodIn_app (goodIn_of _ (by decide +kernel)) ggX7_refusalBehind_X7_refusalIn
theorem dX7_refusalBehind_0 : decode cX7_refusalBehind 0 = .ok (.iload_n 1, 1) := by decide +kernel
theorem dX7_refusalBehind_1 : decode cX7_refusalBehind 1 = .ok (.aload_n 0, 1) := by decide +kernel
theorem dX7_refusalBehind_2 : decode cX7_refusalBehind 2 = .ok (.getfield 10, 3) := by decide +kernel
theorem dX7_refusalBehind_5 : decode cX7_refusalBehind 5 = .ok (.invokevirtual 83, 3) := by decide +kernel
theorem dX7_refusalBehind_8 : decode cX7_refusalBehind 8 = .ok (.iconst 1, 1) := by decide +kernel
theorem dX7_refusalBehind_9 : decode cX7_refusalBehind 9 = .ok (.isub, 1) := by decide +kernel
theorem dX7_refusalBehind_10 : decode cX7_refusalBehind 10 = .ok (.if_icmp .ne 7, 3) := by decide +kernel
theorem dX7_refusalBehind_13 : decode cX7_refusalBehind 13 = .ok (.iconst (-1), 1) := by decide +kernel
theorem dX7_refusalBehind_14 : decode cX7_refusalBehind 14 = .ok (.goto 9, 3) := by decide +kernel
theorem dX7_refusalBehind_17 : decode cX7_refusalBehind 17 = .ok (.aload_n 0, 1) := by decide +kernel
theorem dX7_refusalBehind_18 : decode cX7_refusalBehind 18 = .ok (.iload_n 1, 1) := by decide +kernel
theorem dX7_refusalBehind_19 : decode cX7_refusalBehind 19 = .ok (.iload_n 2, 1) := by decide +kernel
theorem dX7_refusalBehind_20 : decode cX7_refusalBehind 20 = .ok (.invokevirtual 111, 3) := by decide +kernel
theorem dX7_refusalBehind_23 : decode cX7_refusalBehind 23 = .ok (.ireturn, 1) := by decide +kernel
theorem dX7_isUpTo_0 : decode cX7_isUpTo 0 = .ok (.iload_n 0, 1) := by decide +kernel
theorem dX7_isUpTo_1 : decode cX7_isUpTo 1 = .ok (.ifCond .lt 12, 3) := by decide +kernel
theorem dX7_isUpTo_4 : decode cX7_isUpTo 4 = .ok (.iload_n 0, 1) := by decide +kernel
theorem dX7_isUpTo_5 : decode cX7_isUpTo 5 = .ok (.iload_n 1, 1) := by decide +kernel
theorem dX7_isUpTo_6 : decode cX7_isUpTo 6 = .ok (.if_icmp .gt 7, 3) := by decide +kernel
theorem dX7_isUpTo_9 : decode cX7_isUpTo 9 = .ok (.iconst 1, 1) := by decide +kernel
theorem dX7_isUpTo_10 : decode cX7_isUpTo 10 = .ok (.goto 4, 3) := by decide +kernel
theorem dX7_isUpTo_13 : decode cX7_isUpTo 13 = .ok (.iconst 0, 1) := by decide +kernel
theorem dX7_isUpTo_14 : decode cX7_isUpTo 14 = .ok (.ireturn, 1) := by decide +kernel
set_option maxRecDepth 20000 in
theorem ggX7_isWay_X7_isUpTo : GoodIn wsX7_isWay wsX7_isUpTo := goodIn_r _ [4] (by decide +kernel) (by decide +kernel)
set_option maxRecDepth 20000 in
theorem gX7_isWay_X7_isUpTo : GoodIn wsX7_isWay (va_wsS RX7 119 yX7_isUpTo wsX7_isUpTo) := goodIn_app (goodIn_of _ (by decide +kernel)) ggX7_isWay_X7_isUpTo
theorem dX7_isWay_0 : decode cX7_isWay 0 = .ok (.iload_n 0, 1) := by decide +kernel
theorem dX7_isWay_1 : decode cX7_isWay 1 = .ok (.iconst 2, 1) := by decide +kernel
theorem dX7_isWay_2 : decode cX7_isWay 2 = .ok (.invokestatic 119, 3) := by decide +kernel
theorem dX7_isWay_5 : decode cX7_isWay 5 = .ok (.ireturn, 1) := by decide +kernel
set_option maxRecDepth 20000 in
theorem ggX7_isStart_X7_isUpTo : GoodIn wsX7_isStart wsX7_isUpTo := goodIn_r _ [4] (by decide +kernel) (by decide +kernel)
set_option maxRecDepth 20000 in
theorem gX7_isStart_X7_isUpTo : GoodIn wsX7_isStart (va_wsS RX7 119 yX7_isUpTo wsX7_isUpTo) := goodIn_app (goodIn_of _ (by decide +kernel)) ggX7_isStart_X7_isUpTo
theorem dX7_isStart_0 : decode cX7_isStart 0 = .ok (.iload_n 0, 1) := by decide +kernel
theorem dX7_isStart_1 : decode cX7_isStart 1 = .ok (.bipush 19, 2) := by decide +kernel
theorem dX7_isStart_3 : decode cX7_isStart 3 = .ok (.invokestatic 119, 3) := by decide +kernel
theorem dX7_isStart_6 : decode cX7_isStart 6 = .ok (.ireturn, 1) := by decide +kernel
theorem dX7_isLength_0 : decode cX7_isLength 0 = .ok (.iload_n 0, 1) := by decide +kernel
theorem dX7_isLength_1 : decode cX7_isLength 1 = .ok (.iconst 1, 1) := by decide +kernel
theorem dX7_isLength_2 : decode cX7_isLength 2 = .ok (.if_icmp .lt 13, 3) := by decide +kernel
theorem dX7_isLength_5 : decode cX7_isLength 5 = .ok (.iload_n 0, 1) := by decide +kernel
theorem dX7_isLength_6 : decode cX7_isLength 6 = .ok (.bipush 20, 2) := by decide +kernel
theorem dX7_isLength_8 : decode cX7_isLength 8 = .ok (.if_icmp .gt 7, 3) := by decide +kernel
theorem dX7_isLength_11 : decode cX7_isLength 11 = .ok (.iconst 1, 1) := by decide +kernel
theorem dX7_isLength_12 : decode cX7_isLength 12 = .ok (.goto 4, 3) := by decide +kernel
theorem dX7_isLength_15 : decode cX7_isLength 15 = .ok (.iconst 0, 1) := by decide +kernel
theorem dX7_isLength_16 : decode cX7_isLength 16 = .ok (.ireturn, 1) := by decide +kernel
set_option maxRecDepth 20000 in
theorem ggX7_areRows_X7_isStart : GoodIn wsX7_areRows wsX7_isStart := goodIn_r _ [4, 5, 6, 3, 7] (by decide +kernel) (by decide +kernel)
set_option maxRecDepth 20000 in
theorem gX7_areRows_X7_isStart : GoodIn wsX7_areRows (va_wsS RX7 139 yX7_isStart wsX7_isStart) := goodIn_app (goodIn_of _ (by decide +kernel)) ggX7_areRows_X7_isStart
set_option maxRecDepth 20000 in
theorem ggX7_areRows_X7_isLength : GoodIn wsX7_areRows wsX7_isLength := goodIn_r _ [10] (by decide +kernel) (by decide +kernel)
set_option maxRecDepth 20000 in
theorem gX7_areRows_X7_isLength : GoodIn wsX7_areRows (va_wsS RX7 142 yX7_isLength wsX7_isLength) := goodIn_app (goodIn_of _ (by decide +kernel)) ggX7_areRows_X7_isLength
theorem dX7_areRows_0 : decode cX7_areRows 0 = .ok (.iload_n 0, 1) := by decide +kernel
theorem dX7_areRows_1 : decode cX7_areRows 1 = .ok (.invokestatic 139, 3) := by decide +kernel
theorem dX7_areRows_4 : decode cX7_areRows 4 = .ok (.ifCond .eq 21, 3) := by decide +kernel
theorem dX7_areRows_7 : decode cX7_areRows 7 = .ok (.iload_n 1, 1) := by decide +kernel
theorem dX7_areRows_8 : decode cX7_areRows 8 = .ok (.invokestatic 139, 3) := by decide +kernel
theorem dX7_areRows_11 : decode cX7_areRows 11 = .ok (.ifCond .eq 14, 3) := by decide +kernel
theorem dX7_areRows_14 : decode cX7_areRows 14 = .ok (.iload_n 2, 1) := by decide +kernel
theorem dX7_areRows_15 : decode cX7_areRows 15 = .ok (.invokestatic 142, 3) := by decide +kernel
theorem dX7_areRows_18 : decode cX7_areRows 18 = .ok (.ifCond .eq 7, 3) := by decide +kernel
theorem dX7_areRows_21 : decode cX7_areRows 21 = .ok (.iconst 1, 1) := by decide +kernel
theorem dX7_areRows_22 : decode cX7_areRows 22 = .ok (.goto 4, 3) := by decide +kernel
theorem dX7_areRows_25 : decode cX7_areRows 25 = .ok (.iconst 0, 1) := by decide +kernel
theorem dX7_areRows_26 : decode cX7_areRows 26 = .ok (.ireturn, 1) := by decide +kernel
set_option maxRecDepth 20000 in
theorem ggX7_wasMendedInFirstAlone_X0_staysAsItIs : GoodIn wsX7_wasMendedInFirstAlone wsX0_staysAsItIs := goodIn_r _ [6, 7, 8, 9, 5, 10, 11, 12, 13, 14, 15, 16, 17, 18, 31, 32, 33, 34] (by decide +kernel) (by decide +kernel)
set_option maxRecDepth 20000 in
theorem gX7_wasMendedInFirstAlone_X0_staysAsItIs : GoodIn wsX7_wasMendedInFirstAlone (wsV RX7 230 RX0 yX0_staysAsItIs wsX0_staysAsItIs) := goodIn_app (goodIn_of _ (by decide +kernel)) ggX7_wasMendedInFirstAlone_X0_staysAsItIs
theorem dX7_wasMendedInFirstAlone_0 : decode cX7_wasMendedInFirstAlone 0 = .ok (.aload_n 0, 1) := by decide +kernel
end
section
theorem dX7_wasMendedInFirstAlone_1 : decode cX7_wasMendedInFirstAlone 1 = .ok (.getfield 10, 3) := by decide +kernel
theorem dX7_wasMendedInFirstAlone_4 : decode cX7_wasMendedInFirstAlone 4 = .ok (.iload_n 1, 1) := by decide +kernel
theorem dX7_wasMendedInFirstAlone_5 : decode cX7_wasMendedInFirstAlone 5 = .ok (.iload_n 2, 1) := by decide +kernel
theorem dX7_wasMendedInFirstAlone_6 : decode cX7_wasMendedInFirstAlone 6 = .ok (.invokevirtual 230, 3) := by decide +kernel
theorem dX7_wasMendedInFirstAlone_9 : decode cX7_wasMendedInFirstAlone 9 = .ok (.ifCond .ne 19, 3) := by decide +kernel
theorem dX7_wasMendedInFirstAlone_12 : decode cX7_wasMendedInFirstAlone 12 = .ok (.aload_n 0, 1) := by decide +kernel
theorem dX7_wasMendedInFirstAlone_13 : decode cX7_wasMendedInFirstAlone 13 = .ok (.getfield 10, 3) := by decide +kernel
theorem dX7_wasMendedInFirstAlone_16 : decode cX7_wasMendedInFirstAlone 16 = .ok (.iload_n 1, 1) := by decide +kernel
theorem dX7_wasMendedInFirstAlone_17 : decode cX7_wasMendedInFirstAlone 17 = .ok (.iload_n 3, 1) := by decide +kernel
theorem dX7_wasMendedInFirstAlone_18 : decode cX7_wasMendedInFirstAlone 18 = .ok (.invokevirtual 230, 3) := by decide +kernel
theorem dX7_wasMendedInFirstAlone_21 : decode cX7_wasMendedInFirstAlone 21 = .ok (.ifCond .eq 7, 3) := by decide +kernel
theorem dX7_wasMendedInFirstAlone_24 : decode cX7_wasMendedInFirstAlone 24 = .ok (.iconst 1, 1) := by decide +kernel
theorem dX7_wasMendedInFirstAlone_25 : decode cX7_wasMendedInFirstAlone 25 = .ok (.goto 4, 3) := by decide +kernel
theorem dX7_wasMendedInFirstAlone_28 : decode cX7_wasMendedInFirstAlone 28 = .ok (.iconst 0, 1) := by decide +kernel
theorem dX7_wasMendedInFirstAlone_29 : decode cX7_wasMendedInFirstAlone 29 = .ok (.ireturn, 1) := by decide +kernel
theorem dX7_isName_0 : decode cX7_isName 0 = .ok (.iload_n 0, 1) := by decide +kernel
theorem dX7_isName_1 : decode cX7_isName 1 = .ok (.bipush 97, 2) := by decide +kernel
theorem dX7_isName_3 : decode cX7_isName 3 = .ok (.if_icmp .lt 13, 3) := by decide +kernel
theorem dX7_isName_6 : decode cX7_isName 6 = .ok (.iload_n 0, 1) := by decide +kernel
theorem dX7_isName_7 : decode cX7_isName 7 = .ok (.bipush 122, 2) := by decide +kernel
theorem dX7_isName_9 : decode cX7_isName 9 = .ok (.if_icmp .gt 7, 3) := by decide +kernel
theorem dX7_isName_12 : decode cX7_isName 12 = .ok (.iconst 1, 1) := by decide +kernel
theorem dX7_isName_13 : decode cX7_isName 13 = .ok (.goto 4, 3) := by decide +kernel
theorem dX7_isName_16 : decode cX7_isName 16 = .ok (.iconst 0, 1) := by decide +kernel
theorem dX7_isName_17 : decode cX7_isName 17 = .ok (.ireturn, 1) := by decide +kernel
theorem dX7_isNumber_0 : decode cX7_isNumber 0 = .ok (.iload_n 0, 1) := by decide +kernel
theorem dX7_isNumber_1 : decode cX7_isNumber 1 = .ok (.bipush 48, 2) := by decide +kernel
theorem dX7_isNumber_3 : decode cX7_isNumber 3 = .ok (.if_icmp .lt 13, 3) := by decide +kernel
theorem dX7_isNumber_6 : decode cX7_isNumber 6 = .ok (.iload_n 0, 1) := by decide +kernel
theorem dX7_isNumber_7 : decode cX7_isNumber 7 = .ok (.bipush 57, 2) := by decide +kernel
theorem dX7_isNumber_9 : decode cX7_isNumber 9 = .ok (.if_icmp .gt 7, 3) := by decide +kernel
theorem dX7_isNumber_12 : decode cX7_isNumber 12 = .ok (.iconst 1, 1) := by decide +kernel
theorem dX7_isNumber_13 : decode cX7_isNumber 13 = .ok (.goto 4, 3) := by decide +kernel
theorem dX7_isNumber_16 : decode cX7_isNumber 16 = .ok (.iconst 0, 1) := by decide +kernel
theorem dX7_isNumber_17 : decode cX7_isNumber 17 = .ok (.ireturn, 1) := by decide +kernel
end
section
def nestF : List (String × Nat × String × String × String × String) := [("SameAgain$Slip", 59, "SameAgain$Likeness", "pairing", "LSameAgain$Pairing;", "SameAgain"), ("SameAgain", 208, "SameAgain$Likeness", "pairing", "LSameAgain$Pairing;", "SameAgain"), ("SameAgain", 130, "SameAgain$Likeness", "longestLength", "I", "SameAgain"), ("SameAgain", 133, "SameAgain$Likeness", "longestOne", "I", "SameAgain"), ("SameAgain", 136, "SameAgain$Likeness", "longestOther", "I", "SameAgain"), ("SameAgain", 164, "SameAgain$Procedure", "takenCount", "I", "SameAgain"), ("SameAgain", 167, "SameAgain$Procedure", "takenStarts", "I", "SameAgain"), ("SameAgain$Plan", 67, "SameAgain$Procedure", "takenLines", "I", "SameAgain"), ("SameAgain", 170, "SameAgain$Procedure", "toldCount", "I", "SameAgain"), ("SameAgain$Plan", 64, "SameAgain$Procedure", "saved", "I", "SameAgain"), ("SameAgain", 173, "SameAgain$Procedure", "saved", "I", "SameAgain"), ("SameAgain", 180, "SameAgain$Plan", "bestSaved", "I", "SameAgain"), ("SameAgain", 183, "SameAgain$Plan", "bestStart", "I", "SameAgain"), ("SameAgain", 186, "SameAgain$Plan", "bestLength", "I", "SameAgain"), ("SameAgain", 199, "SameAgain$Slip", "place", "I", "SameAgain"), ("SameAgain", 196, "SameAgain$Slip", "name", "I", "SameAgain")]
def nestM : List (String × Nat × MethodName × String) := [("SameAgain", 9, ⟨"SameAgain$Code", "<init>", "()V"⟩, "SameAgain"), ("SameAgain$Likeness", 11, ⟨"SameAgain$Pairing", "<init>", "()V"⟩, "SameAgain"), ("SameAgain$Likeness", 73, ⟨"SameAgain", "isName", "(I)Z"⟩, "SameAgain"), ("SameAgain$Pairing", 22, ⟨"SameAgain", "isName", "(I)Z"⟩, "SameAgain"), ("SameAgain$Likeness", 81, ⟨"SameAgain", "isNumber", "(I)Z"⟩, "SameAgain"), ("SameAgain$Slip", 52, ⟨"SameAgain", "isName", "(I)Z"⟩, "SameAgain"), ("SameAgain$Distance", 37, ⟨"SameAgain", "isName", "(I)Z"⟩, "SameAgain"), ("SameAgain$Distance", 41, ⟨"SameAgain", "isNumber", "(I)Z"⟩, "SameAgain")]
def NW (U : State) : Prop := (∀ q ∈ nestF, va_Nw (.fieldLinkNest q.1 q.2.1 q.2.2.1 q.2.2.2.1 q.2.2.2.2.1 q.2.2.2.2.2) U) ∧ (∀ q ∈ nestM, va_Nw (.methodLinkNest q.1 q.2.1 q.2.2.1 q.2.2.2) U)
theorem NW.warm {s U : State} (hW : s.WarmedH U.vm) (h : NW s) : NW U := ⟨fun q hq => va_Nw.warmF hW (h.1 q hq), fun q hq => va_Nw.warmM hW (h.2 q hq)⟩
theorem NW.same {u U : State} (e : u.vm = U.vm) (h : NW u) : NW U := ⟨fun q hq => va_Nw.same rfl e (h.1 q hq), fun q hq => va_Nw.same rfl e (h.2 q hq)⟩
/-- what a method knows of the tables: classes, int arrays, boolean arrays, nest mates -/
def mK (D : va_G) (cI cZ : ClassId) (U : State) : Prop := va_K D vwCl [(cI, .int), (cZ, .boolean)] U ∧ NW U
theorem mK.warm {D : va_G} {cI cZ : ClassId} {s U : State} (hW : s.WarmedH U.vm) (h : mK D cI cZ s) : mK D cI cZ U := ⟨va_K.moved hW.alike h.1, h.2.warm hW⟩
/-- a method's start: arguments, world, tables -/
def mPc (av : List Value) (D : va_G) (cI cZ : ClassId) (ws : va_W) : Array Value → State → Prop := fun v U => v = av.toArray ∧ va_P D vwCl ws U.heap ∧ va_D (fun _ => True) ws ∧ mK D cI cZ U
theorem mPc_blind {av : List Value} {D : va_G} {cI cZ : ClassId} {ws : va_W} : FrameBlind (mPc av D cI cZ ws) := fun a U g mk q => ⟨q.1, q.2.1, q.2.2.1, va_K.moved (u := U) (U := U.calling g mk a) (Vm.Alike.refl U.vm) q.2.2.2.1, q.2.2.2.2.same rfl⟩
/-- which cells a method may change: its world's -/
def mA (ws : va_W) : Nat → Prop := fun q => ∃ (k : Nat) (e : va_E), ws[k]? = some (q, e)
/-- a method's end, where it writes: an answer (or none), and its world behind it -/
def mQi {S : Type} (D : va_G) (A : Nat → Prop) (post : Int32 → S → Prop) (Wf : S → va_W) : Array Value → State → Outcome → State → Prop := fun _ st oc t => (∃ (r : Int32) (u : S), oc = .returned (some (.int r)) ∧ post r u ∧ va_P D vwCl (Wf u) t.heap) ∧ va_F A st t
def mQv {S : Type} (D : va_G) (A : Nat → Prop) (post : S → Prop) (Wf : S → va_W) : Array Value → State → Outcome → State → Prop := fun _ st oc t => (∃ (u : S), oc = .returned none ∧ post u ∧ va_P D vwCl (Wf u) t.heap) ∧ va_F A st t
theorem m_pick {ws wc : va_W} {isC : List Nat} (hC : isC.map (fun i => ws[i]?) = wc.map some) {k : Nat} {q : Nat × va_E} (hk : wc[k]? = some q) : ∃ i, isC[k]? = some i ∧ ws[i]? = some q := by
  have h1 : (wc.map some)[k]? = some (some q) := by rw [List.getElem?_map, hk]; rfl
  rw [← hC, List.getElem?_map] at h1
  cases hi : isC[k]? with
  | none => rw [hi] at h1; cases h1
  | some i => rw [hi] at h1; exact ⟨i, rfl, Option.some.inj h1⟩
theorem m_subP {D : va_G} {ws wc : va_W} {H : Heap} {isC : List Nat} (hP : va_P D vwCl ws H) (hC : isC.map (fun i => ws[i]?) = wc.map some) : va_P D vwCl wc H := by
  intro k q hk
  obtain ⟨i, -, hi⟩ := m_pick hC hk
  exact hP i q hi
/-- a world with some of its cells changed -/
def mput : va_W → List Nat → va_W → va_W
  | ws, i :: is, x :: xs => mput (ws.set i x) is xs
  | ws, _, _ => ws
theorem mput_len (ws : va_W) : ∀ (is : List Nat) (xs : va_W), (mput ws is xs).length = ws.length := by
  intro is
  induction is generalizing ws with
  | nil => intro xs; cases xs <;> rfl
  | cons i is ih =>
    intro xs
    cases xs with
    | nil => rfl
    | cons x xs => show (mput (ws.set i x) is xs).length = _; rw [ih, List.length_set]
theorem mput_out (ws : va_W) (k : Nat) : ∀ (is : List Nat) (xs : va_W), k ∉ is → (mput ws is xs)[k]? = ws[k]? := by
  intro is
  induction is generalizing ws with
  | nil => intro xs _; cases xs <;> rfl
  | cons i is ih =>
    intro xs hk
    cases xs with
    | nil => rfl
    | cons x xs =>
      show (mput (ws.set i x) is xs)[k]? = _
      have h1 : i ≠ k := fun h => hk (by rw [h]; exact List.mem_cons_self)
      rw [ih _ _ (fun h => hk (List.mem_cons_of_mem _ h)), List.getElem?_set_ne h1]
theorem mput_in (ws : va_W) : ∀ (is : List Nat) (xs : va_W), va_nd is = true → (∀ i ∈ is, i < ws.length) → is.length = xs.length → ∀ k, k ∈ is → ∃ j : Nat, is[j]? = some k ∧ (mput ws is xs)[k]? = xs[j]? := by
  intro is
  induction is generalizing ws with
  | nil => intro xs _ _ _ k hk; cases hk
  | cons i is ih =>
    intro xs hn hl he k hk
    cases xs with
    | nil => cases he
    | cons x xs =>
      have hn2 : i ∉ is ∧ va_nd is = true := by
        have h := va_nd_inj _ hn
        refine ⟨fun hm => ?_, ?_⟩
        · obtain ⟨j, hj⟩ := List.getElem?_of_mem hm
          have h0 := h 0 (j + 1) i rfl hj
          omega
        · simp only [va_nd, Bool.and_eq_true] at hn
          exact hn.2
      by_cases hki : k = i
      · subst hki
        refine ⟨0, rfl, ?_⟩
        show (mput (ws.set k x) is xs)[k]? = some x
        rw [mput_out _ _ _ _ hn2.1, List.getElem?_set_self (hl k List.mem_cons_self)]
      · have hk2 : k ∈ is := by
          rcases List.mem_cons.mp hk with h | h
          · exact absurd h hki
          · exact h
        obtain ⟨j, h1, h2⟩ := ih (ws.set i x) xs hn2.2 (fun a ha => by rw [List.length_set]; exact hl a (List.mem_cons_of_mem _ ha)) (by simpa using he) k hk2
        exact ⟨j + 1, h1, h2⟩
theorem m_join {D : va_G} {A0 : Nat → Prop} {ws wc w1 : va_W} {H H1 : Heap} {isC : List Nat} (hP : va_P D vwCl ws H) (hD : va_D A0 ws) (hn : va_nd isC = true) (hC : isC.map (fun i => ws[i]?) = wc.map some) (had : w1.map (·.1) = wc.map (·.1)) (h1 : va_P D vwCl w1 H1) (hk : ∀ q : Nat, q < H.size → ¬ mA wc q → H1[q]? = H[q]?) :
    va_P D vwCl (mput ws isC w1) H1 ∧ va_D A0 (mput ws isC w1) := by
  have hlc : isC.length = wc.length := by have := congrArg List.length hC; simpa using this
  have hl1 : w1.length = wc.length := by have := congrArg List.length had; simpa using this
  have hlt : ∀ i ∈ isC, i < ws.length := by
    intro i hi
    obtain ⟨k, hk⟩ := List.getElem?_of_mem hi
    have hkl : k < isC.length := (List.getElem?_eq_some_iff.mp hk).1
    have h2 : (isC.map (fun i => ws[i]?))[k]? = some (ws[i]?) := by rw [List.getElem?_map, hk]; rfl
    rw [hC, List.getElem?_map] at h2
    have h3 : k < wc.length := by omega
    rw [List.getElem?_eq_getElem h3] at h2
    have h4 : ws[i]? = some wc[k] := (Option.some.inj h2).symm
    exact (List.getElem?_eq_some_iff.mp h4).1
  have adr : ∀ (k : Nat) (q : Nat × va_E), (mput ws isC w1)[k]? = some q → ∃ q0 : Nat × va_E, ws[k]? = some q0 ∧ q0.1 = q.1 := by
    intro k q hq
    by_cases hki : k ∈ isC
    · obtain ⟨j, hj, he⟩ := mput_in ws isC w1 hn hlt (by omega) k hki
      rw [he] at hq
      have hjl : j < w1.length := (List.getElem?_eq_some_iff.mp hq).1
      have e1 : (w1.map (·.1))[j]? = some q.1 := by rw [List.getElem?_map, hq]; rfl
      rw [had, List.getElem?_map] at e1
      have hjc : j < wc.length := by omega
      rw [List.getElem?_eq_getElem hjc] at e1
      obtain ⟨i, hi1, hi2⟩ := m_pick hC (List.getElem?_eq_getElem hjc)
      rw [hj] at hi1
      cases hi1
      exact ⟨_, hi2, Option.some.inj e1⟩
    · rw [mput_out _ _ _ _ hki] at hq
      exact ⟨q, hq, rfl⟩
  refine ⟨fun k q hq => ?_, fun i j x y hx hy hxy => ?_, fun k q hq => ?_⟩
  · by_cases hki : k ∈ isC
    · obtain ⟨j, hj, he⟩ := mput_in ws isC w1 hn hlt (by omega) k hki
      rw [he] at hq
      exact h1 j q hq
    · rw [mput_out _ _ _ _ hki] at hq
      refine (hP k q hq).kept (hk q.1 ((hP k q hq).lt) (fun hm => ?_))
      obtain ⟨k2, e, h2⟩ := hm
      obtain ⟨i, hi1, hi2⟩ := m_pick hC h2
      have := hD.1 k i q (q.1, e) hq hi2 rfl
      subst this
      exact hki (List.mem_of_getElem? hi1)
  · obtain ⟨x0, hx0, ex⟩ := adr i x hx
    obtain ⟨y0, hy0, ey⟩ := adr j y hy
    exact hD.1 i j x0 y0 hx0 hy0 (by rw [ex, ey, hxy])
  · obtain ⟨q0, hq0, e0⟩ := adr k q hq
    rw [← e0]
    exact hD.2 k q0 hq0
theorem m_subD {A0 : Nat → Prop} {ws wc : va_W} {isC : List Nat} (hD : va_D A0 ws) (hn : va_nd isC = true) (hC : isC.map (fun i => ws[i]?) = wc.map some) : va_D (fun _ => True) wc := (hD.sub isC hn hC).weaken (fun _ _ _ _ => trivial)
section MRUN
variable {p : Program} {l : Launch} {e : Env} {R : Room} {s : State} {m : MethodId} {args : Array Value} {below : List Frame} {meth : Method} {c : Code} {H : Heap} {locs : List Loc} {cells slots : Nat} {Q : State → Prop}
variable {pc : Nat} {ls : Array Slot} {rest st0 : List Value} {A0 : Nat → Prop} {H0 : Heap} {D : va_G} {cI cZ : ClassId} {ws wc : va_W} {cc bytes : ByteArray} {nL maxL index n : Nat} {own C host : String} {y : MethodName} {ret : Option FieldType} {wsy Ts : List Cond} {rm : Room} {b : Addr} {As : List Value}
theorem m_preV (hK : mK D cI cZ s) (hP : va_P D vwCl ws H) (hD : va_D A0 ws) (isC : List Nat) (hn : va_nd isC = true) (hC : isC.map (fun i => ws[i]?) = wc.map some) {ci : Nat} {fs : List Value} {T : u_T} {N : Nat} (h0 : wc[0]? = some (b, .inr (ci, fs))) (hc : vwCl[ci]? = some (C, T, N)) : PreV s H C b (mPc (.ref b :: As) D cI cZ wc) As :=
  ⟨mPc_blind, va_recv hK.1 (m_subP hP hC) hc h0, fun U hU hW => ⟨rfl, by rw [hU]; exact m_subP hP hC, m_subD hD hn hC, hK.warm hW⟩⟩
theorem m_preS (hK : mK D cI cZ s) (hP : va_P D vwCl ws H) (hD : va_D A0 ws) (isC : List Nat) (hn : va_nd isC = true) (hC : isC.map (fun i => ws[i]?) = wc.map some) : PreS s H (mPc As D cI cZ wc) As :=
  ⟨mPc_blind, fun U hU hW => ⟨rfl, by rw [hU]; exact m_subP hP hC, m_subD hD hn hC, hK.warm hW⟩⟩
theorem m_ofRun {mc ms : Nat} {g : JFrame} {Qa : State → Outcome → State → Prop} {free : Addr → Prop} (h : va_Run p l e R s m args below meth c H locs cells slots mc ms g rest Qa free) : CallRun p l e R s m args below meth c H locs cells slots mc ms g rest Qa free := by
  intro T hT X
  obtain ⟨v, st₀, t, T', L, h0, X', hL, e1, -, hq, st⟩ := h T hT X
  exact ⟨v, st₀, t, T', L, h0, X', hL, e1, hq, st⟩
/-- a call of a method that only reads -/
theorem m_rdV {r : Int32} (S : CallFix p m c cc nL s args Ts own) (hM : Met l y wsy rm (mPc (.ref b :: As) D cI cZ wc) (QcRead r) 0 0 (fun _ => False)) (cw : CallW R s args own C index y bytes maxL ret wsy rm 0 0 n) (hp : PreV s H C b (mPc (.ref b :: As) D cI cZ wc) As) (hn : As.length = n) (hl : ls.size = nL) (hst : st0 = As.reverse ++ .ref b :: rest) (hW : (rest.map fun v => v.category).sum ≤ 8) (hdg : decode cc pc = .ok (.invokevirtual index, 3)) (hf : cells ≤ R.cells ∧ slots ≤ R.slots)
    (kk : W p l e R s m args below meth c H locs cells slots Q (F0 m (pc + 3) ls (.int r :: rest))) : W p l e R s m args below meth c H locs cells slots Q (F0 m pc ls st0) :=
  W.callR (W.runV (g := F0 m pc ls st0) S hM cw hp rfl hn hl hst (lv_room hW) hdg hf) kk
theorem m_rdS {r : Int32} (S : CallFix p m c cc nL s args Ts own) (hM : Met l y wsy rm (mPc As D cI cZ wc) (QcRead r) 0 0 (fun _ => False)) (cw : CallB R s args own index y bytes maxL ret wsy rm 0 0 n ∧ (Cond.static y).before args s = true) (hp : PreS s H (mPc As D cI cZ wc) As) (hn : As.length = n) (hl : ls.size = nL) (hst : st0 = As.reverse ++ rest) (hW : (rest.map fun v => v.category).sum ≤ 8) (hdg : decode cc pc = .ok (.invokestatic index, 3)) (hf : cells ≤ R.cells ∧ slots ≤ R.slots)
    (kk : W p l e R s m args below meth c H locs cells slots Q (F0 m (pc + 3) ls (.int r :: rest))) : W p l e R s m args below meth c H locs cells slots Q (F0 m pc ls st0) :=
  W.callR (W.runS (g := F0 m pc ls st0) S hM cw hp rfl hn hl hst (lv_room hW) hdg hf) kk
theorem m_rdSN {r : Int32} (S : CallFix p m c cc nL s args Ts own) (hM : Met l y wsy rm (mPc As D cI cZ wc) (QcRead r) 0 0 (fun _ => False)) (cw : va_CN R s args own index y host bytes maxL ret wsy rm 0 0 n ∧ (Cond.static y).before args s = true ∧ True) (hp : PreS s H (mPc As D cI cZ wc) As) (hn : As.length = n) (hl : ls.size = nL) (hst : st0 = As.reverse ++ rest) (hW : (rest.map fun v => v.category).sum ≤ 8) (hdg : decode cc pc = .ok (.invokestatic index, 3)) (hf : cells ≤ R.cells ∧ slots ≤ R.slots)
    (kk : W p l e R s m args below meth c H locs cells slots Q (F0 m (pc + 3) ls (.int r :: rest))) : W p l e R s m args below meth c H locs cells slots Q (F0 m pc ls st0) :=
  W.callR (m_ofRun (va_runSN (g := F0 m pc ls st0) S hM cw hp rfl hn hl hst (lv_room hW) hdg hf)) kk
theorem m_free {A0 : Nat → Prop} {ws wc : va_W} {isC : List Nat} (hD : va_D A0 ws) (hC : isC.map (fun i => ws[i]?) = wc.map some) : ∀ q, mA wc q → A0 q := by
  intro q ⟨k, e, h⟩
  obtain ⟨i, -, hi⟩ := m_pick hC h
  exact hD.2 i _ hi
/-- a call of a method that writes: the world behind it -/
theorem m_calli {S : Type} {post : Int32 → S → Prop} {Wf : S → va_W} {a : Array Value} (hr : va_Run p l e R s m args below meth c H locs cells slots 0 0 (F0 m pc ls st0) rest (mQi D (mA wc) post Wf a) (mA wc)) (hP : va_P D vwCl ws H) (hD : va_D A0 ws) (hS : va_S A0 H0 H locs) (isC : List Nat) (hn : va_nd isC = true) (hC : isC.map (fun i => ws[i]?) = wc.map some) (had : ∀ u, (Wf u).map (·.1) = wc.map (·.1)) (ws' : S → va_W) (hset : ∀ u, mput ws isC (Wf u) = ws' u)
    (kk : ∀ (r : Int32) (u : S) (H1 : Heap) (locs1 : List Loc), post r u → va_P D vwCl (ws' u) H1 → va_D A0 (ws' u) → va_S A0 H0 H1 locs1 → W p l e R s m args below meth c H1 locs1 cells slots Q (F0 m (pc + 3) ls (.int r :: rest))) : W p l e R s m args below meth c H locs cells slots Q (F0 m pc ls st0) := by
  intro T hT X
  obtain ⟨v, st₀, t, T', L, h0, X', hL, e1, e2, ⟨⟨r, u, hv, hp, hb⟩, hz, hk⟩, st⟩ := hr T hT X
  cases hv
  rw [h0] at hz hk
  have hfr := m_free hD hC
  obtain ⟨j1, j2⟩ := m_join hP hD hn hC (had u) hb hk
  rw [hset u] at j1 j2
  obtain ⟨t2, a1, b1⟩ := kk r u T'.heap (locs ++ L) hp (by rw [e1]; exact j1) j2
    ⟨Nat.le_trans hS.1 (by rw [e1]; exact hz), fun q h1 h2 => by rw [e1, hk q (Nat.lt_of_lt_of_le h1 hS.1) (fun z => h2 (hfr q z))]; exact hS.2.1 q h1 h2, fun q hq => by
      rcases List.mem_append.mp hq with h | h
      · exact hS.2.2 q h
      · exact hfr _ (hL q h)⟩ T' rfl X'
  exact ⟨t2, st t2 a1, b1⟩
theorem m_callv {S : Type} {post : S → Prop} {Wf : S → va_W} {a : Array Value} (hr : va_Run p l e R s m args below meth c H locs cells slots 0 0 (F0 m pc ls st0) rest (mQv D (mA wc) post Wf a) (mA wc)) (hP : va_P D vwCl ws H) (hD : va_D A0 ws) (hS : va_S A0 H0 H locs) (isC : List Nat) (hn : va_nd isC = true) (hC : isC.map (fun i => ws[i]?) = wc.map some) (had : ∀ u, (Wf u).map (·.1) = wc.map (·.1)) (ws' : S → va_W) (hset : ∀ u, mput ws isC (Wf u) = ws' u)
    (kk : ∀ (u : S) (H1 : Heap) (locs1 : List Loc), post u → va_P D vwCl (ws' u) H1 → va_D A0 (ws' u) → va_S A0 H0 H1 locs1 → W p l e R s m args below meth c H1 locs1 cells slots Q (F0 m (pc + 3) ls rest)) : W p l e R s m args below meth c H locs cells slots Q (F0 m pc ls st0) := by
  intro T hT X
  obtain ⟨v, st₀, t, T', L, h0, X', hL, e1, e2, ⟨⟨u, hv, hp, hb⟩, hz, hk⟩, st⟩ := hr T hT X
  cases hv
  rw [h0] at hz hk
  have hfr := m_free hD hC
  obtain ⟨j1, j2⟩ := m_join hP hD hn hC (had u) hb hk
  rw [hset u] at j1 j2
  obtain ⟨t2, a1, b1⟩ := kk u T'.heap (locs ++ L) hp (by rw [e1]; exact j1) j2
    ⟨Nat.le_trans hS.1 (by rw [e1]; exact hz), fun q h1 h2 => by rw [e1, hk q (Nat.lt_of_lt_of_le h1 hS.1) (fun z => h2 (hfr q z))]; exact hS.2.1 q h1 h2, fun q hq => by
      rcases List.mem_append.mp hq with h | h
      · exact hS.2.2 q h
      · exact hfr _ (hL q h)⟩ T' rfl X'
  exact ⟨t2, st t2 a1, b1⟩
theorem m_wrV {S : Type} {post : Int32 → S → Prop} {Wf : S → va_W} (F : CallFix p m c cc nL s args Ts own) (hM : Met l y wsy rm (mPc (.ref b :: As) D cI cZ wc) (mQi D (mA wc) post Wf) 0 0 (mA wc)) (cw : CallW R s args own C index y bytes maxL ret wsy rm 0 0 n) (hK : mK D cI cZ s) (hP : va_P D vwCl ws H) (hD : va_D A0 ws) (hS : va_S A0 H0 H locs) (isC : List Nat) (hnd : va_nd isC = true) (hC : isC.map (fun i => ws[i]?) = wc.map some) {ci : Nat} {fs : List Value} {T : u_T} {N : Nat} (h0 : wc[0]? = some (b, .inr (ci, fs))) (hc : vwCl[ci]? = some (C, T, N)) (hn : As.length = n) (hl : ls.size = nL) (hst : st0 = As.reverse ++ .ref b :: rest) (hW : (rest.map fun v => v.category).sum ≤ 8) (hdg : decode cc pc = .ok (.invokevirtual index, 3)) (hf : cells ≤ R.cells ∧ slots ≤ R.slots) (had : ∀ u, (Wf u).map (·.1) = wc.map (·.1)) (ws' : S → va_W) (hset : ∀ u, mput ws isC (Wf u) = ws' u)
    (kk : ∀ (r : Int32) (u : S) (H1 : Heap) (locs1 : List Loc), post r u → va_P D vwCl (ws' u) H1 → va_D A0 (ws' u) → va_S A0 H0 H1 locs1 → W p l e R s m args below meth c H1 locs1 cells slots Q (F0 m (pc + 3) ls (.int r :: rest))) : W p l e R s m args below meth c H locs cells slots Q (F0 m pc ls st0) :=
  m_calli (va_runV (g := F0 m pc ls st0) F hM cw (m_preV hK hP hD isC hnd hC h0 hc) rfl hn hl hst (lv_room hW) hdg hf) hP hD hS isC hnd hC had ws' hset kk
theorem m_wvV {S : Type} {post : S → Prop} {Wf : S → va_W} (F : CallFix p m c cc nL s args Ts own) (hM : Met l y wsy rm (mPc (.ref b :: As) D cI cZ wc) (mQv D (mA wc) post Wf) 0 0 (mA wc)) (cw : CallW R s args own C index y bytes maxL ret wsy rm 0 0 n) (hK : mK D cI cZ s) (hP : va_P D vwCl ws H) (hD : va_D A0 ws) (hS : va_S A0 H0 H locs) (isC : List Nat) (hnd : va_nd isC = true) (hC : isC.map (fun i => ws[i]?) = wc.map some) {ci : Nat} {fs : List Value} {T : u_T} {N : Nat} (h0 : wc[0]? = some (b, .inr (ci, fs))) (hc : vwCl[ci]? = some (C, T, N)) (hn : As.length = n) (hl : ls.size = nL) (hst : st0 = As.reverse ++ .ref b :: rest) (hW : (rest.map fun v => v.category).sum ≤ 8) (hdg : decode cc pc = .ok (.invokevirtual index, 3)) (hf : cells ≤ R.cells ∧ slots ≤ R.slots) (had : ∀ u, (Wf u).map (·.1) = wc.map (·.1)) (ws' : S → va_W) (hset : ∀ u, mput ws isC (Wf u) = ws' u)
    (kk : ∀ (u : S) (H1 : Heap) (locs1 : List Loc), post u → va_P D vwCl (ws' u) H1 → va_D A0 (ws' u) → va_S A0 H0 H1 locs1 → W p l e R s m args below meth c H1 locs1 cells slots Q (F0 m (pc + 3) ls rest)) : W p l e R s m args below meth c H locs cells slots Q (F0 m pc ls st0) :=
  m_callv (va_runV (g := F0 m pc ls st0) F hM cw (m_preV hK hP hD isC hnd hC h0 hc) rfl hn hl hst (lv_room hW) hdg hf) hP hD hS isC hnd hC had ws' hset kk
end MRUN
def bI (b : Bool) : Int32 := if b then 1 else 0
section MRET
variable {p : Program} {l : Launch} {e : Env} {R : Room} {s : State} {m : MethodId} {args : Array Value} {below : List Frame} {meth : Method} {c : Code} {H : Heap} {locs : List Loc} {cells slots : Nat}
variable {pc : Nat} {ls : Array Slot} {cc : ByteArray} {D : va_G}
theorem m_ird {v r : Int32} (hx : p.tables.exec = Jvm.exec) (hb : c.code = cc) (hr : meth.sig.returnType = some .int) (hlocks : meth.locks = false) (he : v = r) (hdg : decode cc pc = .ok (.ireturn, 1)) : W p l e R s m args below meth c s.heap [] cells slots (MQ below (QcRead r) args s cells slots (fun _ => False)) (F0 m pc ls [.int v]) :=
  W.iret hx hb hr (fun t ht _ => ⟨by rw [he], ht⟩) (fun q h => by cases h) hdg hlocks
theorem m_zrd {v : Int32} {b2 : Bool} (hx : p.tables.exec = Jvm.exec) (hb : c.code = cc) (hr : meth.sig.returnType = some .boolean) (hlocks : meth.locks = false) (he : v = bI b2) (hdg : decode cc pc = .ok (.ireturn, 1)) : W p l e R s m args below meth c s.heap [] cells slots (MQ below (QcRead (bI b2)) args s cells slots (fun _ => False)) (F0 m pc ls [.int v]) :=
  W.zret hx hb hr (by rw [he]; cases b2 <;> rfl) (fun t ht _ => ⟨by rw [he], ht⟩) (fun q h => by cases h) hdg hlocks
theorem m_iwr {S : Type} {post : Int32 → S → Prop} {Wf : S → va_W} {A : Nat → Prop} {v : Int32} (hx : p.tables.exec = Jvm.exec) (hb : c.code = cc) (hr : meth.sig.returnType = some .int) (hlocks : meth.locks = false) (u : S) (hp : post v u) (hP : va_P D vwCl (Wf u) H) (hS : va_S A s.heap H locs) (hdg : decode cc pc = .ok (.ireturn, 1)) : W p l e R s m args below meth c H locs cells slots (MQ below (mQi D A post Wf) args s cells slots A) (F0 m pc ls [.int v]) :=
  W.iret hx hb hr (fun t ht _ => ⟨⟨v, u, rfl, hp, by rw [ht]; exact hP⟩, hS.F ht⟩) hS.2.2 hdg hlocks
theorem m_zwr {S : Type} {post : Int32 → S → Prop} {Wf : S → va_W} {A : Nat → Prop} {v : Int32} (hx : p.tables.exec = Jvm.exec) (hb : c.code = cc) (hr : meth.sig.returnType = some .boolean) (hlocks : meth.locks = false) (u : S) (hv : v = 0 ∨ v = 1) (hp : post v u) (hP : va_P D vwCl (Wf u) H) (hS : va_S A s.heap H locs) (hdg : decode cc pc = .ok (.ireturn, 1)) : W p l e R s m args below meth c H locs cells slots (MQ below (mQi D A post Wf) args s cells slots A) (F0 m pc ls [.int v]) :=
  W.zret hx hb hr (by rcases hv with h | h <;> (rw [h]; rfl)) (fun t ht _ => ⟨⟨v, u, rfl, hp, by rw [ht]; exact hP⟩, hS.F ht⟩) hS.2.2 hdg hlocks
theorem m_vwr {S : Type} {post : S → Prop} {Wf : S → va_W} {A : Nat → Prop} (hx : p.tables.exec = Jvm.exec) (hb : c.code = cc) (hr : meth.sig.returnType = none) (hlocks : meth.locks = false) (u : S) (hp : post u) (hP : va_P D vwCl (Wf u) H) (hS : va_S A s.heap H locs) (hdg : decode cc pc = .ok (.return_, 1)) : W p l e R s m args below meth c H locs cells slots (MQ below (mQv D A post Wf) args s cells slots A) (F0 m pc ls []) :=
  W.vret hx hb hr (fun t ht _ => ⟨⟨u, rfl, hp, by rw [ht]; exact hP⟩, hS.F ht⟩) hS.2.2 hdg hlocks
end MRET
end
section
/-! plain facts on numbers and arrays, to paste: each family by itself; over the kit's rows on nI and upd -/
/-! ===== order of ints, in all its forms, and through longs ===== -/
theorem fa_lt (a b : Int32) : a < b ↔ a.toInt < b.toInt := Int32.lt_iff_toInt_lt
theorem fa_le (a b : Int32) : a ≤ b ↔ a.toInt ≤ b.toInt := Int32.le_iff_toInt_le
theorem fa_eq (a b : Int32) : a = b ↔ a.toInt = b.toInt := Int32.toInt_inj.symm
theorem fa_lt64 (a b : Int64) : a < b ↔ a.toInt < b.toInt := Int64.lt_iff_toInt_lt
theorem fa_le64 (a b : Int64) : a ≤ b ↔ a.toInt ≤ b.toInt := Int64.le_iff_toInt_le
theorem fa_eq64 (a b : Int64) : a = b ↔ a.toInt = b.toInt := Int64.toInt_inj.symm
/-- a comparison of two ints taken as longs -/
theorem fa_wide_lt (a b : Int32) : a.toInt64 < b.toInt64 ↔ a < b := by rw [fa_lt64, fa_lt, Int32.toInt_toInt64, Int32.toInt_toInt64]
theorem fa_wide_le (a b : Int32) : a.toInt64 ≤ b.toInt64 ↔ a ≤ b := by rw [fa_le64, fa_le, Int32.toInt_toInt64, Int32.toInt_toInt64]
theorem fa_wide_eq (a b : Int32) : a.toInt64 = b.toInt64 ↔ a = b := by rw [fa_eq64, fa_eq, Int32.toInt_toInt64, Int32.toInt_toInt64]
/-- one strict comparison gives all the others -/
theorem fa_of_lt {a b : Int32} (h : a < b) : a ≤ b ∧ ¬ b ≤ a ∧ ¬ b < a ∧ a ≠ b ∧ b ≠ a := by
  rw [fa_lt] at h
  refine ⟨?_, ?_, ?_, ?_, ?_⟩
  · rw [fa_le]; omega
  · rw [fa_le]; omega
  · rw [fa_lt]; omega
  · intro e; rw [fa_eq] at e; omega
  · intro e; rw [fa_eq] at e; omega
theorem fa_of_nlt {a b : Int32} (h : ¬ a < b) : b ≤ a := by
  rw [fa_lt] at h
  rw [fa_le]
  omega
theorem fa_of_nle {a b : Int32} (h : ¬ a ≤ b) : b < a := by
  rw [fa_le] at h
  rw [fa_lt]
  omega
theorem fa_le_ne {a b : Int32} (h : a ≤ b) (h2 : a ≠ b) : a < b := by
  rw [fa_le] at h
  rw [fa_lt]
  have h3 : a.toInt ≠ b.toInt := fun e => h2 ((fa_eq a b).mpr e)
  omega
theorem fa_three (a b : Int32) : a < b ∨ a = b ∨ b < a := by
  rw [fa_lt, fa_lt, fa_eq]
  omega
theorem fa_trans {a b c : Int32} (h : a < b) (h2 : b ≤ c) : a < c := by
  rw [fa_lt] at *
  rw [fa_le] at h2
  omega
/-! ===== small literals as numbers ===== -/
theorem fa_lit (n : Nat) : (OfNat.ofNat n : Int32) = nI n := rfl
theorem fa_litL (n : Nat) : (OfNat.ofNat n : Int64) = lN n := rfl
/-! ===== bits of a number: 'or', masks, one bit ===== -/
theorem fa_and (a b : Nat) : nI a &&& nI b = nI (a &&& b) := by
  apply Int32.toBitVec_inj.1
  show BitVec.ofNat 32 a &&& BitVec.ofNat 32 b = BitVec.ofNat 32 (a &&& b)
  apply BitVec.eq_of_getLsbD_eq
  intro i hi
  simp [hi]
theorem fa_or (a b : Nat) : nI a ||| nI b = nI (a ||| b) := by
  apply Int32.toBitVec_inj.1
  show BitVec.ofNat 32 a ||| BitVec.ofNat 32 b = BitVec.ofNat 32 (a ||| b)
  apply BitVec.eq_of_getLsbD_eq
  intro i hi
  simp [hi]
/-- a remainder by a power of two, as a mask -/
theorem fa_mask (n k : Nat) : nI n &&& nI (2 ^ k - 1) = nI (n % 2 ^ k) := by rw [fa_and, Nat.and_two_pow_sub_one_eq_mod]
/-- 'or' of a high part and a low one that don't meet is their sum -/
theorem fa_or_sum {a k : Nat} (b : Nat) (h : a < 2 ^ k) : nI (2 ^ k * b) ||| nI a = nI (2 ^ k * b + a) := by rw [fa_or, Nat.two_pow_add_eq_or_of_lt h]
/-- one bit, by 'and' with a power of two -/
theorem fa_bit {n j : Nat} (hj : j < 31) : nI n &&& nI (2 ^ j) = 0 ↔ n.testBit j = false := by
  have h2 : (2 : Nat) ^ j < 2 ^ 31 := Nat.pow_lt_pow_right (by decide) hj
  have hle : n &&& 2 ^ j ≤ 2 ^ j := Nat.and_le_right
  have e : n &&& 2 ^ j = 0 ↔ n.testBit j = false := by
    constructor
    · intro h
      have h1 : (n &&& 2 ^ j).testBit j = false := by rw [h]; simp
      rw [Nat.testBit_and] at h1
      first | simpa using h1 | simpa [Nat.testBit_two_pow_self] using h1 | simpa [Nat.testBit_two_pow] using h1
    · intro h
      apply Nat.eq_of_testBit_eq
      intro i
      rw [Nat.testBit_and]
      by_cases hi : j = i
      · subst hi; simp [h]
      · first | (simp [Nat.testBit_two_pow, hi]; done) | (simp [Nat.testBit_two_pow_of_ne hi]; done)
  rw [fa_and]
  constructor
  · intro h
    apply e.mp
    rcases Nat.eq_zero_or_pos (n &&& 2 ^ j) with z | z
    · exact z
    · exact absurd h (nI_ne0 z (Nat.lt_of_le_of_lt hle h2))
  · intro h
    rw [e.mpr h]; exact nI_0
/-- a remainder by a power of two of a number that isn't negative, as Java divides -/
theorem fa_rem {a k : Nat} (ha : a < 2 ^ 31) (hk : k < 31) : nI a - nI a / nI (2 ^ k) * nI (2 ^ k) = nI (a % 2 ^ k) := pk_rem ha (Nat.two_pow_pos k) (Nat.pow_lt_pow_right (by decide) hk)
/-! ===== cuts to a byte, a short ===== -/
theorem fa_byte_xor (x y : Int32) : (x ^^^ y).toInt8 = x.toInt8 ^^^ y.toInt8 := by
  apply Int8.toBitVec_inj.1
  apply BitVec.eq_of_getLsbD_eq
  intro i hi
  first | (simp [hi]; done) | (simp [hi, BitVec.getLsbD_setWidth, BitVec.getLsbD_signExtend]; done)
theorem fa_short_xor (x y : Int32) : (x ^^^ y).toInt16 = x.toInt16 ^^^ y.toInt16 := by
  apply Int16.toBitVec_inj.1
  apply BitVec.eq_of_getLsbD_eq
  intro i hi
  first | (simp [hi]; done) | (simp [hi, BitVec.getLsbD_setWidth, BitVec.getLsbD_signExtend]; done)
/-- the cut to a byte sees the low byte alone -/
theorem fa_byte_low (x : Int32) : (x &&& 255).toInt8 = x.toInt8 := by
  apply Int8.toBitVec_inj.1
  apply BitVec.eq_of_getLsbD_eq
  intro i hi
  have h2 : (255 : Int32).toBitVec.getLsbD i = true := by
    have : ∀ j : Fin 8, (255 : Int32).toBitVec.getLsbD j.val = true := by decide +kernel
    exact this ⟨i, hi⟩
  have h4 : (x &&& 255).toBitVec.getLsbD i = x.toBitVec.getLsbD i := by
    show (x.toBitVec &&& (255 : Int32).toBitVec).getLsbD i = _
    rw [BitVec.getLsbD_and, h2, Bool.and_true]
  have h3 : i < 32 := by omega
  first
    | (show (((x &&& 255).toBitVec).signExtend 8).getLsbD i = (x.toBitVec.signExtend 8).getLsbD i; rw [BitVec.getLsbD_signExtend, BitVec.getLsbD_signExtend, if_pos h3, if_pos h3, h4])
    | (show (((x &&& 255).toBitVec).setWidth 8).getLsbD i = (x.toBitVec.setWidth 8).getLsbD i; rw [BitVec.getLsbD_setWidth, BitVec.getLsbD_setWidth, h4])
    | (simp [hi, h3, h4]; done)
theorem fa_short_low (x : Int32) : (x &&& 65535).toInt16 = x.toInt16 := by
  apply Int16.toBitVec_inj.1
  apply BitVec.eq_of_getLsbD_eq
  intro i hi
  have h2 : (65535 : Int32).toBitVec.getLsbD i = true := by
    have : ∀ j : Fin 16, (65535 : Int32).toBitVec.getLsbD j.val = true := by decide +kernel
    exact this ⟨i, hi⟩
  have h4 : (x &&& 65535).toBitVec.getLsbD i = x.toBitVec.getLsbD i := by
    show (x.toBitVec &&& (65535 : Int32).toBitVec).getLsbD i = _
    rw [BitVec.getLsbD_and, h2, Bool.and_true]
  have h3 : i < 32 := by omega
  first
    | (show (((x &&& 65535).toBitVec).signExtend 16).getLsbD i = (x.toBitVec.signExtend 16).getLsbD i; rw [BitVec.getLsbD_signExtend, BitVec.getLsbD_signExtend, if_pos h3, if_pos h3, h4])
    | (show (((x &&& 65535).toBitVec).setWidth 16).getLsbD i = (x.toBitVec.setWidth 16).getLsbD i; rw [BitVec.getLsbD_setWidth, BitVec.getLsbD_setWidth, h4])
    | (simp [hi, h3, h4]; done)
/-- a small number is its own byte, its own short -/
theorem fa_byte_small {n : Nat} (h : n < 128) : (nI n).toInt8.toInt32 = nI n := by
  have : ∀ j : Fin 128, (nI j.val).toInt8.toInt32 = nI j.val := by decide +kernel
  exact this ⟨n, h⟩
/-! ===== absolute difference ===== -/
theorem fa_absdiff {a b : Nat} (ha : a < 2 ^ 31) (hb : b < 2 ^ 31) : (if nI a < nI b then nI b - nI a else nI a - nI b) = nI (if a < b then b - a else a - b) := by
  by_cases h : a < b
  · rw [if_pos (nI_lt h hb), if_pos h]
    exact pk_sub (Nat.le_of_lt h)
  · rw [if_neg (nI_nlt (Nat.le_of_not_lt h) ha), if_neg h]
    exact pk_sub (Nat.le_of_not_lt h)
/-! ===== an array behind i stores, a conditional store, a row copied ===== -/
/-- f where k < i, what stood there else -/
def fa_fill {α : Type} (f g : Nat → α) (i : Nat) : Nat → α := fun k => if k < i then f k else g k
theorem fa_fill_0 {α : Type} (f g : Nat → α) : fa_fill f g 0 = g := funext fun k => if_neg (Nat.not_lt_zero k)
theorem fa_fill_in {α : Type} {f g : Nat → α} {i k : Nat} (h : k < i) : fa_fill f g i k = f k := if_pos h
theorem fa_fill_out {α : Type} {f g : Nat → α} {i k : Nat} (h : i ≤ k) : fa_fill f g i k = g k := if_neg (Nat.not_lt.mpr h)
theorem fa_fill_succ (f g : Nat → Int32) (i : Nat) : upd (fa_fill f g i) i (f i) = fa_fill f g (i + 1) := by
  funext k
  by_cases e : k = i
  · subst e
    rw [pk_us]
    exact (if_pos (Nat.lt_succ_self k)).symm
  · rw [pk_un e]
    by_cases h : k < i
    · rw [fa_fill_in h, fa_fill_in (Nat.lt_succ_of_lt h)]
    · rw [fa_fill_out (Nat.le_of_not_lt h), fa_fill_out (by omega)]
/-- a store that changes nothing -/
theorem fa_upd_same {f : Nat → Int32} {i : Nat} {x : Int32} (h : f i = x) : upd f i x = f := by
  funext k
  by_cases e : k = i
  · subst e
    rw [pk_us, h]
  · rw [pk_un e]
/-- a store under a condition, told as one -/
theorem fa_upd_if (c : Prop) [Decidable c] (f : Nat → Int32) (i : Nat) (x : Int32) : (if c then upd f i x else f) = upd f i (if c then x else f i) := by
  by_cases h : c
  · rw [if_pos h, if_pos h]
  · rw [if_neg h, if_neg h, fa_upd_same rfl]
/-- two stores at one place, at two -/
theorem fa_upd_twice (f : Nat → Int32) (i : Nat) (x y : Int32) : upd (upd f i x) i y = upd f i y := by
  funext k
  by_cases e : k = i
  · subst e
    rw [pk_us, pk_us]
  · rw [pk_un e, pk_un e, pk_un e]
theorem fa_upd_swap (f : Nat → Int32) {i j : Nat} (h : i ≠ j) (x y : Int32) : upd (upd f i x) j y = upd (upd f j y) i x := by
  funext k
  by_cases e : k = i
  · subst e
    rw [pk_un h, pk_us, pk_us]
  · by_cases e2 : k = j
    · subst e2
      rw [pk_us, pk_un e, pk_us]
    · rw [pk_un e2, pk_un e, pk_un e, pk_un e2]
/-! ===== the first index with a property; a count ===== -/
/-- the first k < n with p k, n if there is none -/
def fa_first (p : Nat → Bool) : Nat → Nat
  | 0 => 0
  | n + 1 => if fa_first p n < n then fa_first p n else if p n then n else n + 1
theorem fa_first_le (p : Nat → Bool) : ∀ n, fa_first p n ≤ n
  | 0 => Nat.le_refl 0
  | n + 1 => by
    have ih := fa_first_le p n
    unfold fa_first
    split
    · omega
    · split
      · omega
      · omega
theorem fa_first_no (p : Nat → Bool) : ∀ n k, k < fa_first p n → p k = false
  | 0, k, h => absurd h (Nat.not_lt_zero k)
  | n + 1, k, h => by
    have ih := fa_first_no p n
    have hl := fa_first_le p n
    unfold fa_first at h
    split at h
    · exact ih k h
    · rename_i h1
      split at h
      · exact ih k (by omega)
      · rename_i h2
        by_cases e : k = n
        · subst e
          exact Bool.eq_false_iff.mpr h2
        · exact ih k (by omega)
theorem fa_first_yes (p : Nat → Bool) : ∀ n, fa_first p n < n → p (fa_first p n) = true
  | 0, h => absurd h (Nat.not_lt_zero _)
  | n + 1, h => by
    have ih := fa_first_yes p n
    have hl := fa_first_le p n
    unfold fa_first at h ⊢
    split at h
    · rename_i h1
      rw [if_pos h1]
      exact ih h1
    · rename_i h1
      rw [if_neg h1]
      split at h
      · rename_i h2
        rw [if_pos h2]
        exact h2
      · omega
/-- how many k < n have p k -/
def fa_cnt (p : Nat → Bool) : Nat → Nat
  | 0 => 0
  | n + 1 => fa_cnt p n + if p n then 1 else 0
theorem fa_cnt_le (p : Nat → Bool) : ∀ n, fa_cnt p n ≤ n
  | 0 => Nat.le_refl 0
  | n + 1 => by
    have ih := fa_cnt_le p n
    unfold fa_cnt
    split
    · omega
    · omega
theorem fa_cnt_yes {p : Nat → Bool} {n : Nat} (h : p n = true) : fa_cnt p (n + 1) = fa_cnt p n + 1 := by rw [fa_cnt, if_pos h]
theorem fa_cnt_no {p : Nat → Bool} {n : Nat} (h : p n = false) : fa_cnt p (n + 1) = fa_cnt p n := by rw [fa_cnt, if_neg (by rw [h]; decide)]; rfl
theorem fa_cnt_cong {p q : Nat → Bool} : ∀ {n : Nat}, (∀ k, k < n → p k = q k) → fa_cnt p n = fa_cnt q n
  | 0, _ => rfl
  | n + 1, h => by rw [fa_cnt, fa_cnt, fa_cnt_cong (fun k hk => h k (Nat.lt_succ_of_lt hk)), h n (Nat.lt_succ_self n)]
/-! ===== an answer carried into a post; a branch on a boolean answer ===== -/
theorem fa_post {α : Type} {P : α → Prop} {x y : α} (h : x = y) (hp : P y) : P x := h ▸ hp
theorem fa_post2 {α β : Type} {P : α → β → Prop} {x y : α} {u v : β} (h : x = y) (h2 : u = v) (hp : P y v) : P x u := h ▸ h2 ▸ hp
theorem fa_bool {r : Int32} {b : Bool} (h : r = if b then 1 else 0) : (r = 0 ↔ b = false) ∧ (¬ r = 0 ↔ b = true) := by
  subst h
  cases b
  · exact ⟨⟨fun _ => rfl, fun _ => rfl⟩, ⟨fun h => absurd rfl h, fun h => absurd h (by decide)⟩⟩
  · exact ⟨⟨fun h => absurd h (by decide), fun h => absurd h (by decide)⟩, ⟨fun _ => rfl, fun _ => by decide⟩⟩
/-- a boolean's narrowing changes nothing -/
theorem fa_bool_and {r : Int32} (h : r = 0 ∨ r = 1) : r &&& 1 = r := by
  rcases h with rfl | rfl
  · decide
  · decide
theorem fa_bool_prop {c : Prop} [Decidable c] {r : Int32} (h : r = if c then 1 else 0) : (r = 0 ↔ ¬ c) ∧ (¬ r = 0 ↔ c) := by
  subst h
  by_cases hc : c
  · rw [if_pos hc]
    exact ⟨⟨fun h => absurd h (by decide), fun h => absurd hc h⟩, ⟨fun _ => hc, fun _ => by decide⟩⟩
  · rw [if_neg hc]
    exact ⟨⟨fun _ => hc, fun _ => rfl⟩, ⟨fun h => absurd rfl h, fun h => absurd h hc⟩⟩
end
section
/-! plain facts to paste, each family by itself; over the kit's nI, lN and upd -/
/-! ===== drawers: more things than places ===== -/
theorem fb_holes : ∀ (m n : Nat) (f : Nat → Nat), (∀ i, i < n → f i < m) → (∀ i j, i < j → j < n → f i ≠ f j) → n ≤ m := by
  intro m
  induction m with
  | zero =>
    intro n f h1 _
    rcases Nat.eq_zero_or_pos n with h | h
    · omega
    · exact absurd (h1 0 h) (Nat.not_lt_zero _)
  | succ m ih =>
    intro n f h1 h2
    by_cases hx : ∃ i, i < n ∧ f i = m
    · obtain ⟨a, ha, hfa⟩ := hx
      have hg := ih (n - 1) (fun i => if i < a then f i else f (i + 1)) (by
        intro i hi
        by_cases q : i < a
        · simp only [if_pos q]
          have b1 := h1 i (by omega)
          have b2 := h2 i a q ha
          omega
        · simp only [if_neg q]
          have b1 := h1 (i + 1) (by omega)
          have b2 := h2 a (i + 1) (by omega) (by omega)
          omega) (by
        intro i j hij hj
        by_cases q : i < a
        · by_cases r : j < a
          · simp only [if_pos q, if_pos r]
            exact h2 i j hij (by omega)
          · simp only [if_pos q, if_neg r]
            exact h2 i (j + 1) (by omega) (by omega)
        · have r : ¬ j < a := by omega
          simp only [if_neg q, if_neg r]
          exact h2 (i + 1) (j + 1) (by omega) (by omega))
      omega
    · have hg := ih n f (fun i hi => by
        have b1 := h1 i hi
        have b2 : f i ≠ m := fun e => hx ⟨i, hi, e⟩
        omega) h2
      omega
/-- two of them in one place -/
theorem fb_twice {m n : Nat} {f : Nat → Nat} (h : ∀ i, i < n → f i < m) (hm : m < n) : ∃ i j, i < j ∧ j < n ∧ f i = f j := by
  refine Classical.byContradiction fun hx => ?_
  have := fb_holes m n f h (fun i j hij hj e => hx ⟨i, j, hij, hj, e⟩)
  omega
/-- as many as places, none twice: each place is taken -/
theorem fb_onto {n : Nat} {f : Nat → Nat} (h : ∀ i, i < n → f i < n) (h2 : ∀ i j, i < j → j < n → f i ≠ f j) {y : Nat} (hy : y < n) : ∃ i, i < n ∧ f i = y := by
  refine Classical.byContradiction fun hx => ?_
  have hne : ∀ i, i < n → f i ≠ y := fun i hi e => hx ⟨i, hi, e⟩
  have := fb_holes (n - 1) n (fun i => if f i < y then f i else f i - 1) (by
    intro i hi
    have b1 := h i hi
    have b2 := hne i hi
    by_cases q : f i < y
    · simp only [if_pos q]; omega
    · simp only [if_neg q]; omega) (by
    intro i j hij hj
    have b1 := hne i (by omega)
    have b2 := hne j hj
    have b3 := h2 i j hij hj
    by_cases q : f i < y
    · by_cases r : f j < y
      · simp only [if_pos q, if_pos r]; exact b3
      · simp only [if_pos q, if_neg r]; omega
    · by_cases r : f j < y
      · simp only [if_neg q, if_pos r]; omega
      · simp only [if_neg q, if_neg r]; omega)
  omega
/-! ===== how many places have a property ===== -/
def fb_ct (p : Nat → Bool) : Nat → Nat
  | 0 => 0
  | n + 1 => fb_ct p n + (if p n then 1 else 0)
theorem fb_ct_succ (p : Nat → Bool) (n : Nat) : fb_ct p (n + 1) = fb_ct p n + (if p n then 1 else 0) := rfl
theorem fb_ct_le (p : Nat → Bool) : ∀ n, fb_ct p n ≤ n
  | 0 => Nat.le_refl _
  | n + 1 => by
    have h := fb_ct_le p n
    rw [fb_ct_succ]
    split <;> omega
theorem fb_ct_step (p : Nat → Bool) (m : Nat) : ∀ n, fb_ct p m ≤ fb_ct p (m + n)
  | 0 => Nat.le_refl _
  | n + 1 => by
    have h := fb_ct_step p m n
    show fb_ct p m ≤ fb_ct p (m + n + 1)
    rw [fb_ct_succ]
    omega
theorem fb_ct_mono (p : Nat → Bool) {m n : Nat} (h : m ≤ n) : fb_ct p m ≤ fb_ct p n := by
  have := fb_ct_step p m (n - m)
  rwa [Nat.add_sub_cancel' h] at this
theorem fb_ct_cong {p q : Nat → Bool} : ∀ {n : Nat}, (∀ k, k < n → p k = q k) → fb_ct p n = fb_ct q n
  | 0, _ => rfl
  | n + 1, h => by
    rw [fb_ct_succ, fb_ct_succ, fb_ct_cong (fun k hk => h k (by omega)), h n (by omega)]
/-- one place changed -/
theorem fb_ct_out (p : Nat → Bool) (b : Bool) {i n : Nat} (h : n ≤ i) : fb_ct (fun k => if k = i then b else p k) n = fb_ct p n :=
  fb_ct_cong fun k hk => if_neg (by omega)
theorem fb_ct_upd (p : Nat → Bool) (b : Bool) {i : Nat} : ∀ {n : Nat}, i < n → fb_ct (fun k => if k = i then b else p k) n + (if p i then 1 else 0) = fb_ct p n + (if b then 1 else 0)
  | 0, h => absurd h (Nat.not_lt_zero i)
  | n + 1, h => by
    rw [fb_ct_succ, fb_ct_succ]
    rcases Nat.lt_or_ge i n with q | q
    · have := fb_ct_upd p b q
      have e : (if n = i then b else p n) = p n := if_neg (by omega)
      rw [e]
      omega
    · have e : i = n := by omega
      subst e
      rw [fb_ct_out p b (Nat.le_refl _)]
      simp only [if_true]
      omega
theorem fb_ct_sub {p q : Nat → Bool} : ∀ {n : Nat}, (∀ k, k < n → p k = true → q k = true) → fb_ct p n ≤ fb_ct q n
  | 0, _ => Nat.le_refl _
  | n + 1, h => by
    have h1 := fb_ct_sub (n := n) (p := p) (q := q) (fun k hk => h k (by omega))
    have h2 := h n (by omega)
    rw [fb_ct_succ, fb_ct_succ]
    cases hp : p n <;> cases hq : q n <;> simp_all <;> omega
theorem fb_ct_or {p q : Nat → Bool} : ∀ {n : Nat}, (∀ k, k < n → ¬ (p k = true ∧ q k = true)) → fb_ct (fun k => p k || q k) n = fb_ct p n + fb_ct q n
  | 0, _ => rfl
  | n + 1, h => by
    have h1 := fb_ct_or (n := n) (p := p) (q := q) (fun k hk => h k (by omega))
    have h2 := h n (by omega)
    rw [fb_ct_succ, fb_ct_succ, fb_ct_succ, h1]
    cases hp : p n <;> cases hq : q n <;> simp_all <;> omega
theorem fb_ct_not (p : Nat → Bool) : ∀ n, fb_ct p n + fb_ct (fun k => !p k) n = n
  | 0 => rfl
  | n + 1 => by
    have h := fb_ct_not p n
    rw [fb_ct_succ, fb_ct_succ]
    cases p n <;> simp <;> omega
theorem fb_ct_split (p : Nat → Bool) (m : Nat) : ∀ n, fb_ct p (m + n) = fb_ct p m + fb_ct (fun k => p (m + k)) n
  | 0 => rfl
  | n + 1 => by
    have h := fb_ct_split p m n
    show fb_ct p (m + n + 1) = _
    rw [fb_ct_succ, fb_ct_succ, h, Nat.add_assoc]
theorem fb_ct_zero {p : Nat → Bool} : ∀ {n : Nat}, fb_ct p n = 0 ↔ ∀ k, k < n → p k = false
  | 0 => ⟨fun _ k hk => absurd hk (Nat.not_lt_zero k), fun _ => rfl⟩
  | n + 1 => by
    have h := fb_ct_zero (p := p) (n := n)
    rw [fb_ct_succ]
    constructor
    · intro e k hk
      have e1 : fb_ct p n = 0 := by omega
      rcases Nat.lt_or_ge k n with q | q
      · exact h.mp e1 k q
      · have ek : k = n := by omega
        subst ek
        cases hp : p k
        · rfl
        · simp [hp] at e
    · intro a
      rw [h.mpr (fun k hk => a k (by omega)), a n (by omega)]
      rfl
theorem fb_ct_pos {p : Nat → Bool} {n : Nat} : 0 < fb_ct p n ↔ ∃ k, k < n ∧ p k = true := by
  constructor
  · intro h
    refine Classical.byContradiction fun hx => ?_
    have := fb_ct_zero.mpr (fun k hk => by
      cases hp : p k
      · rfl
      · exact absurd ⟨k, hk, hp⟩ hx : ∀ k, k < n → p k = false)
    omega
  · rintro ⟨k, hk, hp⟩
    rcases Nat.eq_zero_or_pos (fb_ct p n) with e | e
    · have := fb_ct_zero.mp e k hk
      rw [this] at hp
      cases hp
    · exact e
theorem fb_ct_all {p : Nat → Bool} {n : Nat} : fb_ct p n = n ↔ ∀ k, k < n → p k = true := by
  have h := fb_ct_not p n
  constructor
  · intro e k hk
    have z : fb_ct (fun k => !p k) n = 0 := by omega
    have := fb_ct_zero.mp z k hk
    cases hp : p k
    · simp [hp] at this
    · rfl
  · intro a
    have z : fb_ct (fun k => !p k) n = 0 := fb_ct_zero.mpr (fun k hk => by simp [a k hk])
    omega
/-- the k-th place with the property -/
theorem fb_ct_kth {p : Nat → Bool} {k : Nat} : ∀ {n : Nat}, k < fb_ct p n → ∃ i, i < n ∧ p i = true ∧ fb_ct p i = k
  | 0, h => absurd h (Nat.not_lt_zero k)
  | n + 1, h => by
    rcases Nat.lt_or_ge k (fb_ct p n) with q | q
    · obtain ⟨i, h1, h2⟩ := fb_ct_kth q
      exact ⟨i, by omega, h2⟩
    · rw [fb_ct_succ] at h
      cases hp : p n
      · simp [hp] at h; omega
      · simp [hp] at h
        exact ⟨n, by omega, hp, by omega⟩
theorem fb_ct_kth_one {p : Nat → Bool} {i j : Nat} (hi : p i = true) (hj : p j = true) (e : fb_ct p i = fb_ct p j) : i = j := by
  have key : ∀ a b : Nat, a < b → p a = true → fb_ct p a < fb_ct p b := by
    intro a b hab ha
    have h := fb_ct_mono p (show a + 1 ≤ b from hab)
    rw [fb_ct_succ, ha] at h
    simp at h
    omega
  rcases Nat.lt_trichotomy i j with q | q | q
  · have := key i j q hi; omega
  · exact q
  · have := key j i q hj; omega
/-! ===== sums over a range: one place changed, parts, bounds ===== -/
def fb_sm (f : Nat → Nat) : Nat → Nat
  | 0 => 0
  | n + 1 => fb_sm f n + f n
theorem fb_sm_succ (f : Nat → Nat) (n : Nat) : fb_sm f (n + 1) = fb_sm f n + f n := rfl
theorem fb_sm_cong {f g : Nat → Nat} : ∀ {n : Nat}, (∀ k, k < n → f k = g k) → fb_sm f n = fb_sm g n
  | 0, _ => rfl
  | n + 1, h => by rw [fb_sm_succ, fb_sm_succ, fb_sm_cong (fun k hk => h k (by omega)), h n (by omega)]
theorem fb_sm_out (f : Nat → Nat) (v : Nat) {i n : Nat} (h : n ≤ i) : fb_sm (fun k => if k = i then v else f k) n = fb_sm f n :=
  fb_sm_cong fun k hk => if_neg (by omega)
theorem fb_sm_upd (f : Nat → Nat) (v : Nat) {i : Nat} : ∀ {n : Nat}, i < n → fb_sm (fun k => if k = i then v else f k) n + f i = fb_sm f n + v
  | 0, h => absurd h (Nat.not_lt_zero i)
  | n + 1, h => by
    rw [fb_sm_succ, fb_sm_succ]
    rcases Nat.lt_or_ge i n with q | q
    · have := fb_sm_upd f v q
      have e : (if n = i then v else f n) = f n := if_neg (by omega)
      rw [e]
      omega
    · have e : i = n := by omega
      subst e
      rw [fb_sm_out f v (Nat.le_refl _)]
      simp only [if_true]
      omega
theorem fb_sm_add (f g : Nat → Nat) : ∀ n, fb_sm (fun k => f k + g k) n = fb_sm f n + fb_sm g n
  | 0 => rfl
  | n + 1 => by
    have h := fb_sm_add f g n
    rw [fb_sm_succ, fb_sm_succ, fb_sm_succ, h]
    omega
theorem fb_sm_le {f g : Nat → Nat} : ∀ {n : Nat}, (∀ k, k < n → f k ≤ g k) → fb_sm f n ≤ fb_sm g n
  | 0, _ => Nat.le_refl _
  | n + 1, h => by
    have h1 := fb_sm_le (n := n) (f := f) (g := g) (fun k hk => h k (by omega))
    have h2 := h n (by omega)
    rw [fb_sm_succ, fb_sm_succ]
    omega
theorem fb_sm_const (c : Nat) : ∀ n, fb_sm (fun _ => c) n = n * c
  | 0 => by rw [Nat.zero_mul]; rfl
  | n + 1 => by rw [fb_sm_succ, fb_sm_const c n, Nat.succ_mul]
theorem fb_sm_bound {f : Nat → Nat} {c n : Nat} (h : ∀ k, k < n → f k ≤ c) : fb_sm f n ≤ n * c := by
  rw [← fb_sm_const c n]
  exact fb_sm_le h
theorem fb_sm_mono (f : Nat → Nat) (m : Nat) : ∀ n, fb_sm f m ≤ fb_sm f (m + n)
  | 0 => Nat.le_refl _
  | n + 1 => by
    have h := fb_sm_mono f m n
    show fb_sm f m ≤ fb_sm f (m + n + 1)
    rw [fb_sm_succ]
    omega
theorem fb_sm_part (f : Nat → Nat) {i n : Nat} (h : i < n) : fb_sm f i + f i ≤ fb_sm f n := by
  have := fb_sm_mono f (i + 1) (n - (i + 1))
  rw [fb_sm_succ, show i + 1 + (n - (i + 1)) = n by omega] at this
  exact this
theorem fb_sm_split (f : Nat → Nat) (m : Nat) : ∀ n, fb_sm f (m + n) = fb_sm f m + fb_sm (fun k => f (m + k)) n
  | 0 => rfl
  | n + 1 => by
    have h := fb_sm_split f m n
    show fb_sm f (m + n + 1) = _
    rw [fb_sm_succ, fb_sm_succ, h, Nat.add_assoc]
theorem fb_sm_zero {f : Nat → Nat} {n : Nat} (h : fb_sm f n = 0) : ∀ k, k < n → f k = 0 := fun k hk => by
  have := fb_sm_part f hk
  omega
/-- the same over whole numbers -/
def fb_si (f : Nat → Int) : Nat → Int
  | 0 => 0
  | n + 1 => fb_si f n + f n
theorem fb_si_succ (f : Nat → Int) (n : Nat) : fb_si f (n + 1) = fb_si f n + f n := rfl
theorem fb_si_cong {f g : Nat → Int} : ∀ {n : Nat}, (∀ k, k < n → f k = g k) → fb_si f n = fb_si g n
  | 0, _ => rfl
  | n + 1, h => by rw [fb_si_succ, fb_si_succ, fb_si_cong (fun k hk => h k (by omega)), h n (by omega)]
theorem fb_si_out (f : Nat → Int) (v : Int) {i n : Nat} (h : n ≤ i) : fb_si (fun k => if k = i then v else f k) n = fb_si f n :=
  fb_si_cong fun k hk => if_neg (by omega)
theorem fb_si_upd (f : Nat → Int) (v : Int) {i : Nat} : ∀ {n : Nat}, i < n → fb_si (fun k => if k = i then v else f k) n = fb_si f n - f i + v
  | 0, h => absurd h (Nat.not_lt_zero i)
  | n + 1, h => by
    rw [fb_si_succ, fb_si_succ]
    rcases Nat.lt_or_ge i n with q | q
    · have := fb_si_upd f v q
      have e : (if n = i then v else f n) = f n := if_neg (by omega)
      rw [e]
      omega
    · have e : i = n := by omega
      subst e
      rw [fb_si_out f v (Nat.le_refl _)]
      simp only [if_true]
      omega
theorem fb_si_add (f g : Nat → Int) : ∀ n, fb_si (fun k => f k + g k) n = fb_si f n + fb_si g n
  | 0 => rfl
  | n + 1 => by
    have h := fb_si_add f g n
    rw [fb_si_succ, fb_si_succ, fb_si_succ, h]
    omega
theorem fb_si_sub (f g : Nat → Int) : ∀ n, fb_si (fun k => f k - g k) n = fb_si f n - fb_si g n
  | 0 => rfl
  | n + 1 => by
    have h := fb_si_sub f g n
    rw [fb_si_succ, fb_si_succ, fb_si_succ, h]
    omega
theorem fb_si_mul (c : Int) (f : Nat → Int) : ∀ n, fb_si (fun k => c * f k) n = c * fb_si f n
  | 0 => (Int.mul_zero c).symm
  | n + 1 => by
    have h := fb_si_mul c f n
    rw [fb_si_succ, fb_si_succ, h, Int.mul_add]
theorem fb_si_split (f : Nat → Int) (m : Nat) : ∀ n, fb_si f (m + n) = fb_si f m + fb_si (fun k => f (m + k)) n
  | 0 => (Int.add_zero _).symm
  | n + 1 => by
    have h := fb_si_split f m n
    show fb_si f (m + n + 1) = _
    rw [fb_si_succ, fb_si_succ, h, Int.add_assoc]
theorem fb_si_nat (f : Nat → Nat) : ∀ n, fb_si (fun k => (f k : Int)) n = (fb_sm f n : Int)
  | 0 => rfl
  | n + 1 => by
    have h := fb_si_nat f n
    rw [fb_si_succ, fb_sm_succ, h]
    omega
theorem fb_si_bound {f : Nat → Int} {c : Int} (hc : 0 ≤ c) : ∀ {n : Nat}, (∀ k, k < n → -c ≤ f k ∧ f k ≤ c) → -(n * c) ≤ fb_si f n ∧ fb_si f n ≤ n * c
  | 0, _ => by simp [fb_si]
  | n + 1, h => by
    have h1 := fb_si_bound (n := n) (f := f) hc (fun k hk => h k (by omega))
    have h2 := h n (by omega)
    have e : ((n + 1 : Nat) : Int) * c = n * c + c := by rw [Int.natCast_add, Int.add_mul]; simp
    rw [fb_si_succ, e]
    omega
/-! ===== bits of a long that isn't negative ===== -/
theorem fb_andL (a b : Nat) : lN a &&& lN b = lN (a &&& b) := by
  apply Int64.toBitVec_inj.1
  show BitVec.ofNat 64 a &&& BitVec.ofNat 64 b = BitVec.ofNat 64 (a &&& b)
  apply BitVec.eq_of_getLsbD_eq
  intro i hi
  simp [hi]
theorem fb_orL (a b : Nat) : lN a ||| lN b = lN (a ||| b) := by
  apply Int64.toBitVec_inj.1
  show BitVec.ofNat 64 a ||| BitVec.ofNat 64 b = BitVec.ofNat 64 (a ||| b)
  apply BitVec.eq_of_getLsbD_eq
  intro i hi
  simp [hi]
theorem fb_xorL (a b : Nat) : lN a ^^^ lN b = lN (a ^^^ b) := by
  apply Int64.toBitVec_inj.1
  show BitVec.ofNat 64 a ^^^ BitVec.ofNat 64 b = BitVec.ofNat 64 (a ^^^ b)
  apply BitVec.eq_of_getLsbD_eq
  intro i hi
  simp [hi]
theorem fb_xorI (a b : Nat) : nI a ^^^ nI b = nI (a ^^^ b) := by
  apply Int32.toBitVec_inj.1
  show BitVec.ofNat 32 a ^^^ BitVec.ofNat 32 b = BitVec.ofNat 32 (a ^^^ b)
  apply BitVec.eq_of_getLsbD_eq
  intro i hi
  simp [hi]
theorem fb_maskL (n k : Nat) : lN n &&& lN (2 ^ k - 1) = lN (n % 2 ^ k) := by rw [fb_andL, Nat.and_two_pow_sub_one_eq_mod]
theorem fb_or_sumL {a k : Nat} (b : Nat) (h : a < 2 ^ k) : lN (2 ^ k * b) ||| lN a = lN (2 ^ k * b + a) := by rw [fb_orL, Nat.two_pow_add_eq_or_of_lt h]
theorem fb_lN_inj {a b : Nat} (ha : a < 2 ^ 63) (hb : b < 2 ^ 63) : lN a = lN b ↔ a = b := by
  constructor
  · intro h
    have h1 : (BitVec.ofNat 64 a).toNat = (BitVec.ofNat 64 b).toNat := congrArg (fun x : Int64 => x.toBitVec.toNat) h
    rw [BitVec.toNat_ofNat, BitVec.toNat_ofNat, Nat.mod_eq_of_lt (by omega), Nat.mod_eq_of_lt (by omega)] at h1
    exact h1
  · rintro rfl; rfl
theorem fb_bit_nat (n j : Nat) : n &&& 2 ^ j = 0 ↔ n.testBit j = false := by
  constructor
  · intro h
    have h1 : (n &&& 2 ^ j).testBit j = false := by rw [h]; simp
    rw [Nat.testBit_and] at h1
    simpa using h1
  · intro h
    apply Nat.eq_of_testBit_eq
    intro i
    rw [Nat.testBit_and]
    by_cases hi : j = i
    · subst hi; simp [h]
    · first | (simp [Nat.testBit_two_pow, hi]; done) | (simp [Nat.testBit_two_pow_of_ne hi]; done)
/-- one bit of a long -/
theorem fb_bitL {n j : Nat} (hj : j < 63) : lN n &&& lN (2 ^ j) = 0 ↔ n.testBit j = false := by
  have h2 : (2 : Nat) ^ j < 2 ^ 63 := Nat.pow_lt_pow_right (by decide) hj
  have hle : n &&& 2 ^ j ≤ 2 ^ j := Nat.and_le_right
  rw [fb_andL, ← fb_bit_nat, show (0 : Int64) = lN 0 from rfl]
  exact fb_lN_inj (by omega) (by decide)
/-- a bit set, a bit taken off -/
theorem fb_bit_set (n j i : Nat) : (n ||| 2 ^ j).testBit i = (n.testBit i || decide (i = j)) := by
  rw [Nat.testBit_or]
  by_cases h : j = i
  · subst h; simp
  · have h2 : ¬ i = j := fun e => h e.symm
    first | (simp [Nat.testBit_two_pow, h, h2]; done) | (simp [Nat.testBit_two_pow_of_ne h, h2]; done)
theorem fb_bit_flip (n j i : Nat) : (n ^^^ 2 ^ j).testBit i = (n.testBit i ^^ decide (i = j)) := by
  rw [Nat.testBit_xor]
  by_cases h : j = i
  · subst h; simp
  · have h2 : ¬ i = j := fun e => h e.symm
    first | (simp [Nat.testBit_two_pow, h, h2]; done) | (simp [Nat.testBit_two_pow_of_ne h, h2]; done)
/-! ===== a stretch of an array written over by a function ===== -/
def fb_put {α : Type} (f g : Nat → α) (a n : Nat) : Nat → α := fun k => if a ≤ k ∧ k < a + n then g (k - a) else f k
theorem fb_put_0 {α : Type} (f g : Nat → α) (a : Nat) : fb_put f g a 0 = f := funext fun k => if_neg (by omega)
theorem fb_put_in {α : Type} {f g : Nat → α} {a n k : Nat} (h1 : a ≤ k) (h2 : k < a + n) : fb_put f g a n k = g (k - a) := if_pos ⟨h1, h2⟩
theorem fb_put_out {α : Type} {f g : Nat → α} {a n k : Nat} (h : k < a ∨ a + n ≤ k) : fb_put f g a n k = f k := if_neg (by omega)
theorem fb_put_succ (f g : Nat → Int32) (a n : Nat) : upd (fb_put f g a n) (a + n) (g n) = fb_put f g a (n + 1) := by
  funext k
  by_cases h : k = a + n
  · subst h
    simp [upd, fb_put]
  · by_cases h1 : a ≤ k ∧ k < a + n
    · have h2 : a ≤ k ∧ k < a + (n + 1) := by omega
      simp only [upd, fb_put, if_neg h, if_pos h1, if_pos h2]
    · have h2 : ¬ (a ≤ k ∧ k < a + (n + 1)) := by omega
      simp only [upd, fb_put, if_neg h, if_neg h1, if_neg h2]
/-- .. from the far end down -/
theorem fb_put_down (f g : Nat → Int32) {a n m : Nat} (h : m < n) : upd (fb_put f (fun k => g (k + (m + 1))) (a + (m + 1)) (n - (m + 1))) (a + m) (g m) = fb_put f (fun k => g (k + m)) (a + m) (n - m) := by
  funext k
  by_cases h0 : k = a + m
  · subst h0
    simp only [upd, if_true]
    rw [fb_put_in (by omega) (by omega)]
    exact congrArg g (by omega)
  · simp only [upd, if_neg h0]
    by_cases h1 : a + (m + 1) ≤ k ∧ k < a + (m + 1) + (n - (m + 1))
    · rw [fb_put_in h1.1 h1.2, fb_put_in (by omega) (by omega)]
      exact congrArg g (by omega)
    · rw [fb_put_out (by omega), fb_put_out (by omega)]
theorem fb_put_cong {α : Type} {f f2 g g2 : Nat → α} {a n : Nat} (hf : ∀ k, (k < a ∨ a + n ≤ k) → f k = f2 k) (hg : ∀ k, k < n → g k = g2 k) : fb_put f g a n = fb_put f2 g2 a n := by
  funext k
  by_cases h : a ≤ k ∧ k < a + n
  · rw [fb_put_in h.1 h.2, fb_put_in h.1 h.2, hg _ (by omega)]
  · rw [fb_put_out (by omega), fb_put_out (by omega), hf _ (by omega)]
/-! ===== the least, the first, the best so far; that there is one alone ===== -/
theorem fb_first {p : Nat → Prop} [DecidablePred p] : ∀ {n : Nat}, (∃ i, i < n ∧ p i) → ∃ i, i < n ∧ p i ∧ ∀ j, j < i → ¬ p j
  | 0, h => by obtain ⟨i, hi, -⟩ := h; exact absurd hi (Nat.not_lt_zero i)
  | n + 1, h => by
    by_cases q : ∃ i, i < n ∧ p i
    · obtain ⟨i, h1, h2⟩ := fb_first q
      exact ⟨i, by omega, h2⟩
    · obtain ⟨i, h1, h2⟩ := h
      have e : i = n := by
        rcases Nat.lt_or_ge i n with r | r
        · exact absurd ⟨i, r, h2⟩ q
        · omega
      subst e
      exact ⟨i, by omega, h2, fun j hj hp => q ⟨j, hj, hp⟩⟩
theorem fb_first_one {p : Nat → Prop} {i j : Nat} (hi : p i) (hi2 : ∀ k, k < i → ¬ p k) (hj : p j) (hj2 : ∀ k, k < j → ¬ p k) : i = j := by
  rcases Nat.lt_trichotomy i j with q | q | q
  · exact absurd hi (hj2 i q)
  · exact q
  · exact absurd hj (hi2 j q)
theorem fb_last {p : Nat → Prop} [DecidablePred p] : ∀ {n : Nat}, (∃ i, i < n ∧ p i) → ∃ i, i < n ∧ p i ∧ ∀ j, i < j → j < n → ¬ p j
  | 0, h => by obtain ⟨i, hi, -⟩ := h; exact absurd hi (Nat.not_lt_zero i)
  | n + 1, h => by
    by_cases q : p n
    · exact ⟨n, by omega, q, fun j h1 h2 => by omega⟩
    · obtain ⟨i, h1, h2⟩ := h
      have hi : i < n := by
        rcases Nat.lt_or_ge i n with r | r
        · exact r
        · have e : i = n := by omega
          subst e
          exact absurd h2 q
      obtain ⟨i2, a1, a2, a3⟩ := fb_last (n := n) ⟨i, hi, h2⟩
      refine ⟨i2, by omega, a2, fun j b1 b2 => ?_⟩
      rcases Nat.lt_or_ge j n with r | r
      · exact a3 j b1 r
      · have e : j = n := by omega
        subst e
        exact q
/-- the first greatest -/
theorem fb_best (f : Nat → Int) : ∀ {n : Nat}, 0 < n → ∃ i, i < n ∧ (∀ j, j < n → f j ≤ f i) ∧ ∀ j, j < i → f j < f i
  | 0, h => absurd h (Nat.lt_irrefl 0)
  | 1, _ => ⟨0, by omega, fun j hj => by have e : j = 0 := by omega
                                         subst e; exact Int.le_refl _, fun j hj => absurd hj (Nat.not_lt_zero j)⟩
  | n + 2, _ => by
    obtain ⟨i, h1, h2, h3⟩ := fb_best f (n := n + 1) (by omega)
    by_cases q : f i < f (n + 1)
    · refine ⟨n + 1, by omega, fun j hj => ?_, fun j hj => ?_⟩
      · rcases Nat.lt_or_ge j (n + 1) with r | r
        · have := h2 j r; omega
        · have e : j = n + 1 := by omega
          subst e; exact Int.le_refl _
      · have := h2 j hj; omega
    · refine ⟨i, by omega, fun j hj => ?_, h3⟩
      rcases Nat.lt_or_ge j (n + 1) with r | r
      · exact h2 j r
      · have e : j = n + 1 := by omega
        subst e; omega
theorem fb_best_one {f : Nat → Int} {n i j : Nat} (hi : i < n) (hi2 : ∀ k, k < n → f k ≤ f i) (hi3 : ∀ k, k < i → f k < f i) (hj : j < n) (hj2 : ∀ k, k < n → f k ≤ f j) (hj3 : ∀ k, k < j → f k < f j) : i = j := by
  rcases Nat.lt_trichotomy i j with q | q | q
  · have a := hj3 i q
    have b := hi2 j hj
    omega
  · exact q
  · have a := hi3 j q
    have b := hj2 i hi
    omega
/-- the first least -/
theorem fb_low (f : Nat → Int) {n : Nat} (h : 0 < n) : ∃ i, i < n ∧ (∀ j, j < n → f i ≤ f j) ∧ ∀ j, j < i → f i < f j := by
  obtain ⟨i, h1, h2, h3⟩ := fb_best (fun k => -f k) h
  exact ⟨i, h1, fun j hj => by have := h2 j hj; omega, fun j hj => by have := h3 j hj; omega⟩
/-! ===== signed ints as whole numbers, within bounds ===== -/
theorem fb_rng (x : Int32) : -2147483648 ≤ x.toInt ∧ x.toInt < 2147483648 := by
  have h1 := Int32.le_toInt x
  have h2 := Int32.toInt_lt x
  omega
theorem fb_bmod {z : Int} (h1 : -2147483648 ≤ z) (h2 : z < 2147483648) : z.bmod (2 ^ 32) = z := by
  rw [Int.bmod_eq_of_le (by omega) (by omega)]
theorem fb_addI {x y : Int32} (h1 : -2147483648 ≤ x.toInt + y.toInt) (h2 : x.toInt + y.toInt < 2147483648) : (x + y).toInt = x.toInt + y.toInt := by
  rw [Int32.toInt_add, fb_bmod h1 h2]
theorem fb_subI {x y : Int32} (h1 : -2147483648 ≤ x.toInt - y.toInt) (h2 : x.toInt - y.toInt < 2147483648) : (x - y).toInt = x.toInt - y.toInt := by
  rw [Int32.toInt_sub, fb_bmod h1 h2]
theorem fb_mulI {x y : Int32} (h1 : -2147483648 ≤ x.toInt * y.toInt) (h2 : x.toInt * y.toInt < 2147483648) : (x * y).toInt = x.toInt * y.toInt := by
  rw [Int32.toInt_mul, fb_bmod h1 h2]
theorem fb_negI {x : Int32} (h : x.toInt ≠ -2147483648) : (-x).toInt = -x.toInt := by
  have := fb_rng x
  rw [Int32.toInt_neg, fb_bmod (by omega) (by omega)]
theorem fb_ofI {z : Int} (h1 : -2147483648 ≤ z) (h2 : z < 2147483648) : (Int32.ofInt z).toInt = z := by
  rw [Int32.toInt_ofInt, fb_bmod h1 h2]
theorem fb_asI (x : Int32) : Int32.ofInt x.toInt = x := Int32.ofInt_toInt x
theorem fb_rngL (x : Int64) : -9223372036854775808 ≤ x.toInt ∧ x.toInt < 9223372036854775808 := by
  have h1 := Int64.le_toInt x
  have h2 := Int64.toInt_lt x
  omega
theorem fb_bmodL {z : Int} (h1 : -9223372036854775808 ≤ z) (h2 : z < 9223372036854775808) : z.bmod (2 ^ 64) = z := by
  rw [Int.bmod_eq_of_le (by omega) (by omega)]
theorem fb_addL {x y : Int64} (h1 : -9223372036854775808 ≤ x.toInt + y.toInt) (h2 : x.toInt + y.toInt < 9223372036854775808) : (x + y).toInt = x.toInt + y.toInt := by
  rw [Int64.toInt_add, fb_bmodL h1 h2]
theorem fb_subL {x y : Int64} (h1 : -9223372036854775808 ≤ x.toInt - y.toInt) (h2 : x.toInt - y.toInt < 9223372036854775808) : (x - y).toInt = x.toInt - y.toInt := by
  rw [Int64.toInt_sub, fb_bmodL h1 h2]
theorem fb_mulL {x y : Int64} (h1 : -9223372036854775808 ≤ x.toInt * y.toInt) (h2 : x.toInt * y.toInt < 9223372036854775808) : (x * y).toInt = x.toInt * y.toInt := by
  rw [Int64.toInt_mul, fb_bmodL h1 h2]
/-! ===== cuts of what is narrow already ===== -/
theorem fb_byte {x : Int32} (h1 : -128 ≤ x.toInt) (h2 : x.toInt < 128) : x.toInt8.toInt32 = x := by
  apply Int32.toInt_inj.1
  rw [Int8.toInt_toInt32, Int32.toInt_toInt8, Int.bmod_eq_of_le (by omega) (by omega)]
theorem fb_short {x : Int32} (h1 : -32768 ≤ x.toInt) (h2 : x.toInt < 32768) : x.toInt16.toInt32 = x := by
  apply Int32.toInt_inj.1
  rw [Int16.toInt_toInt32, Int32.toInt_toInt16, Int.bmod_eq_of_le (by omega) (by omega)]
theorem fb_byte_rng (x : Int32) : -128 ≤ x.toInt8.toInt32.toInt ∧ x.toInt8.toInt32.toInt < 128 := by
  rw [Int8.toInt_toInt32]
  have h1 := Int8.le_toInt x.toInt8
  have h2 := Int8.toInt_lt x.toInt8
  omega
theorem fb_short_rng (x : Int32) : -32768 ≤ x.toInt16.toInt32.toInt ∧ x.toInt16.toInt32.toInt < 32768 := by
  rw [Int16.toInt_toInt32]
  have h1 := Int16.le_toInt x.toInt16
  have h2 := Int16.toInt_lt x.toInt16
  omega
theorem fb_byte_twice (x : Int32) : x.toInt8.toInt32.toInt8.toInt32 = x.toInt8.toInt32 := fb_byte (fb_byte_rng x).1 (fb_byte_rng x).2
theorem fb_short_twice (x : Int32) : x.toInt16.toInt32.toInt16.toInt32 = x.toInt16.toInt32 := fb_short (fb_short_rng x).1 (fb_short_rng x).2
theorem fb_char {n : Nat} (h : n < 65536) : (nI n).toUInt32.toUInt16.toUInt32.toInt32 = nI n := by
  apply Int32.toBitVec_inj.1
  apply BitVec.eq_of_toNat_eq
  have e1 : (nI n).toBitVec.toNat = n := by
    show (BitVec.ofNat 32 n).toNat = n
    rw [BitVec.toNat_ofNat, Nat.mod_eq_of_lt (by omega)]
  have e2 : ((nI n).toUInt32.toUInt16.toUInt32).toNat = n := by
    rw [UInt16.toNat_toUInt32, UInt32.toNat_toUInt16]
    show (nI n).toBitVec.toNat % 2 ^ 16 = n
    rw [e1, Nat.mod_eq_of_lt (by omega)]
  rw [e1]
  exact e2
end
section

theorem s_l : ∀ n, n < 32 → ((nI n &&& 31).toBitVec.smod 32).toNat = n := by decide +kernel
theorem bI_t : bI true = 1 := rfl
theorem bI_f : bI false = 0 := rfl
theorem nI_one : nI 1 = 1 := rfl
theorem nI_zero : nI 0 = 0 := rfl
theorem bI_01 (b : Bool) : bI b = 0 ∨ bI b = 1 := by cases b; exact Or.inl rfl; exact Or.inr rfl
theorem nI_01 {n : Nat} (h : n ≤ 1) : nI n = 0 ∨ nI n = 1 := by
  rcases (show n = 0 ∨ n = 1 by omega) with rfl | rfl
  · exact Or.inl rfl
  · exact Or.inr rfl
/-- a row of ints, all of them natural numbers -/
abbrev aN (cA : ClassId) (n : Nat) (z : Nat → Nat) : va_E := .inl (cA, n, .inl (fun j => nI (z j)))
def upN (z : Nat → Nat) (k x : Nat) : Nat → Nat := fun j => if j = k then x else z j
theorem upN_s (z : Nat → Nat) (k x : Nat) : upN z k x k = x := if_pos rfl
theorem upN_n {z : Nat → Nat} {k x j : Nat} (h : j ≠ k) : upN z k x j = z j := if_neg h
theorem upN_upd (z : Nat → Nat) (k x : Nat) : upd (fun j => nI (z j)) k (nI x) = fun j => nI (upN z k x j) := by
  funext j
  unfold upd upN
  by_cases h : j = k
  · rw [if_pos h, if_pos h]
  · rw [if_neg h, if_neg h]
def cpN (f g : Nat → Nat) (sp dp n : Nat) : Nat → Nat := fun k => if dp ≤ k ∧ k < dp + n then f (sp + (k - dp)) else g k
theorem cpN_cpy (f g : Nat → Nat) (sp dp n : Nat) : va_cpy (fun j => nI (f j)) (fun j => nI (g j)) sp dp n = fun j => nI (cpN f g sp dp n j) := by
  funext j
  unfold va_cpy cpN
  by_cases h : dp ≤ j ∧ j < dp + n
  · rw [if_pos h, if_pos h]
  · rw [if_neg h, if_neg h]
theorem m_shlE {a k : Nat} (hk : k < 32) (h : a * 2 ^ k < 2 ^ 32) : nI a <<< (nI k &&& 31) = nI (a * 2 ^ k) := pk_shlN _ k (s_l k hk) h
theorem m_shrE {a k : Nat} (hk : k < 32) (h : a < 2 ^ 31) : nI a >>> (nI k &&& 31) = nI (a >>> k) := by rw [pk_shrN h _ k (s_l k hk), Nat.shiftRight_eq_div_pow]
theorem m_minE {a b : Nat} (ha : a < 2 ^ 31) (hb : b < 2 ^ 31) : (if nI b < nI a then nI b else nI a) = nI (min a b) := by
  by_cases h : b < a
  · rw [if_pos ((nI_ltI hb ha).mpr h), Nat.min_eq_right (Nat.le_of_lt h)]
  · rw [if_neg (fun q => h ((nI_ltI hb ha).mp q)), Nat.min_eq_left (Nat.not_lt.mp h)]
theorem m_maxE {a b : Nat} (ha : a < 2 ^ 31) (hb : b < 2 ^ 31) : (if nI a < nI b then nI b else nI a) = nI (max a b) := by
  by_cases h : a < b
  · rw [if_pos ((nI_ltI ha hb).mpr h), Nat.max_eq_right (Nat.le_of_lt h)]
  · rw [if_neg (fun q => h ((nI_ltI ha hb).mp q)), Nat.max_eq_left (Nat.not_lt.mp h)]
section MROW
variable {p : Program} {l : Launch} {e : Env} {R : Room} {s : State} {m : MethodId} {args : Array Value} {below : List Frame} {meth : Method} {c : Code} {H : Heap} {locs : List Loc} {cells slots : Nat} {Q : State → Prop}
variable {cc : ByteArray} {pc : Nat} {ls : Array Slot} {rest : List Value} {D : va_G} {cI cZ : ClassId} {A : Nat → Prop} {ws : va_W} {H0 : Heap}
theorem m_top {x y : Int32} (h : x = y) (k : W p l e R s m args below meth c H locs cells slots Q (F0 m (pc) ls (.int y :: rest))) : W p l e R s m args below meth c H locs cells slots Q (F0 m (pc) ls (.int x :: rest)) := h ▸ k
theorem m_add (hx : p.tables.exec = Jvm.exec) (hb : c.code = cc) {a b : Nat} (hd : decode cc pc = .ok (.iadd, 1)) (k : W p l e R s m args below meth c H locs cells slots Q (F0 m (pc + 1) ls (.int (nI (a + b)) :: rest))) : W p l e R s m args below meth c H locs cells slots Q (F0 m (pc) ls (.int (nI b) :: .int (nI a) :: rest)) := lv_iadd hx hb hd (by rw [nI_add]; exact k)
theorem m_sub (hx : p.tables.exec = Jvm.exec) (hb : c.code = cc) {a b : Nat} (h : b ≤ a) (hd : decode cc pc = .ok (.isub, 1)) (k : W p l e R s m args below meth c H locs cells slots Q (F0 m (pc + 1) ls (.int (nI (a - b)) :: rest))) : W p l e R s m args below meth c H locs cells slots Q (F0 m (pc) ls (.int (nI b) :: .int (nI a) :: rest)) := lv_isub hx hb hd (by rw [pk_sub h]; exact k)
theorem m_mul (hx : p.tables.exec = Jvm.exec) (hb : c.code = cc) {a b : Nat} (hd : decode cc pc = .ok (.imul, 1)) (k : W p l e R s m args below meth c H locs cells slots Q (F0 m (pc + 1) ls (.int (nI (a * b)) :: rest))) : W p l e R s m args below meth c H locs cells slots Q (F0 m (pc) ls (.int (nI b) :: .int (nI a) :: rest)) := lv_imul hx hb hd (by rw [pk_mul]; exact k)
theorem m_div (hx : p.tables.exec = Jvm.exec) (hb : c.code = cc) {a b : Nat} (ha : a < 2 ^ 31) (h0 : 0 < b) (h1 : b < 2 ^ 31) (hd : decode cc pc = .ok (.idiv, 1)) (k : W p l e R s m args below meth c H locs cells slots Q (F0 m (pc + 1) ls (.int (nI (a / b)) :: rest))) : W p l e R s m args below meth c H locs cells slots Q (F0 m (pc) ls (.int (nI b) :: .int (nI a) :: rest)) := lv_idiv hx hb hd (nI_ne0 h0 h1) (by rw [pk_div ha h0 h1]; exact k)
theorem m_rem (hx : p.tables.exec = Jvm.exec) (hb : c.code = cc) {a b : Nat} (ha : a < 2 ^ 31) (h0 : 0 < b) (h1 : b < 2 ^ 31) (hd : decode cc pc = .ok (.irem, 1)) (k : W p l e R s m args below meth c H locs cells slots Q (F0 m (pc + 1) ls (.int (nI (a % b)) :: rest))) : W p l e R s m args below meth c H locs cells slots Q (F0 m (pc) ls (.int (nI b) :: .int (nI a) :: rest)) := lv_irem hx hb hd (nI_ne0 h0 h1) (by rw [pk_rem ha h0 h1]; exact k)
theorem m_and (hx : p.tables.exec = Jvm.exec) (hb : c.code = cc) {a b : Nat} (hd : decode cc pc = .ok (.iand, 1)) (k : W p l e R s m args below meth c H locs cells slots Q (F0 m (pc + 1) ls (.int (nI (a &&& b)) :: rest))) : W p l e R s m args below meth c H locs cells slots Q (F0 m (pc) ls (.int (nI b) :: .int (nI a) :: rest)) := lv_iand hx hb hd (by rw [fa_and]; exact k)
theorem m_or (hx : p.tables.exec = Jvm.exec) (hb : c.code = cc) {a b : Nat} (hd : decode cc pc = .ok (.ior, 1)) (k : W p l e R s m args below meth c H locs cells slots Q (F0 m (pc + 1) ls (.int (nI (a ||| b)) :: rest))) : W p l e R s m args below meth c H locs cells slots Q (F0 m (pc) ls (.int (nI b) :: .int (nI a) :: rest)) := lv_ior hx hb hd (by rw [fa_or]; exact k)
theorem m_shl (hx : p.tables.exec = Jvm.exec) (hb : c.code = cc) {a b : Nat} (h1 : b < 32) (h2 : a * 2 ^ b < 2 ^ 32) (hd : decode cc pc = .ok (.ishl, 1)) (k : W p l e R s m args below meth c H locs cells slots Q (F0 m (pc + 1) ls (.int (nI (a * 2 ^ b)) :: rest))) : W p l e R s m args below meth c H locs cells slots Q (F0 m (pc) ls (.int (nI b) :: .int (nI a) :: rest)) := lv_ishl hx hb hd (by rw [m_shlE h1 h2]; exact k)
theorem m_shl1 (hx : p.tables.exec = Jvm.exec) (hb : c.code = cc) {b : Nat} (h1 : b < 31) (hd : decode cc pc = .ok (.ishl, 1)) (k : W p l e R s m args below meth c H locs cells slots Q (F0 m (pc + 1) ls (.int (nI (2 ^ b)) :: rest))) : W p l e R s m args below meth c H locs cells slots Q (F0 m (pc) ls (.int (nI b) :: .int (nI 1) :: rest)) := lv_ishl hx hb hd (by rw [m_shlE (show b < 32 by omega) (by rw [Nat.one_mul]; exact Nat.pow_lt_pow_right (by omega) (by omega)), Nat.one_mul]; exact k)
theorem m_shr (hx : p.tables.exec = Jvm.exec) (hb : c.code = cc) {a b : Nat} (h1 : b < 32) (h2 : a < 2 ^ 31) (hd : decode cc pc = .ok (.ishr, 1)) (k : W p l e R s m args below meth c H locs cells slots Q (F0 m (pc + 1) ls (.int (nI (a >>> b)) :: rest))) : W p l e R s m args below meth c H locs cells slots Q (F0 m (pc) ls (.int (nI b) :: .int (nI a) :: rest)) := lv_ishr hx hb hd (by rw [m_shrE h1 h2]; exact k)
theorem m_cmp_eq (hx : p.tables.exec = Jvm.exec) (hb : c.code = cc) {a b : Nat} {off : Int} {tgt : Nat} (hd : decode cc pc = .ok (.if_icmp .eq off, 3)) (ht : (pc : Int) + off = (tgt : Int)) (ha : a < 2 ^ 31) (hb2 : b < 2 ^ 31) (kt : a = b → W p l e R s m args below meth c H locs cells slots Q (F0 m (tgt) ls (rest))) (kf : a ≠ b → W p l e R s m args below meth c H locs cells slots Q (F0 m (pc + 3) ls (rest))) : W p l e R s m args below meth c H locs cells slots Q (F0 m (pc) ls (.int (nI b) :: .int (nI a) :: rest)) := lv_icmp_eq hx hb hd ht (fun h => kt ((nI_eq ha hb2).mp h)) (fun h => kf (fun q => h ((nI_eq ha hb2).mpr q)))
theorem m_cmp_ne (hx : p.tables.exec = Jvm.exec) (hb : c.code = cc) {a b : Nat} {off : Int} {tgt : Nat} (hd : decode cc pc = .ok (.if_icmp .ne off, 3)) (ht : (pc : Int) + off = (tgt : Int)) (ha : a < 2 ^ 31) (hb2 : b < 2 ^ 31) (kt : a ≠ b → W p l e R s m args below meth c H locs cells slots Q (F0 m (tgt) ls (rest))) (kf : a = b → W p l e R s m args below meth c H locs cells slots Q (F0 m (pc + 3) ls (rest))) : W p l e R s m args below meth c H locs cells slots Q (F0 m (pc) ls (.int (nI b) :: .int (nI a) :: rest)) := lv_icmp_ne hx hb hd ht (fun h => kt (fun q => h ((nI_eq ha hb2).mpr q))) (fun h => kf ((nI_eq ha hb2).mp h))
theorem m_cmp_lt (hx : p.tables.exec = Jvm.exec) (hb : c.code = cc) {a b : Nat} {off : Int} {tgt : Nat} (hd : decode cc pc = .ok (.if_icmp .lt off, 3)) (ht : (pc : Int) + off = (tgt : Int)) (ha : a < 2 ^ 31) (hb2 : b < 2 ^ 31) (kt : a < b → W p l e R s m args below meth c H locs cells slots Q (F0 m (tgt) ls (rest))) (kf : b ≤ a → W p l e R s m args below meth c H locs cells slots Q (F0 m (pc + 3) ls (rest))) : W p l e R s m args below meth c H locs cells slots Q (F0 m (pc) ls (.int (nI b) :: .int (nI a) :: rest)) := lv_icmp_lt hx hb hd ht (fun h => kt ((nI_ltI ha hb2).mp h)) (fun h => kf (Nat.not_lt.mp fun q => h ((nI_ltI ha hb2).mpr q)))
theorem m_cmp_ge (hx : p.tables.exec = Jvm.exec) (hb : c.code = cc) {a b : Nat} {off : Int} {tgt : Nat} (hd : decode cc pc = .ok (.if_icmp .ge off, 3)) (ht : (pc : Int) + off = (tgt : Int)) (ha : a < 2 ^ 31) (hb2 : b < 2 ^ 31) (kt : b ≤ a → W p l e R s m args below meth c H locs cells slots Q (F0 m (tgt) ls (rest))) (kf : a < b → W p l e R s m args below meth c H locs cells slots Q (F0 m (pc + 3) ls (rest))) : W p l e R s m args below meth c H locs cells slots Q (F0 m (pc) ls (.int (nI b) :: .int (nI a) :: rest)) := lv_icmp_ge hx hb hd ht (fun h => kt ((nI_leI hb2 ha).mp h)) (fun h => kf (Nat.not_le.mp fun q => h ((nI_leI hb2 ha).mpr q)))
theorem m_cmp_gt (hx : p.tables.exec = Jvm.exec) (hb : c.code = cc) {a b : Nat} {off : Int} {tgt : Nat} (hd : decode cc pc = .ok (.if_icmp .gt off, 3)) (ht : (pc : Int) + off = (tgt : Int)) (ha : a < 2 ^ 31) (hb2 : b < 2 ^ 31) (kt : b < a → W p l e R s m args below meth c H locs cells slots Q (F0 m (tgt) ls (rest))) (kf : a ≤ b → W p l e R s m args below meth c H locs cells slots Q (F0 m (pc + 3) ls (rest))) : W p l e R s m args below meth c H locs cells slots Q (F0 m (pc) ls (.int (nI b) :: .int (nI a) :: rest)) := lv_icmp_gt hx hb hd ht (fun h => kt ((nI_ltI hb2 ha).mp h)) (fun h => kf (Nat.not_lt.mp fun q => h ((nI_ltI hb2 ha).mpr q)))
theorem m_cmp_le (hx : p.tables.exec = Jvm.exec) (hb : c.code = cc) {a b : Nat} {off : Int} {tgt : Nat} (hd : decode cc pc = .ok (.if_icmp .le off, 3)) (ht : (pc : Int) + off = (tgt : Int)) (ha : a < 2 ^ 31) (hb2 : b < 2 ^ 31) (kt : a ≤ b → W p l e R s m args below meth c H locs cells slots Q (F0 m (tgt) ls (rest))) (kf : b < a → W p l e R s m args below meth c H locs cells slots Q (F0 m (pc + 3) ls (rest))) : W p l e R s m args below meth c H locs cells slots Q (F0 m (pc) ls (.int (nI b) :: .int (nI a) :: rest)) := lv_icmp_le hx hb hd ht (fun h => kt ((nI_leI ha hb2).mp h)) (fun h => kf (Nat.not_le.mp fun q => h ((nI_leI ha hb2).mpr q)))
theorem m_if_eq (hx : p.tables.exec = Jvm.exec) (hb : c.code = cc) {a : Nat} {off : Int} {tgt : Nat} (hd : decode cc pc = .ok (.ifCond .eq off, 3)) (ht : (pc : Int) + off = (tgt : Int)) (ha : a < 2 ^ 31) (kt : a = 0 → W p l e R s m args below meth c H locs cells slots Q (F0 m (tgt) ls (rest))) (kf : a ≠ 0 → W p l e R s m args below meth c H locs cells slots Q (F0 m (pc + 3) ls (rest))) : W p l e R s m args below meth c H locs cells slots Q (F0 m (pc) ls (.int (nI a) :: rest)) := lv_if_eq hx hb hd ht (fun h => kt ((nI_eq ha (show (0 : Nat) < 2 ^ 31 by decide)).mp h)) (fun h => kf (fun q => h ((nI_eq ha (show (0 : Nat) < 2 ^ 31 by decide)).mpr q)))
theorem m_if_ne (hx : p.tables.exec = Jvm.exec) (hb : c.code = cc) {a : Nat} {off : Int} {tgt : Nat} (hd : decode cc pc = .ok (.ifCond .ne off, 3)) (ht : (pc : Int) + off = (tgt : Int)) (ha : a < 2 ^ 31) (kt : a ≠ 0 → W p l e R s m args below meth c H locs cells slots Q (F0 m (tgt) ls (rest))) (kf : a = 0 → W p l e R s m args below meth c H locs cells slots Q (F0 m (pc + 3) ls (rest))) : W p l e R s m args below meth c H locs cells slots Q (F0 m (pc) ls (.int (nI a) :: rest)) := lv_if_ne hx hb hd ht (fun h => kt (fun q => h ((nI_eq ha (show (0 : Nat) < 2 ^ 31 by decide)).mpr q))) (fun h => kf ((nI_eq ha (show (0 : Nat) < 2 ^ 31 by decide)).mp h))
theorem m_if_le (hx : p.tables.exec = Jvm.exec) (hb : c.code = cc) {a : Nat} {off : Int} {tgt : Nat} (hd : decode cc pc = .ok (.ifCond .le off, 3)) (ht : (pc : Int) + off = (tgt : Int)) (ha : a < 2 ^ 31) (kt : a = 0 → W p l e R s m args below meth c H locs cells slots Q (F0 m (tgt) ls (rest))) (kf : 0 < a → W p l e R s m args below meth c H locs cells slots Q (F0 m (pc + 3) ls (rest))) : W p l e R s m args below meth c H locs cells slots Q (F0 m (pc) ls (.int (nI a) :: rest)) := lv_if_le hx hb hd ht (fun h => kt (Nat.le_zero.mp ((nI_leI ha (show (0 : Nat) < 2 ^ 31 by decide)).mp h))) (fun h => kf (Nat.not_le.mp fun q => h ((nI_leI ha (show (0 : Nat) < 2 ^ 31 by decide)).mpr q)))
theorem m_if_gt (hx : p.tables.exec = Jvm.exec) (hb : c.code = cc) {a : Nat} {off : Int} {tgt : Nat} (hd : decode cc pc = .ok (.ifCond .gt off, 3)) (ht : (pc : Int) + off = (tgt : Int)) (ha : a < 2 ^ 31) (kt : 0 < a → W p l e R s m args below meth c H locs cells slots Q (F0 m (tgt) ls (rest))) (kf : a = 0 → W p l e R s m args below meth c H locs cells slots Q (F0 m (pc + 3) ls (rest))) : W p l e R s m args below meth c H locs cells slots Q (F0 m (pc) ls (.int (nI a) :: rest)) := lv_if_gt hx hb hd ht (fun h => kt ((nI_ltI (show (0 : Nat) < 2 ^ 31 by decide) ha).mp h)) (fun h => kf (Nat.le_zero.mp (Nat.not_lt.mp fun q => h ((nI_ltI (show (0 : Nat) < 2 ^ 31 by decide) ha).mpr q))))
theorem m_if_lt (hx : p.tables.exec = Jvm.exec) (hb : c.code = cc) {a : Nat} {off : Int} (hd : decode cc pc = .ok (.ifCond .lt off, 3)) {tgt : Nat} (ht : (pc : Int) + off = (tgt : Int)) (ha : a < 2 ^ 31) (kf : W p l e R s m args below meth c H locs cells slots Q (F0 m (pc + 3) ls (rest))) : W p l e R s m args below meth c H locs cells slots Q (F0 m (pc) ls (.int (nI a) :: rest)) := lv_if_lt hx hb hd ht (fun h => absurd h (nI_pos ha)) (fun _ => kf)
theorem m_if_ge (hx : p.tables.exec = Jvm.exec) (hb : c.code = cc) {a : Nat} {off : Int} (hd : decode cc pc = .ok (.ifCond .ge off, 3)) {tgt : Nat} (ht : (pc : Int) + off = (tgt : Int)) (ha : a < 2 ^ 31) (kt : W p l e R s m args below meth c H locs cells slots Q (F0 m (tgt) ls (rest))) : W p l e R s m args below meth c H locs cells slots Q (F0 m (pc) ls (.int (nI a) :: rest)) := lv_if_ge hx hb hd ht (fun _ => kt) (fun h => absurd (nI_pos' ha) h)
theorem bI_eq0 {b : Bool} (h : bI b = 0) : b = false := by cases b; rfl; exact absurd h (by decide)
theorem bI_ne0 {b : Bool} (h : ¬ bI b = 0) : b = true := by cases b; exact absurd rfl h; rfl
theorem m_ifB_eq (hx : p.tables.exec = Jvm.exec) (hb : c.code = cc) {b : Bool} {off : Int} {tgt : Nat} (hd : decode cc pc = .ok (.ifCond .eq off, 3)) (ht : (pc : Int) + off = (tgt : Int)) (kt : b = false → W p l e R s m args below meth c H locs cells slots Q (F0 m (tgt) ls (rest))) (kf : b = true → W p l e R s m args below meth c H locs cells slots Q (F0 m (pc + 3) ls (rest))) : W p l e R s m args below meth c H locs cells slots Q (F0 m (pc) ls (.int (bI b) :: rest)) := lv_if_eq hx hb hd ht (fun h => kt (bI_eq0 h)) (fun h => kf (bI_ne0 h))
theorem m_ifB_ne (hx : p.tables.exec = Jvm.exec) (hb : c.code = cc) {b : Bool} {off : Int} {tgt : Nat} (hd : decode cc pc = .ok (.ifCond .ne off, 3)) (ht : (pc : Int) + off = (tgt : Int)) (kt : b = true → W p l e R s m args below meth c H locs cells slots Q (F0 m (tgt) ls (rest))) (kf : b = false → W p l e R s m args below meth c H locs cells slots Q (F0 m (pc + 3) ls (rest))) : W p l e R s m args below meth c H locs cells slots Q (F0 m (pc) ls (.int (bI b) :: rest)) := lv_if_ne hx hb hd ht (fun h => kt (bI_ne0 h)) (fun h => kf (bI_eq0 h))
theorem m_ald (hx : p.tables.exec = Jvm.exec) (hb : c.code = cc) (hK : mK D cI cZ s) (hP : va_P D vwCl ws H) (q0 : Nat) {a n t : Nat} {z : Nat → Nat} (ha : ws[q0]? = some (a, aN cI n z)) (hn : n < 2 ^ 31) (ht : t < n) (hd : decode cc pc = .ok (.iaload, 1)) (k : W p l e R s m args below meth c H locs cells slots Q (F0 m (pc + 1) ls (.int (nI (z t)) :: rest))) : W p l e R s m args below meth c H locs cells slots Q (F0 m (pc) ls (.int (nI t) :: .ref a :: rest)) := va_iald hx hb hK.1 hP q0 0 ha rfl (vp_in_nI ht hn) hd (by rw [nI_clamp (Nat.lt_trans ht hn)]; exact k)
theorem m_zld (hx : p.tables.exec = Jvm.exec) (hb : c.code = cc) (hK : mK D cI cZ s) (hP : va_P D vwCl ws H) (q0 : Nat) {a n t : Nat} {z : Nat → Nat} (ha : ws[q0]? = some (a, aN cZ n z)) (hn : n < 2 ^ 31) (ht : t < n) (hd : decode cc pc = .ok (.baload, 1)) (k : W p l e R s m args below meth c H locs cells slots Q (F0 m (pc + 1) ls (.int (nI (z t)) :: rest))) : W p l e R s m args below meth c H locs cells slots Q (F0 m (pc) ls (.int (nI t) :: .ref a :: rest)) := va_zald hx hb hK.1 hP q0 1 ha rfl (vp_in_nI ht hn) hd (by rw [nI_clamp (Nat.lt_trans ht hn)]; exact k)
theorem m_ast (hx : p.tables.exec = Jvm.exec) (hb : c.code = cc) (hK : mK D cI cZ s) (hP : va_P D vwCl ws H) (hD : va_D A ws) (hS : va_S A H0 H locs) (q0 : Nat) {a n t x : Nat} {z : Nat → Nat} (ha : ws[q0]? = some (a, aN cI n z)) (hn : n < 2 ^ 31) (ht : t < n) (hd : decode cc pc = .ok (.iastore, 1)) {ws' : va_W} (hset : ws.set q0 (a, aN cI n (upN z t x)) = ws') (k : ∀ (H1 : Heap) (locs1 : List Loc), va_P D vwCl ws' H1 → va_D A ws' → va_S A H0 H1 locs1 → W p l e R s m args below meth c H1 locs1 cells slots Q (F0 m (pc + 1) ls rest)) : W p l e R s m args below meth c H locs cells slots Q (F0 m (pc) ls (.int (nI x) :: .int (nI t) :: .ref a :: rest)) := by
  subst hset
  refine va_iast hx hb hK.1 hP hD hS q0 0 ha rfl (vp_in_nI ht hn) hd (fun H1 locs1 h1 h2 h3 => ?_)
  rw [nI_clamp (Nat.lt_trans ht hn), upN_upd] at h1 h2
  exact k H1 locs1 h1 h2 h3
theorem m_alen (hx : p.tables.exec = Jvm.exec) (hb : c.code = cc) (hK : mK D cI cZ s) (hP : va_P D vwCl ws H) (q0 : Nat) {a n : Nat} {z : Nat → Nat} (ha : ws[q0]? = some (a, aN cI n z)) (hd : decode cc pc = .ok (.arraylength, 1)) (k : W p l e R s m args below meth c H locs cells slots Q (F0 m (pc + 1) ls (.int (nI n) :: rest))) : W p l e R s m args below meth c H locs cells slots Q (F0 m (pc) ls (.ref a :: rest)) := va_alen hx hb hK.1 hP q0 0 ha (show ([(cI, FieldType.int), (cZ, .boolean)] : List (ClassId × FieldType))[0]? = some (cI, .int) from rfl) rfl hd k
theorem m_copy (hx : p.tables.exec = Jvm.exec) (hb : c.code = cc) (hml : c.maxLocals = ls.size) {own : String} {index : Nat} (hown : s.vm.findClass own = some m.cls) (hlink : (Cond.methodLink own index arraycopyName).before args s = true) (hnat : (Cond.native arraycopyName).before args s = true) (hstat : (Cond.static arraycopyName).before args s = true) (hini : (Cond.initialized "java/lang/System").before args s = true)
    (hK : mK D cI cZ s) (hP : va_P D vwCl ws H) (hD : va_D A ws) (hS : va_S A H0 H locs) (q0 q1 : Nat) {a a0 n0 n1 sp dp n : Nat} {f g : Nat → Nat} (ha0 : ws[q0]? = some (a0, aN cI n0 f)) (ha1 : ws[q1]? = some (a, aN cI n1 g)) (h0 : n0 < 2 ^ 31) (h1 : n1 < 2 ^ 31) (h4 : sp + n ≤ n0) (h5 : dp + n ≤ n1)
    (hframes : 1 ≤ R.frames) (hlocals : (rest.map fun v => v.category).sum + (nativeFrameWords "java/lang/System" "arraycopy" 5 + 11) ≤ R.locals) (hd : decode cc pc = .ok (.invokestatic index, 3)) {ws' : va_W} (hset : ws.set q1 (a, aN cI n1 (cpN f g sp dp n)) = ws')
    (k : ∀ (H1 : Heap) (locs1 : List Loc), va_P D vwCl ws' H1 → va_D A ws' → va_S A H0 H1 locs1 → W p l e R s m args below meth c H1 locs1 cells slots Q (F0 m (pc + 3) ls rest)) : W p l e R s m args below meth c H locs cells slots Q (F0 m (pc) ls (.int (nI n) :: .int (nI dp) :: .ref a :: .int (nI sp) :: .ref a0 :: rest)) := by
  subst hset
  have e1 : (nI sp).toNatClampNeg = sp := nI_clamp (by omega)
  have e2 : (nI dp).toNatClampNeg = dp := nI_clamp (by omega)
  have e3 : (nI n).toNatClampNeg = n := nI_clamp (by omega)
  refine va_copyi hx hb hml hown hlink hnat hstat hini hK.1 hP hD hS q0 q1 0 0 (ty := .int) ha0 ha1 rfl rfl rfl (nI_pos (by omega)) (nI_pos (by omega)) (nI_pos (by omega)) (by rw [e1, e3]; exact h4) (by rw [e2, e3]; exact h5) (fun _ _ => rfl) hframes hlocals hd (fun H1 locs1 p1 p2 p3 => ?_)
  rw [e1, e2, e3, cpN_cpy] at p1 p2
  exact k H1 locs1 p1 p2 p3
end MROW
end
section
/-- whether an int is one of 0 to n less 1 -/
def ixB (x : Int32) (n : Nat) : Bool := decide (0 ≤ x.toInt ∧ x.toInt < n)
theorem ixB_nI {v n : Nat} (h : v < n) (hn : n < 2 ^ 31) : ixB (nI v) n = true := by
  unfold ixB
  rw [nI_toInt (Nat.lt_trans h hn)]
  exact decide_eq_true (by omega)
theorem ixB_nIf {v n : Nat} (h : n ≤ v) (hv : v < 2 ^ 31) : ixB (nI v) n = false := by
  unfold ixB
  rw [nI_toInt hv]
  exact decide_eq_false (by omega)
theorem ixB_neg {x : Int32} {n : Nat} (h : x < 0) : ixB x n = false := by
  unfold ixB
  have := (fa_lt x 0).mp h
  exact decide_eq_false (fun q => by have h0 : (0 : Int32).toInt = 0 := rfl; omega)
theorem ixB_of {x : Int32} {n : Nat} (hn : n < 2 ^ 31) (h : ixB x n = true) : ∃ v, v < n ∧ x = nI v := by
  have h2 := of_decide_eq_true h
  obtain ⟨j, hj, e⟩ := nI_of (x := x) (fun q => by have := (fa_lt x 0).mp q; have h0 : (0 : Int32).toInt = 0 := rfl; omega)
  refine ⟨j, ?_, e⟩
  rw [e, nI_toInt hj] at h2
  omega
theorem ixB_iff {x : Int32} {n : Nat} : ixB x n = true ↔ (0 ≤ x.toInt ∧ x.toInt < n) := decide_eq_true_iff
theorem tI0 : (0 : Int32).toInt = 0 := rfl
theorem b_one {P : Prop} [Decidable P] (h : P) : nI 1 = bI (decide P) := by rw [decide_eq_true h]; rfl
theorem b_zero {P : Prop} [Decidable P] (h : ¬ P) : nI 0 = bI (decide P) := by rw [decide_eq_false h]; rfl
theorem bb_one {b : Bool} (h : b = true) : nI 1 = bI b := by rw [h]; rfl
theorem bb_zero {b : Bool} (h : b = false) : nI 0 = bI b := by rw [h]; rfl
/-- all of the first n -/
def allB (n : Nat) (p : Nat → Bool) : Bool := decide (∀ k, k < n → p k = true)
theorem allB_t {n : Nat} {p : Nat → Bool} (h : ∀ k, k < n → p k = true) : allB n p = true := decide_eq_true h
theorem allB_f {n : Nat} {p : Nat → Bool} (k : Nat) (hk : k < n) (h : p k = false) : allB n p = false := decide_eq_false (fun q => by have := q k hk; rw [h] at this; cases this)
theorem allB_iff {n : Nat} {p : Nat → Bool} : allB n p = true ↔ ∀ k, k < n → p k = true := decide_eq_true_iff
/-- the sign at a place of a line, or 0 -/
def sgN (z g : Nat → Nat) (sl k : Nat) : Nat := if k < z sl then g (sl * 8 + k) else 0
def sgA (z g : Nat → Nat) (sl : Nat) (x : Int32) : Nat := if x < 0 then 0 else sgN z g sl x.toNatClampNeg
theorem sgA_nI {z g : Nat → Nat} {sl k : Nat} (hk : k < 2 ^ 31) : sgA z g sl (nI k) = sgN z g sl k := by
  unfold sgA
  rw [if_neg (nI_pos hk), nI_clamp hk]
theorem sgN_le {z g : Nat → Nat} (hg : ∀ j, g j ≤ 126) (sl k : Nat) : sgN z g sl k ≤ 126 := by
  unfold sgN
  split
  · exact hg _
  · omega
/-- a line is the same in the next version -/
def stB (z g : Nat → Nat) (v ln : Nat) : Bool := decide (z ((v + 1) * 20 + ln) = z (v * 20 + ln)) && allB (z (v * 20 + ln)) (fun k => decide (g ((v * 20 + ln) * 8 + k) = g (((v + 1) * 20 + ln) * 8 + k)))
/-- a line put into the first versions -/
def wrG (pd g : Nat → Nat) (ln n : Nat) : Nat → Nat → Nat
  | 0 => g
  | v + 1 => cpN pd (wrG pd g ln n v) 0 ((v * 20 + ln) * 8) n
def wrZ (z : Nat → Nat) (ln n : Nat) : Nat → Nat → Nat
  | 0 => z
  | v + 1 => upN (wrZ z ln n v) (v * 20 + ln) n
theorem upN_le {z : Nat → Nat} {b k x : Nat} (h : ∀ j, z j ≤ b) (hx : x ≤ b) : ∀ j, upN z k x j ≤ b := by
  intro j; unfold upN; split
  · exact hx
  · exact h j
theorem cpN_le {f g : Nat → Nat} {b sp dp n : Nat} (hf : ∀ j, f j ≤ b) (hg : ∀ j, g j ≤ b) : ∀ j, cpN f g sp dp n j ≤ b := by
  intro j; unfold cpN; split
  · exact hf _
  · exact hg j
end
section
theorem yd_X0_lines : yX0_lines.cls = RX0 ∧ yX0_lines.cls ≠ "java/lang/invoke/MethodHandle" ∧ yX0_lines.cls ≠ "java/lang/invoke/VarHandle" ∧ (parseMethodDescriptor yX0_lines.desc).map (fun d => d.parameters.length) = some 0 := by decide +kernel
set_option maxHeartbeats 4000000 in
set_option maxRecDepth 100000 in
theorem k_X0_lines (l : Launch) (D : va_G) (cI cZ : ClassId) (o a1 a2 nl nv : Nat) (z g : Nat → Nat)  : Met l yX0_lines wsX0_lines ({ frames := 0, cells := 0, slots := 0, locals := 0 }) (mPc [.ref o] D cI cZ [(o, .inr (0, [.ref a1, .ref a2, .int (nI nl), .int (nI nv)])), (a1, aN cI 640 g), (a2, aN cI 80 z)]) (QcRead (nI nl)) 0 0 (fun _ => False) := by
  refine Met.ofW (cc := cX0_lines) (maxL := 1) (ret := (some .int)) (by decide) rfl ?_
  intro p e s m args below meth c s₁ BB hml hv
  obtain ⟨hargs, hP, hD0, hK⟩ := hv
  have hx := BB.exec
  have hb := BB.bytes
  have hr := BB.returns
  have hts := atoms_spec (ws := wsX0_lines) BB.pre
  have hown : s.vm.findClass RX0 = some m.cls := findClass_of_methodNamed BB.named
  have hlocks := BB.notSynchronized
  have hcf : CallFix p m c cX0_lines 1 s args wsX0_lines RX0 := ⟨hx, hb, hml, hown, hts⟩
  have hD := hD0
  rw [hargs, lg_entry_eq, ← hargs]
  have hl := lv_entry ([.ref o]) (n := 1) (Nat.le_of_ble_eq_true rfl)
  generalize (lg_sl ([.ref o]) ++ List.replicate (1 - (lg_sl ([.ref o])).length) Slot.unset).toArray = ls at hl ⊢
  have hl : lv_has ls 1 [(0, .ref o)] := hl
  obtain ⟨Q, hQ⟩ : ∃ Q, Q = MQ below (QcRead (nI nl)) args s 0 0 (fun _ => False) := ⟨_, rfl⟩
  rw [← hQ]
  have i_X0 : ∀ w ∈ u_ws RX0 TX0 4, w ∈ wsX0_lines := by decide +kernel
  have f_18 := hts (.fieldLink RX0 18 "SameAgain$Code" "lineCount" "I") (by decide +kernel)
  refine lv_aload_n hx hb dX0_lines_0 rfl (lv_at hl 0 rfl) ?_
  refine va_get (D := D) (ci := 0) (v := .int (nI nl)) (C := RX0) (T := TX0) (N := 4) hx hb hts i_X0 hown hK.1 hP 0 rfl rfl 2 (by decide) f_18 (fun _ h9 => h9) rfl dX0_lines_1 ?_
  rw [hQ]
  exact m_ird hx hb hr hlocks rfl dX0_lines_4

theorem yd_X0_versions : yX0_versions.cls = RX0 ∧ yX0_versions.cls ≠ "java/lang/invoke/MethodHandle" ∧ yX0_versions.cls ≠ "java/lang/invoke/VarHandle" ∧ (parseMethodDescriptor yX0_versions.desc).map (fun d => d.parameters.length) = some 0 := by decide +kernel
set_option maxHeartbeats 4000000 in
set_option maxRecDepth 100000 in
theorem k_X0_versions (l : Launch) (D : va_G) (cI cZ : ClassId) (o a1 a2 nl nv : Nat) (z g : Nat → Nat)  : Met l yX0_versions wsX0_versions ({ frames := 0, cells := 0, slots := 0, locals := 0 }) (mPc [.ref o] D cI cZ [(o, .inr (0, [.ref a1, .ref a2, .int (nI nl), .int (nI nv)])), (a1, aN cI 640 g), (a2, aN cI 80 z)]) (QcRead (nI nv)) 0 0 (fun _ => False) := by
  refine Met.ofW (cc := cX0_versions) (maxL := 1) (ret := (some .int)) (by decide) rfl ?_
  intro p e s m args below meth c s₁ BB hml hv
  obtain ⟨hargs, hP, hD0, hK⟩ := hv
  have hx := BB.exec
  have hb := BB.bytes
  have hr := BB.returns
  have hts := atoms_spec (ws := wsX0_versions) BB.pre
  have hown : s.vm.findClass RX0 = some m.cls := findClass_of_methodNamed BB.named
  have hlocks := BB.notSynchronized
  have hcf : CallFix p m c cX0_versions 1 s args wsX0_versions RX0 := ⟨hx, hb, hml, hown, hts⟩
  have hD := hD0
  rw [hargs, lg_entry_eq, ← hargs]
  have hl := lv_entry ([.ref o]) (n := 1) (Nat.le_of_ble_eq_true rfl)
  generalize (lg_sl ([.ref o]) ++ List.replicate (1 - (lg_sl ([.ref o])).length) Slot.unset).toArray = ls at hl ⊢
  have hl : lv_has ls 1 [(0, .ref o)] := hl
  obtain ⟨Q, hQ⟩ : ∃ Q, Q = MQ below (QcRead (nI nv)) args s 0 0 (fun _ => False) := ⟨_, rfl⟩
  rw [← hQ]
  have i_X0 : ∀ w ∈ u_ws RX0 TX0 4, w ∈ wsX0_versions := by decide +kernel
  have f_22 := hts (.fieldLink RX0 22 "SameAgain$Code" "versionCount" "I") (by decide +kernel)
  refine lv_aload_n hx hb dX0_versions_0 rfl (lv_at hl 0 rfl) ?_
  refine va_get (D := D) (ci := 0) (v := .int (nI nv)) (C := RX0) (T := TX0) (N := 4) hx hb hts i_X0 hown hK.1 hP 0 rfl rfl 3 (by decide) f_22 (fun _ h9 => h9) rfl dX0_versions_1 ?_
  rw [hQ]
  exact m_ird hx hb hr hlocks rfl dX0_versions_4

theorem yd_X0_hasVersion : yX0_hasVersion.cls = RX0 ∧ yX0_hasVersion.cls ≠ "java/lang/invoke/MethodHandle" ∧ yX0_hasVersion.cls ≠ "java/lang/invoke/VarHandle" ∧ (parseMethodDescriptor yX0_hasVersion.desc).map (fun d => d.parameters.length) = some 1 := by decide +kernel
set_option maxHeartbeats 4000000 in
set_option maxRecDepth 100000 in
theorem k_X0_hasVersion (l : Launch) (D : va_G) (cI cZ : ClassId) (o a1 a2 nl nv : Nat) (z g : Nat → Nat) (x : Int32) (hnl : nl ≤ 20) (hnv : nv ≤ 4) : Met l yX0_hasVersion wsX0_hasVersion ({ frames := 0, cells := 0, slots := 0, locals := 0 }) (mPc [.ref o, .int x] D cI cZ [(o, .inr (0, [.ref a1, .ref a2, .int (nI nl), .int (nI nv)])), (a1, aN cI 640 g), (a2, aN cI 80 z)]) (QcRead (bI (ixB x nv))) 0 0 (fun _ => False) := by
  refine Met.ofW (cc := cX0_hasVersion) (maxL := 2) (ret := (some .boolean)) (by decide) rfl ?_
  intro p e s m args below meth c s₁ BB hml hv
  obtain ⟨hargs, hP, hD0, hK⟩ := hv
  have hx := BB.exec
  have hb := BB.bytes
  have hr := BB.returns
  have hts := atoms_spec (ws := wsX0_hasVersion) BB.pre
  have hown : s.vm.findClass RX0 = some m.cls := findClass_of_methodNamed BB.named
  have hlocks := BB.notSynchronized
  have hcf : CallFix p m c cX0_hasVersion 2 s args wsX0_hasVersion RX0 := ⟨hx, hb, hml, hown, hts⟩
  have hD := hD0
  rw [hargs, lg_entry_eq, ← hargs]
  have hl := lv_entry ([.ref o, .int x]) (n := 2) (Nat.le_of_ble_eq_true rfl)
  generalize (lg_sl ([.ref o, .int x]) ++ List.replicate (2 - (lg_sl ([.ref o, .int x])).length) Slot.unset).toArray = ls at hl ⊢
  have hl : lv_has ls 2 [(0, .ref o), (1, .int x)] := hl
  obtain ⟨Q, hQ⟩ : ∃ Q, Q = MQ below (QcRead (bI (ixB x nv))) args s 0 0 (fun _ => False) := ⟨_, rfl⟩
  rw [← hQ]
  have i_X0 : ∀ w ∈ u_ws RX0 TX0 4, w ∈ wsX0_hasVersion := by decide +kernel
  have f_22 := hts (.fieldLink RX0 22 "SameAgain$Code" "versionCount" "I") (by decide +kernel)
  refine lv_iload_n hx hb dX0_hasVersion_0 rfl (lv_at hl 1 rfl) ?_
  refine lv_if_lt (tgt := 16) hx hb dX0_hasVersion_1 (by decide) (fun c_1 => ?_) (fun c_1 => ?_)
  · refine lv_iconst (v := nI 0) hx hb dX0_hasVersion_16 (by decide) ?_
    rw [hQ]
    have h9 := nI_toInt (show nv < 2 ^ 31 by omega)
    exact m_zrd hx hb hr hlocks (b_zero (by simp only [fa_lt, fa_le, tI0] at *; omega)) dX0_hasVersion_17
  · refine lv_iload_n hx hb dX0_hasVersion_4 rfl (lv_at hl 1 rfl) ?_
    refine lv_aload_n hx hb dX0_hasVersion_5 rfl (lv_at hl 0 rfl) ?_
    refine va_get (D := D) (ci := 0) (v := .int (nI nv)) (C := RX0) (T := TX0) (N := 4) hx hb hts i_X0 hown hK.1 hP 0 rfl rfl 3 (by decide) f_22 (fun _ h9 => h9) rfl dX0_hasVersion_6 ?_
    refine lv_icmp_ge (tgt := 16) hx hb dX0_hasVersion_9 (by decide) (fun c_9 => ?_) (fun c_9 => ?_)
    · refine lv_iconst (v := nI 0) hx hb dX0_hasVersion_16 (by decide) ?_
      rw [hQ]
      have h9 := nI_toInt (show nv < 2 ^ 31 by omega)
      exact m_zrd hx hb hr hlocks (b_zero (by simp only [fa_lt, fa_le, tI0] at *; omega)) dX0_hasVersion_17
    · refine lv_iconst (v := nI 1) hx hb dX0_hasVersion_12 (by decide) ?_
      refine lv_goto (tgt := 17) hx hb dX0_hasVersion_13 (by decide) ?_
      rw [hQ]
      have h9 := nI_toInt (show nv < 2 ^ 31 by omega)
      exact m_zrd hx hb hr hlocks (b_one (by simp only [fa_lt, fa_le, tI0] at *; omega)) dX0_hasVersion_17

theorem yd_X0_hasLine : yX0_hasLine.cls = RX0 ∧ yX0_hasLine.cls ≠ "java/lang/invoke/MethodHandle" ∧ yX0_hasLine.cls ≠ "java/lang/invoke/VarHandle" ∧ (parseMethodDescriptor yX0_hasLine.desc).map (fun d => d.parameters.length) = some 1 := by decide +kernel
set_option maxHeartbeats 4000000 in
set_option maxRecDepth 100000 in
theorem k_X0_hasLine (l : Launch) (D : va_G) (cI cZ : ClassId) (o a1 a2 nl nv : Nat) (z g : Nat → Nat) (x : Int32) (hnl : nl ≤ 20) (hnv : nv ≤ 4) : Met l yX0_hasLine wsX0_hasLine ({ frames := 0, cells := 0, slots := 0, locals := 0 }) (mPc [.ref o, .int x] D cI cZ [(o, .inr (0, [.ref a1, .ref a2, .int (nI nl), .int (nI nv)])), (a1, aN cI 640 g), (a2, aN cI 80 z)]) (QcRead (bI (ixB x nl))) 0 0 (fun _ => False) := by
  refine Met.ofW (cc := cX0_hasLine) (maxL := 2) (ret := (some .boolean)) (by decide) rfl ?_
  intro p e s m args below meth c s₁ BB hml hv
  obtain ⟨hargs, hP, hD0, hK⟩ := hv
  have hx := BB.exec
  have hb := BB.bytes
  have hr := BB.returns
  have hts := atoms_spec (ws := wsX0_hasLine) BB.pre
  have hown : s.vm.findClass RX0 = some m.cls := findClass_of_methodNamed BB.named
  have hlocks := BB.notSynchronized
  have hcf : CallFix p m c cX0_hasLine 2 s args wsX0_hasLine RX0 := ⟨hx, hb, hml, hown, hts⟩
  have hD := hD0
  rw [hargs, lg_entry_eq, ← hargs]
  have hl := lv_entry ([.ref o, .int x]) (n := 2) (Nat.le_of_ble_eq_true rfl)
  generalize (lg_sl ([.ref o, .int x]) ++ List.replicate (2 - (lg_sl ([.ref o, .int x])).length) Slot.unset).toArray = ls at hl ⊢
  have hl : lv_has ls 2 [(0, .ref o), (1, .int x)] := hl
  obtain ⟨Q, hQ⟩ : ∃ Q, Q = MQ below (QcRead (bI (ixB x nl))) args s 0 0 (fun _ => False) := ⟨_, rfl⟩
  rw [← hQ]
  have i_X0 : ∀ w ∈ u_ws RX0 TX0 4, w ∈ wsX0_hasLine := by decide +kernel
  have f_18 := hts (.fieldLink RX0 18 "SameAgain$Code" "lineCount" "I") (by decide +kernel)
  refine lv_iload_n hx hb dX0_hasLine_0 rfl (lv_at hl 1 rfl) ?_
  refine lv_if_lt (tgt := 16) hx hb dX0_hasLine_1 (by decide) (fun c_1 => ?_) (fun c_1 => ?_)
  · refine lv_iconst (v := nI 0) hx hb dX0_hasLine_16 (by decide) ?_
    rw [hQ]
    have h9 := nI_toInt (show nl < 2 ^ 31 by omega)
    exact m_zrd hx hb hr hlocks (b_zero (by simp only [fa_lt, fa_le, tI0] at *; omega)) dX0_hasLine_17
  · refine lv_iload_n hx hb dX0_hasLine_4 rfl (lv_at hl 1 rfl) ?_
    refine lv_aload_n hx hb dX0_hasLine_5 rfl (lv_at hl 0 rfl) ?_
    refine va_get (D := D) (ci := 0) (v := .int (nI nl)) (C := RX0) (T := TX0) (N := 4) hx hb hts i_X0 hown hK.1 hP 0 rfl rfl 2 (by decide) f_18 (fun _ h9 => h9) rfl dX0_hasLine_6 ?_
    refine lv_icmp_ge (tgt := 16) hx hb dX0_hasLine_9 (by decide) (fun c_9 => ?_) (fun c_9 => ?_)
    · refine lv_iconst (v := nI 0) hx hb dX0_hasLine_16 (by decide) ?_
      rw [hQ]
      have h9 := nI_toInt (show nl < 2 ^ 31 by omega)
      exact m_zrd hx hb hr hlocks (b_zero (by simp only [fa_lt, fa_le, tI0] at *; omega)) dX0_hasLine_17
    · refine lv_iconst (v := nI 1) hx hb dX0_hasLine_12 (by decide) ?_
      refine lv_goto (tgt := 17) hx hb dX0_hasLine_13 (by decide) ?_
      rw [hQ]
      have h9 := nI_toInt (show nl < 2 ^ 31 by omega)
      exact m_zrd hx hb hr hlocks (b_one (by simp only [fa_lt, fa_le, tI0] at *; omega)) dX0_hasLine_17

theorem yd_X0_sizeOf : yX0_sizeOf.cls = RX0 ∧ yX0_sizeOf.cls ≠ "java/lang/invoke/MethodHandle" ∧ yX0_sizeOf.cls ≠ "java/lang/invoke/VarHandle" ∧ (parseMethodDescriptor yX0_sizeOf.desc).map (fun d => d.parameters.length) = some 2 := by decide +kernel
set_option maxHeartbeats 4000000 in
set_option maxRecDepth 100000 in
theorem k_X0_sizeOf (l : Launch) (D : va_G) (cI cZ : ClassId) (o a1 a2 nl nv : Nat) (z g : Nat → Nat) (v ln : Nat) (hnl : nl ≤ 20) (hnv : nv ≤ 4) (hv : v < nv) (hln : ln < nl) : Met l yX0_sizeOf wsX0_sizeOf ({ frames := 0, cells := 0, slots := 0, locals := 0 }) (mPc [.ref o, .int (nI v), .int (nI ln)] D cI cZ [(o, .inr (0, [.ref a1, .ref a2, .int (nI nl), .int (nI nv)])), (a1, aN cI 640 g), (a2, aN cI 80 z)]) (QcRead (nI (z (v * 20 + ln)))) 0 0 (fun _ => False) := by
  refine Met.ofW (cc := cX0_sizeOf) (maxL := 3) (ret := (some .int)) (by decide) rfl ?_
  intro p e s m args below meth c s₁ BB hml hv
  obtain ⟨hargs, hP, hD0, hK⟩ := hv
  have hx := BB.exec
  have hb := BB.bytes
  have hr := BB.returns
  have hts := atoms_spec (ws := wsX0_sizeOf) BB.pre
  have hown : s.vm.findClass RX0 = some m.cls := findClass_of_methodNamed BB.named
  have hlocks := BB.notSynchronized
  have hcf : CallFix p m c cX0_sizeOf 3 s args wsX0_sizeOf RX0 := ⟨hx, hb, hml, hown, hts⟩
  have hD := hD0
  rw [hargs, lg_entry_eq, ← hargs]
  have hl := lv_entry ([.ref o, .int (nI v), .int (nI ln)]) (n := 3) (Nat.le_of_ble_eq_true rfl)
  generalize (lg_sl ([.ref o, .int (nI v), .int (nI ln)]) ++ List.replicate (3 - (lg_sl ([.ref o, .int (nI v), .int (nI ln)])).length) Slot.unset).toArray = ls at hl ⊢
  have hl : lv_has ls 3 [(0, .ref o), (1, .int (nI v)), (2, .int (nI ln))] := hl
  obtain ⟨Q, hQ⟩ : ∃ Q, Q = MQ below (QcRead (nI (z (v * 20 + ln)))) args s 0 0 (fun _ => False) := ⟨_, rfl⟩
  rw [← hQ]
  have i_X0 : ∀ w ∈ u_ws RX0 TX0 4, w ∈ wsX0_sizeOf := by decide +kernel
  have f_22 := hts (.fieldLink RX0 22 "SameAgain$Code" "versionCount" "I") (by decide +kernel)
  have f_18 := hts (.fieldLink RX0 18 "SameAgain$Code" "lineCount" "I") (by decide +kernel)
  have f_15 := hts (.fieldLink RX0 15 "SameAgain$Code" "sizes" "[I") (by decide +kernel)
  refine lv_iload_n hx hb dX0_sizeOf_0 rfl (lv_at hl 1 rfl) ?_
  refine m_if_lt (tgt := 24) hx hb dX0_sizeOf_1 (by decide) (by omega) ?_
  refine lv_iload_n hx hb dX0_sizeOf_4 rfl (lv_at hl 1 rfl) ?_
  refine lv_aload_n hx hb dX0_sizeOf_5 rfl (lv_at hl 0 rfl) ?_
  refine va_get (D := D) (ci := 0) (v := .int (nI nv)) (C := RX0) (T := TX0) (N := 4) hx hb hts i_X0 hown hK.1 hP 0 rfl rfl 3 (by decide) f_22 (fun _ h9 => h9) rfl dX0_sizeOf_6 ?_
  refine m_cmp_ge (tgt := 24) hx hb dX0_sizeOf_9 (by decide) (by omega) (by omega) (fun c_9 => absurd c_9 (by omega)) (fun c_9 => ?_)
  refine lv_iload_n hx hb dX0_sizeOf_12 rfl (lv_at hl 2 rfl) ?_
  refine m_if_lt (tgt := 24) hx hb dX0_sizeOf_13 (by decide) (by omega) ?_
  refine lv_iload_n hx hb dX0_sizeOf_16 rfl (lv_at hl 2 rfl) ?_
  refine lv_aload_n hx hb dX0_sizeOf_17 rfl (lv_at hl 0 rfl) ?_
  refine va_get (D := D) (ci := 0) (v := .int (nI nl)) (C := RX0) (T := TX0) (N := 4) hx hb hts i_X0 hown hK.1 hP 0 rfl rfl 2 (by decide) f_18 (fun _ h9 => h9) rfl dX0_sizeOf_18 ?_
  refine m_cmp_lt (tgt := 26) hx hb dX0_sizeOf_21 (by decide) (by omega) (by omega) (fun c_21 => ?_) (fun c_21 => absurd c_21 (by omega))
  refine lv_aload_n hx hb dX0_sizeOf_26 rfl (lv_at hl 0 rfl) ?_
  refine va_get (D := D) (ci := 0) (v := .ref a2) (C := RX0) (T := TX0) (N := 4) hx hb hts i_X0 hown hK.1 hP 0 rfl rfl 1 (by decide) f_15 (fun _ h9 => h9) rfl dX0_sizeOf_27 ?_
  refine lv_iload_n hx hb dX0_sizeOf_30 rfl (lv_at hl 1 rfl) ?_
  refine lv_bipush (v := nI 20) hx hb dX0_sizeOf_31 (by decide) ?_
  refine m_mul hx hb dX0_sizeOf_33 ?_
  refine lv_iload_n hx hb dX0_sizeOf_34 rfl (lv_at hl 2 rfl) ?_
  refine m_add hx hb dX0_sizeOf_35 ?_
  refine m_ald hx hb hK hP 2 rfl (by decide) (by omega) dX0_sizeOf_36 ?_
  rw [hQ]
  exact m_ird hx hb hr hlocks rfl dX0_sizeOf_37

theorem yd_X0_signAt : yX0_signAt.cls = RX0 ∧ yX0_signAt.cls ≠ "java/lang/invoke/MethodHandle" ∧ yX0_signAt.cls ≠ "java/lang/invoke/VarHandle" ∧ (parseMethodDescriptor yX0_signAt.desc).map (fun d => d.parameters.length) = some 3 := by decide +kernel
set_option maxHeartbeats 4000000 in
set_option maxRecDepth 100000 in
theorem k_X0_signAt (l : Launch) (D : va_G) (cI cZ : ClassId) (o a1 a2 nl nv : Nat) (z g : Nat → Nat) (v ln k : Nat) (hnl : nl ≤ 20) (hnv : nv ≤ 4) (hz : ∀ j, z j ≤ 8) (hg : ∀ j, g j ≤ 126) (hv : v < nv) (hln : ln < nl) (hk : k < 2 ^ 31) : Met l yX0_signAt wsX0_signAt ({ frames := 0, cells := 0, slots := 0, locals := 0 }) (mPc [.ref o, .int (nI v), .int (nI ln), .int (nI k)] D cI cZ [(o, .inr (0, [.ref a1, .ref a2, .int (nI nl), .int (nI nv)])), (a1, aN cI 640 g), (a2, aN cI 80 z)]) (QcRead (nI (sgN z g (v * 20 + ln) k))) 0 0 (fun _ => False) := by
  refine Met.ofW (cc := cX0_signAt) (maxL := 5) (ret := (some .int)) (by decide) rfl ?_
  intro p e s m args below meth c s₁ BB hml hv
  obtain ⟨hargs, hP, hD0, hK⟩ := hv
  have hx := BB.exec
  have hb := BB.bytes
  have hr := BB.returns
  have hts := atoms_spec (ws := wsX0_signAt) BB.pre
  have hown : s.vm.findClass RX0 = some m.cls := findClass_of_methodNamed BB.named
  have hlocks := BB.notSynchronized
  have hcf : CallFix p m c cX0_signAt 5 s args wsX0_signAt RX0 := ⟨hx, hb, hml, hown, hts⟩
  have hD := hD0
  rw [hargs, lg_entry_eq, ← hargs]
  have hl := lv_entry ([.ref o, .int (nI v), .int (nI ln), .int (nI k)]) (n := 5) (Nat.le_of_ble_eq_true rfl)
  generalize (lg_sl ([.ref o, .int (nI v), .int (nI ln), .int (nI k)]) ++ List.replicate (5 - (lg_sl ([.ref o, .int (nI v), .int (nI ln), .int (nI k)])).length) Slot.unset).toArray = ls at hl ⊢
  have hl : lv_has ls 5 [(0, .ref o), (1, .int (nI v)), (2, .int (nI ln)), (3, .int (nI k))] := hl
  obtain ⟨Q, hQ⟩ : ∃ Q, Q = MQ below (QcRead (nI (sgN z g (v * 20 + ln) k))) args s 0 0 (fun _ => False) := ⟨_, rfl⟩
  rw [← hQ]
  have i_X0 : ∀ w ∈ u_ws RX0 TX0 4, w ∈ wsX0_signAt := by decide +kernel
  have f_22 := hts (.fieldLink RX0 22 "SameAgain$Code" "versionCount" "I") (by decide +kernel)
  have f_18 := hts (.fieldLink RX0 18 "SameAgain$Code" "lineCount" "I") (by decide +kernel)
  have f_15 := hts (.fieldLink RX0 15 "SameAgain$Code" "sizes" "[I") (by decide +kernel)
  have f_9 := hts (.fieldLink RX0 9 "SameAgain$Code" "signs" "[I") (by decide +kernel)
  refine lv_iload_n hx hb dX0_signAt_0 rfl (lv_at hl 1 rfl) ?_
  refine m_if_lt (tgt := 24) hx hb dX0_signAt_1 (by decide) (by omega) ?_
  refine lv_iload_n hx hb dX0_signAt_4 rfl (lv_at hl 1 rfl) ?_
  refine lv_aload_n hx hb dX0_signAt_5 rfl (lv_at hl 0 rfl) ?_
  refine va_get (D := D) (ci := 0) (v := .int (nI nv)) (C := RX0) (T := TX0) (N := 4) hx hb hts i_X0 hown hK.1 hP 0 rfl rfl 3 (by decide) f_22 (fun _ h9 => h9) rfl dX0_signAt_6 ?_
  refine m_cmp_ge (tgt := 24) hx hb dX0_signAt_9 (by decide) (by omega) (by omega) (fun c_9 => absurd c_9 (by omega)) (fun c_9 => ?_)
  refine lv_iload_n hx hb dX0_signAt_12 rfl (lv_at hl 2 rfl) ?_
  refine m_if_lt (tgt := 24) hx hb dX0_signAt_13 (by decide) (by omega) ?_
  refine lv_iload_n hx hb dX0_signAt_16 rfl (lv_at hl 2 rfl) ?_
  refine lv_aload_n hx hb dX0_signAt_17 rfl (lv_at hl 0 rfl) ?_
  refine va_get (D := D) (ci := 0) (v := .int (nI nl)) (C := RX0) (T := TX0) (N := 4) hx hb hts i_X0 hown hK.1 hP 0 rfl rfl 2 (by decide) f_18 (fun _ h9 => h9) rfl dX0_signAt_18 ?_
  refine m_cmp_lt (tgt := 26) hx hb dX0_signAt_21 (by decide) (by omega) (by omega) (fun c_21 => ?_) (fun c_21 => absurd c_21 (by omega))
  refine lv_iload_n hx hb dX0_signAt_26 rfl (lv_at hl 1 rfl) ?_
  refine lv_bipush (v := nI 20) hx hb dX0_signAt_27 (by decide) ?_
  refine m_mul hx hb dX0_signAt_29 ?_
  refine lv_iload_n hx hb dX0_signAt_30 rfl (lv_at hl 2 rfl) ?_
  refine m_add hx hb dX0_signAt_31 ?_
  refine lv_istore (lv' := [(4, .int (nI ((v * 20) + ln))), (0, .ref o), (1, .int (nI v)), (2, .int (nI ln)), (3, .int (nI k))]) hx hb dX0_signAt_32 hl (by decide) rfl (fun ls hl => ?_)
  refine lv_iload_n hx hb dX0_signAt_34 rfl (lv_at hl 4 rfl) ?_
  refine m_if_lt (tgt := 64) hx hb dX0_signAt_35 (by decide) (by omega) ?_
  refine lv_iload_n hx hb dX0_signAt_38 rfl (lv_at hl 4 rfl) ?_
  refine lv_aload_n hx hb dX0_signAt_39 rfl (lv_at hl 1 rfl) ?_
  refine va_get (D := D) (ci := 0) (v := .ref a2) (C := RX0) (T := TX0) (N := 4) hx hb hts i_X0 hown hK.1 hP 0 rfl rfl 1 (by decide) f_15 (fun _ h9 => h9) rfl dX0_signAt_40 ?_
  refine lv_iload hx hb dX0_signAt_43 (lv_at hl 0 rfl) ?_
  refine m_ald hx hb hK hP 2 rfl (by decide) (by omega) dX0_signAt_45 ?_
  have hv_45 := hz ((v * 20) + ln)
  refine m_cmp_ge (tgt := 64) hx hb dX0_signAt_46 (by decide) (by omega) (by omega) (fun c_46 => ?_) (fun c_46 => ?_)
  · refine lv_iconst (v := nI 0) hx hb dX0_signAt_64 (by decide) ?_
    rw [hQ]
    exact m_ird hx hb hr hlocks (by unfold sgN; rw [if_neg (by omega)]) dX0_signAt_65
  · refine lv_aload_n hx hb dX0_signAt_49 rfl (lv_at hl 1 rfl) ?_
    refine va_get (D := D) (ci := 0) (v := .ref a1) (C := RX0) (T := TX0) (N := 4) hx hb hts i_X0 hown hK.1 hP 0 rfl rfl 0 (by decide) f_9 (fun _ h9 => h9) rfl dX0_signAt_50 ?_
    refine lv_iload hx hb dX0_signAt_53 (lv_at hl 0 rfl) ?_
    refine lv_bipush (v := nI 8) hx hb dX0_signAt_55 (by decide) ?_
    refine m_mul hx hb dX0_signAt_57 ?_
    refine lv_iload_n hx hb dX0_signAt_58 rfl (lv_at hl 4 rfl) ?_
    refine m_add hx hb dX0_signAt_59 ?_
    refine m_ald hx hb hK hP 1 rfl (by decide) (by omega) dX0_signAt_60 ?_
    have hv_60 := hg ((((v * 20) + ln) * 8) + k)
    refine lv_goto (tgt := 65) hx hb dX0_signAt_61 (by decide) ?_
    rw [hQ]
    exact m_ird hx hb hr hlocks (by unfold sgN; rw [if_pos (by omega)]) dX0_signAt_65

theorem yd_X0_write : yX0_write.cls = RX0 ∧ yX0_write.cls ≠ "java/lang/invoke/MethodHandle" ∧ yX0_write.cls ≠ "java/lang/invoke/VarHandle" ∧ (parseMethodDescriptor yX0_write.desc).map (fun d => d.parameters.length) = some 4 := by decide +kernel
set_option maxHeartbeats 4000000 in
set_option maxRecDepth 100000 in
theorem k_X0_write (l : Launch) (D : va_G) (cI cZ : ClassId) (o a1 a2 nl nv pa : Nat) (z g pd : Nat → Nat) (v ln n : Nat) (hnl : nl ≤ 20) (hnv : nv ≤ 4) (hv : v < nv) (hln : ln < nl) (hn8 : n ≤ 8) : Met l yX0_write wsX0_write ({ frames := 1, cells := 0, slots := 0, locals := 48 }) (mPc [.ref o, .int (nI v), .int (nI ln), .ref pa, .int (nI n)] D cI cZ [(o, .inr (0, [.ref a1, .ref a2, .int (nI nl), .int (nI nv)])), (a1, aN cI 640 g), (a2, aN cI 80 z), (pa, aN cI 8 pd)]) (mQv D (mA [(o, .inr (0, [.ref a1, .ref a2, .int (nI nl), .int (nI nv)])), (a1, aN cI 640 g), (a2, aN cI 80 z), (pa, aN cI 8 pd)]) (fun (u : Unit) => True) (fun (u : Unit) => [(o, .inr (0, [.ref a1, .ref a2, .int (nI nl), .int (nI nv)])), (a1, aN cI 640 (cpN pd g 0 ((v * 20 + ln) * 8) n)), (a2, aN cI 80 (upN z (v * 20 + ln) n)), (pa, aN cI 8 pd)])) 0 0 (mA [(o, .inr (0, [.ref a1, .ref a2, .int (nI nl), .int (nI nv)])), (a1, aN cI 640 g), (a2, aN cI 80 z), (pa, aN cI 8 pd)]) := by
  refine Met.ofW (cc := cX0_write) (maxL := 6) (ret := none) (by decide) rfl ?_
  intro p e s m args below meth c s₁ BB hml hv
  obtain ⟨hargs, hP, hD0, hK⟩ := hv
  have hx := BB.exec
  have hb := BB.bytes
  have hr := BB.returns
  have hts := atoms_spec (ws := wsX0_write) BB.pre
  have hown : s.vm.findClass RX0 = some m.cls := findClass_of_methodNamed BB.named
  have hlocks := BB.notSynchronized
  have hcf : CallFix p m c cX0_write 6 s args wsX0_write RX0 := ⟨hx, hb, hml, hown, hts⟩
  obtain ⟨A, hAe⟩ : ∃ A, A = mA [(o, .inr (0, [.ref a1, .ref a2, .int (nI nl), .int (nI nv)])), (a1, aN cI 640 g), (a2, aN cI 80 z), (pa, aN cI 8 pd)] := ⟨_, rfl⟩
  have hD : va_D A [(o, .inr (0, [.ref a1, .ref a2, .int (nI nl), .int (nI nv)])), (a1, aN cI 640 g), (a2, aN cI 80 z), (pa, aN cI 8 pd)] := ⟨hD0.1, fun k q h => by rw [hAe]; exact ⟨k, q.2, h⟩⟩
  have hS : va_S A s.heap s.heap [] := va_S.rf
  rw [← hAe]
  rw [hargs, lg_entry_eq, ← hargs]
  have hl := lv_entry ([.ref o, .int (nI v), .int (nI ln), .ref pa, .int (nI n)]) (n := 6) (Nat.le_of_ble_eq_true rfl)
  generalize (lg_sl ([.ref o, .int (nI v), .int (nI ln), .ref pa, .int (nI n)]) ++ List.replicate (6 - (lg_sl ([.ref o, .int (nI v), .int (nI ln), .ref pa, .int (nI n)])).length) Slot.unset).toArray = ls at hl ⊢
  have hl : lv_has ls 6 [(0, .ref o), (1, .int (nI v)), (2, .int (nI ln)), (3, .ref pa), (4, .int (nI n))] := hl
  obtain ⟨Q, hQ⟩ : ∃ Q, Q = MQ below (mQv D A (fun (u : Unit) => True) (fun (u : Unit) => [(o, .inr (0, [.ref a1, .ref a2, .int (nI nl), .int (nI nv)])), (a1, aN cI 640 (cpN pd g 0 ((v * 20 + ln) * 8) n)), (a2, aN cI 80 (upN z (v * 20 + ln) n)), (pa, aN cI 8 pd)])) args s 0 0 A := ⟨_, rfl⟩
  rw [← hQ]
  have i_X0 : ∀ w ∈ u_ws RX0 TX0 4, w ∈ wsX0_write := by decide +kernel
  have f_9 := hts (.fieldLink RX0 9 "SameAgain$Code" "signs" "[I") (by decide +kernel)
  have l_32 := hts (.methodLink RX0 32 arraycopyName) (by decide +kernel)
  have l_nat := hts (.native arraycopyName) (by decide +kernel)
  have l_stat := hts (.static arraycopyName) (by decide +kernel)
  have l_sys := hts (.initialized "java/lang/System") (by decide +kernel)
  have f_15 := hts (.fieldLink RX0 15 "SameAgain$Code" "sizes" "[I") (by decide +kernel)
  refine lv_aload_n hx hb dX0_write_0 rfl (lv_at hl 0 rfl) ?_
  refine lv_iload_n hx hb dX0_write_1 rfl (lv_at hl 1 rfl) ?_
  refine m_rdV (As := [.int (nI v)]) (rest := []) (wc := [(o, .inr (0, [.ref a1, .ref a2, .int (nI nl), .int (nI nv)])), (a1, aN cI 640 g), (a2, aN cI 80 z)]) hcf (k_X0_hasVersion (l := l) (D := D) (cI := cI) (cZ := cZ) (x := nI v) (o := o) (a1 := a1) (a2 := a2) (nl := nl) (nv := nv) (g := g) (z := z) (hnl := hnl) (hnv := hnv)) (cwV 1 hts gX0_write_X0_hasVersion rfl rfl rfl yd_X0_hasVersion ⟨Nat.le_of_ble_eq_true rfl, Nat.le_of_ble_eq_true rfl⟩) (m_preV hK hP hD [0, 1, 2] (by decide) rfl rfl rfl) rfl hl.1 rfl (Nat.le_of_ble_eq_true rfl) dX0_write_2 ⟨Nat.zero_le _, Nat.zero_le _⟩ ?_
  refine m_ifB_eq (tgt := 35) hx hb dX0_write_5 (by decide) (fun c_5 => absurd c_5 (fun q => by rw [ixB_nI hv (by omega)] at q; cases q)) (fun c_5 => ?_)
  refine lv_aload_n hx hb dX0_write_8 rfl (lv_at hl 0 rfl) ?_
  refine lv_iload_n hx hb dX0_write_9 rfl (lv_at hl 2 rfl) ?_
  refine m_rdV (As := [.int (nI ln)]) (rest := []) (wc := [(o, .inr (0, [.ref a1, .ref a2, .int (nI nl), .int (nI nv)])), (a1, aN cI 640 g), (a2, aN cI 80 z)]) hcf (k_X0_hasLine (l := l) (D := D) (cI := cI) (cZ := cZ) (x := nI ln) (o := o) (a1 := a1) (a2 := a2) (nl := nl) (nv := nv) (g := g) (z := z) (hnl := hnl) (hnv := hnv)) (cwV 1 hts gX0_write_X0_hasLine rfl rfl rfl yd_X0_hasLine ⟨Nat.le_of_ble_eq_true rfl, Nat.le_of_ble_eq_true rfl⟩) (m_preV hK hP hD [0, 1, 2] (by decide) rfl rfl rfl) rfl hl.1 rfl (Nat.le_of_ble_eq_true rfl) dX0_write_10 ⟨Nat.zero_le _, Nat.zero_le _⟩ ?_
  refine m_ifB_eq (tgt := 35) hx hb dX0_write_13 (by decide) (fun c_13 => absurd c_13 (fun q => by rw [ixB_nI hln (by omega)] at q; cases q)) (fun c_13 => ?_)
  refine lv_iload hx hb dX0_write_16 (lv_at hl 4 rfl) ?_
  refine m_if_lt (tgt := 35) hx hb dX0_write_18 (by decide) (by omega) ?_
  refine lv_iload hx hb dX0_write_21 (lv_at hl 4 rfl) ?_
  refine lv_bipush (v := nI 8) hx hb dX0_write_23 (by decide) ?_
  refine m_cmp_gt (tgt := 35) hx hb dX0_write_25 (by decide) (by omega) (by omega) (fun c_25 => absurd c_25 (by omega)) (fun c_25 => ?_)
  refine lv_iload hx hb dX0_write_28 (lv_at hl 4 rfl) ?_
  refine lv_aload_n hx hb dX0_write_30 rfl (lv_at hl 3 rfl) ?_
  refine m_alen hx hb hK hP 3 rfl dX0_write_31 ?_
  refine m_cmp_le (tgt := 36) hx hb dX0_write_32 (by decide) (by omega) (by omega) (fun c_32 => ?_) (fun c_32 => absurd c_32 (by omega))
  refine lv_iload_n hx hb dX0_write_36 rfl (lv_at hl 1 rfl) ?_
  refine lv_bipush (v := nI 20) hx hb dX0_write_37 (by decide) ?_
  refine m_mul hx hb dX0_write_39 ?_
  refine lv_iload_n hx hb dX0_write_40 rfl (lv_at hl 2 rfl) ?_
  refine m_add hx hb dX0_write_41 ?_
  refine lv_istore (lv' := [(5, .int (nI ((v * 20) + ln))), (0, .ref o), (1, .int (nI v)), (2, .int (nI ln)), (3, .ref pa), (4, .int (nI n))]) hx hb dX0_write_42 hl (by decide) rfl (fun ls hl => ?_)
  refine lv_aload_n hx hb dX0_write_44 rfl (lv_at hl 4 rfl) ?_
  refine lv_iconst (v := nI 0) hx hb dX0_write_45 (by decide) ?_
  refine lv_aload_n hx hb dX0_write_46 rfl (lv_at hl 1 rfl) ?_
  refine va_get (D := D) (ci := 0) (v := .ref a1) (C := RX0) (T := TX0) (N := 4) hx hb hts i_X0 hown hK.1 hP 0 rfl rfl 0 (by decide) f_9 (fun _ h9 => h9) rfl dX0_write_47 ?_
  refine lv_iload hx hb dX0_write_50 (lv_at hl 0 rfl) ?_
  refine lv_bipush (v := nI 8) hx hb dX0_write_52 (by decide) ?_
  refine m_mul hx hb dX0_write_54 ?_
  refine lv_iload hx hb dX0_write_55 (lv_at hl 5 rfl) ?_
  refine m_copy hx hb (hml.trans hl.1.symm) hown l_32 l_nat l_stat l_sys hK hP hD hS 3 1 rfl rfl (by decide) (by decide) (by omega) (by omega) (Nat.le_of_ble_eq_true rfl) (Nat.le_of_ble_eq_true rfl) dX0_write_57 (ws' := [(o, .inr (0, [.ref a1, .ref a2, .int (nI nl), .int (nI nv)])), (a1, aN cI 640 (cpN pd g 0 (((v * 20) + ln) * 8) n)), (a2, aN cI 80 z), (pa, aN cI 8 pd)]) rfl (fun H locs hP hD hS => ?_)
  refine lv_aload_n hx hb dX0_write_60 rfl (lv_at hl 1 rfl) ?_
  refine va_get (D := D) (ci := 0) (v := .ref a2) (C := RX0) (T := TX0) (N := 4) hx hb hts i_X0 hown hK.1 hP 0 rfl rfl 1 (by decide) f_15 (fun _ h9 => h9) rfl dX0_write_61 ?_
  refine lv_iload hx hb dX0_write_64 (lv_at hl 0 rfl) ?_
  refine lv_iload hx hb dX0_write_66 (lv_at hl 5 rfl) ?_
  refine m_ast hx hb hK hP hD hS 2 rfl (by decide) (by omega) dX0_write_68 (ws' := [(o, .inr (0, [.ref a1, .ref a2, .int (nI nl), .int (nI nv)])), (a1, aN cI 640 (cpN pd g 0 (((v * 20) + ln) * 8) n)), (a2, aN cI 80 (upN z ((v * 20) + ln) n)), (pa, aN cI 8 pd)]) rfl (fun H locs hP hD hS => ?_)
  rw [hQ]
  exact m_vwr hx hb hr hlocks () (trivial) hP hS dX0_write_69

theorem yd_X0_addLine : yX0_addLine.cls = RX0 ∧ yX0_addLine.cls ≠ "java/lang/invoke/MethodHandle" ∧ yX0_addLine.cls ≠ "java/lang/invoke/VarHandle" ∧ (parseMethodDescriptor yX0_addLine.desc).map (fun d => d.parameters.length) = some 2 := by decide +kernel
set_option maxHeartbeats 4000000 in
set_option maxRecDepth 100000 in
theorem k_X0_addLine (l : Launch) (D : va_G) (cI cZ : ClassId) (o a1 a2 nl nv pa : Nat) (z g pd : Nat → Nat) (n : Nat) (hnl : nl < 20) (hnv : nv ≤ 4) (hn8 : n ≤ 8) : Met l yX0_addLine wsX0_addLine ({ frames := 2, cells := 0, slots := 0, locals := 73 }) (mPc [.ref o, .ref pa, .int (nI n)] D cI cZ [(o, .inr (0, [.ref a1, .ref a2, .int (nI nl), .int (nI nv)])), (a1, aN cI 640 g), (a2, aN cI 80 z), (pa, aN cI 8 pd)]) (mQv D (mA [(o, .inr (0, [.ref a1, .ref a2, .int (nI nl), .int (nI nv)])), (a1, aN cI 640 g), (a2, aN cI 80 z), (pa, aN cI 8 pd)]) (fun (u : Unit) => True) (fun (u : Unit) => [(o, .inr (0, [.ref a1, .ref a2, .int (nI (nl + 1)), .int (nI nv)])), (a1, aN cI 640 (wrG pd g nl n nv)), (a2, aN cI 80 (wrZ z nl n nv)), (pa, aN cI 8 pd)])) 0 0 (mA [(o, .inr (0, [.ref a1, .ref a2, .int (nI nl), .int (nI nv)])), (a1, aN cI 640 g), (a2, aN cI 80 z), (pa, aN cI 8 pd)]) := by
  refine Met.ofW (cc := cX0_addLine) (maxL := 4) (ret := none) (by decide) rfl ?_
  intro p e s m args below meth c s₁ BB hml hv
  obtain ⟨hargs, hP, hD0, hK⟩ := hv
  have hx := BB.exec
  have hb := BB.bytes
  have hr := BB.returns
  have hts := atoms_spec (ws := wsX0_addLine) BB.pre
  have hown : s.vm.findClass RX0 = some m.cls := findClass_of_methodNamed BB.named
  have hlocks := BB.notSynchronized
  have hcf : CallFix p m c cX0_addLine 4 s args wsX0_addLine RX0 := ⟨hx, hb, hml, hown, hts⟩
  obtain ⟨A, hAe⟩ : ∃ A, A = mA [(o, .inr (0, [.ref a1, .ref a2, .int (nI nl), .int (nI nv)])), (a1, aN cI 640 g), (a2, aN cI 80 z), (pa, aN cI 8 pd)] := ⟨_, rfl⟩
  have hD : va_D A [(o, .inr (0, [.ref a1, .ref a2, .int (nI nl), .int (nI nv)])), (a1, aN cI 640 g), (a2, aN cI 80 z), (pa, aN cI 8 pd)] := ⟨hD0.1, fun k q h => by rw [hAe]; exact ⟨k, q.2, h⟩⟩
  have hS : va_S A s.heap s.heap [] := va_S.rf
  rw [← hAe]
  rw [hargs, lg_entry_eq, ← hargs]
  have hl := lv_entry ([.ref o, .ref pa, .int (nI n)]) (n := 4) (Nat.le_of_ble_eq_true rfl)
  generalize (lg_sl ([.ref o, .ref pa, .int (nI n)]) ++ List.replicate (4 - (lg_sl ([.ref o, .ref pa, .int (nI n)])).length) Slot.unset).toArray = ls at hl ⊢
  have hl : lv_has ls 4 [(0, .ref o), (1, .ref pa), (2, .int (nI n))] := hl
  obtain ⟨Q, hQ⟩ : ∃ Q, Q = MQ below (mQv D A (fun (u : Unit) => True) (fun (u : Unit) => [(o, .inr (0, [.ref a1, .ref a2, .int (nI (nl + 1)), .int (nI nv)])), (a1, aN cI 640 (wrG pd g nl n nv)), (a2, aN cI 80 (wrZ z nl n nv)), (pa, aN cI 8 pd)])) args s 0 0 A := ⟨_, rfl⟩
  rw [← hQ]
  have i_X0 : ∀ w ∈ u_ws RX0 TX0 4, w ∈ wsX0_addLine := by decide +kernel
  have f_18 := hts (.fieldLink RX0 18 "SameAgain$Code" "lineCount" "I") (by decide +kernel)
  have f_22 := hts (.fieldLink RX0 22 "SameAgain$Code" "versionCount" "I") (by decide +kernel)
  refine lv_aload_n hx hb dX0_addLine_0 rfl (lv_at hl 0 rfl) ?_
  refine va_get (D := D) (ci := 0) (v := .int (nI nl)) (C := RX0) (T := TX0) (N := 4) hx hb hts i_X0 hown hK.1 hP 0 rfl rfl 2 (by decide) f_18 (fun _ h9 => h9) rfl dX0_addLine_1 ?_
  refine lv_bipush (v := nI 20) hx hb dX0_addLine_4 (by decide) ?_
  refine m_cmp_lt (tgt := 10) hx hb dX0_addLine_6 (by decide) (by omega) (by omega) (fun c_6 => ?_) (fun c_6 => absurd c_6 (by omega))
  refine lv_aload_n hx hb dX0_addLine_10 rfl (lv_at hl 0 rfl) ?_
  refine lv_dup hx hb dX0_addLine_11 rfl ?_
  refine va_get (D := D) (ci := 0) (v := .int (nI nl)) (C := RX0) (T := TX0) (N := 4) hx hb hts i_X0 hown hK.1 hP 0 rfl rfl 2 (by decide) f_18 (fun _ h9 => h9) rfl dX0_addLine_12 ?_
  refine lv_iconst (v := nI 1) hx hb dX0_addLine_15 (by decide) ?_
  refine m_add hx hb dX0_addLine_16 ?_
  refine va_put (D := D) (ci := 0) (v := .int (nI (nl + 1))) (ty := .int) (C := RX0) (T := TX0) (N := 4) hx hb hts i_X0 tyX0 tyX0_ok nmX0 hown hK.1 hP hD hS 0 rfl rfl 2 (by decide) f_18 (fun _ h9 => h9) rfl (by decide +kernel) rfl rfl (Nat.le_of_ble_eq_true rfl) dX0_addLine_17 (fun H locs hP hD hS => ?_)
  have hP : va_P D vwCl [(o, .inr (0, [.ref a1, .ref a2, .int (nI (nl + 1)), .int (nI nv)])), (a1, aN cI 640 g), (a2, aN cI 80 z), (pa, aN cI 8 pd)] H := hP
  have hD : va_D A [(o, .inr (0, [.ref a1, .ref a2, .int (nI (nl + 1)), .int (nI nv)])), (a1, aN cI 640 g), (a2, aN cI 80 z), (pa, aN cI 8 pd)] := hD
  refine lv_iconst (v := nI 0) hx hb dX0_addLine_20 (by decide) ?_
  refine lv_istore_n (lv' := [(3, .int (nI 0)), (0, .ref o), (1, .ref pa), (2, .int (nI n))]) hx hb dX0_addLine_21 rfl hl (by decide) rfl (fun ls hl => ?_)
  have loop_22 : ∀ (fu : Nat) (i : Nat) (hfu : nv - i < fu)  (hi : i ≤ nv) (H : Heap) (locs : List Loc) (hP : va_P D vwCl [(o, .inr (0, [.ref a1, .ref a2, .int (nI (nl + 1)), .int (nI nv)])), (a1, aN cI 640 (wrG pd g nl n i)), (a2, aN cI 80 (wrZ z nl n i)), (pa, aN cI 8 pd)] H) (hD : va_D A [(o, .inr (0, [.ref a1, .ref a2, .int (nI (nl + 1)), .int (nI nv)])), (a1, aN cI 640 (wrG pd g nl n i)), (a2, aN cI 80 (wrZ z nl n i)), (pa, aN cI 8 pd)]) (hS : va_S A s.heap H locs) (ls : Array Slot) (hl : lv_has ls 4 [(0, .ref o), (1, .ref pa), (2, .int (nI n)), (3, .int (nI i))]), W p l e (headSpec wsX0_addLine { frames := 2, cells := 0, slots := 0, locals := 73 }).room s m args below meth c H locs 0 0 Q (F0 m 22 ls []) := by
    intro fu
    induction fu with
    | zero => intro i hfu; exact absurd hfu (Nat.not_lt_zero _)
    | succ fu ih_22 =>
      intro i hfu hi H locs hP hD hS ls hl
      refine lv_iload_n hx hb dX0_addLine_22 rfl (lv_at hl 3 rfl) ?_
      refine lv_aload_n hx hb dX0_addLine_23 rfl (lv_at hl 0 rfl) ?_
      refine va_get (D := D) (ci := 0) (v := .int (nI nv)) (C := RX0) (T := TX0) (N := 4) hx hb hts i_X0 hown hK.1 hP 0 rfl rfl 3 (by decide) f_22 (fun _ h9 => h9) rfl dX0_addLine_24 ?_
      refine m_cmp_ge (tgt := 49) hx hb dX0_addLine_27 (by decide) (by omega) (by omega) (fun c_27 => ?_) (fun c_27 => ?_)
      · rw [hQ]
        have e9 : i = nv := by omega
        subst e9
        exact m_vwr hx hb hr hlocks () (trivial) hP hS dX0_addLine_49
      · refine lv_aload_n hx hb dX0_addLine_30 rfl (lv_at hl 0 rfl) ?_
        refine lv_iload_n hx hb dX0_addLine_31 rfl (lv_at hl 3 rfl) ?_
        refine lv_aload_n hx hb dX0_addLine_32 rfl (lv_at hl 0 rfl) ?_
        refine va_get (D := D) (ci := 0) (v := .int (nI (nl + 1))) (C := RX0) (T := TX0) (N := 4) hx hb hts i_X0 hown hK.1 hP 0 rfl rfl 2 (by decide) f_18 (fun _ h9 => h9) rfl dX0_addLine_33 ?_
        refine lv_iconst (v := nI 1) hx hb dX0_addLine_36 (by decide) ?_
        refine m_sub hx hb (by omega) dX0_addLine_37 ?_
        refine m_top (y := nI nl) rfl ?_
        refine lv_aload_n hx hb dX0_addLine_38 rfl (lv_at hl 1 rfl) ?_
        refine lv_iload_n hx hb dX0_addLine_39 rfl (lv_at hl 2 rfl) ?_
        refine m_wvV (As := [.int (nI i), .int (nI nl), .ref pa, .int (nI n)]) (rest := []) (wc := [(o, .inr (0, [.ref a1, .ref a2, .int (nI (nl + 1)), .int (nI nv)])), (a1, aN cI 640 (wrG pd g nl n i)), (a2, aN cI 80 (wrZ z nl n i)), (pa, aN cI 8 pd)]) hcf (k_X0_write (l := l) (D := D) (cI := cI) (cZ := cZ) (v := i) (ln := nl) (pa := pa) (n := n) (o := o) (a1 := a1) (a2 := a2) (nl := nl + 1) (nv := nv) (g := wrG pd g nl n i) (z := wrZ z nl n i) (pd := pd) (hnl := by omega) (hnv := hnv) (hv := by omega) (hln := by omega) (hn8 := hn8)) (cwV 4 hts gX0_addLine_X0_write rfl rfl rfl yd_X0_write ⟨Nat.le_of_ble_eq_true rfl, Nat.le_of_ble_eq_true rfl⟩) hK hP hD hS [0, 1, 2, 3] (by decide) rfl rfl rfl rfl hl.1 rfl (Nat.le_of_ble_eq_true rfl) dX0_addLine_40 ⟨Nat.zero_le _, Nat.zero_le _⟩ (fun _ => rfl) (fun (u : Unit) => [(o, .inr (0, [.ref a1, .ref a2, .int (nI (nl + 1)), .int (nI nv)])), (a1, aN cI 640 (cpN pd (wrG pd g nl n i) 0 ((i * 20 + nl) * 8) n)), (a2, aN cI 80 (upN (wrZ z nl n i) (i * 20 + nl) n)), (pa, aN cI 8 pd)]) (fun _ => rfl) (fun u H locs hp_40 hP hD hS => ?_)
        have hP : va_P D vwCl [(o, .inr (0, [.ref a1, .ref a2, .int (nI (nl + 1)), .int (nI nv)])), (a1, aN cI 640 (cpN pd (wrG pd g nl n i) 0 ((i * 20 + nl) * 8) n)), (a2, aN cI 80 (upN (wrZ z nl n i) (i * 20 + nl) n)), (pa, aN cI 8 pd)] H := hP
        have hD : va_D A [(o, .inr (0, [.ref a1, .ref a2, .int (nI (nl + 1)), .int (nI nv)])), (a1, aN cI 640 (cpN pd (wrG pd g nl n i) 0 ((i * 20 + nl) * 8) n)), (a2, aN cI 80 (upN (wrZ z nl n i) (i * 20 + nl) n)), (pa, aN cI 8 pd)] := hD
        refine lv_iinc (v := nI (i + 1)) (lv' := [(3, .int (nI (i + 1))), (0, .ref o), (1, .ref pa), (2, .int (nI n))]) hx hb dX0_addLine_43 hl (k := 3) rfl (by rw [nI_succ]; rfl) (by decide) rfl (fun ls hl => ?_)
        refine lv_goto (tgt := 22) hx hb dX0_addLine_46 (by decide) ?_
        exact ih_22 (i + 1) (by omega) (by omega) _ _ hP hD hS ls (lv_sub hl [1, 2, 3, 0] rfl)
  exact loop_22 (nv + 1) 0 (by omega) (by omega) _ _ hP hD hS ls (lv_sub hl [1, 2, 3, 0] rfl)

theorem yd_X0_addVersion : yX0_addVersion.cls = RX0 ∧ yX0_addVersion.cls ≠ "java/lang/invoke/MethodHandle" ∧ yX0_addVersion.cls ≠ "java/lang/invoke/VarHandle" ∧ (parseMethodDescriptor yX0_addVersion.desc).map (fun d => d.parameters.length) = some 0 := by decide +kernel
set_option maxHeartbeats 4000000 in
set_option maxRecDepth 100000 in
theorem k_X0_addVersion (l : Launch) (D : va_G) (cI cZ : ClassId) (o a1 a2 nl nv : Nat) (z g : Nat → Nat) (hnv1 : 1 ≤ nv) (hnv : nv < 4) : Met l yX0_addVersion wsX0_addVersion ({ frames := 1, cells := 0, slots := 0, locals := 48 }) (mPc [.ref o] D cI cZ [(o, .inr (0, [.ref a1, .ref a2, .int (nI nl), .int (nI nv)])), (a1, aN cI 640 g), (a2, aN cI 80 z)]) (mQv D (mA [(o, .inr (0, [.ref a1, .ref a2, .int (nI nl), .int (nI nv)])), (a1, aN cI 640 g), (a2, aN cI 80 z)]) (fun (u : Unit) => True) (fun (u : Unit) => [(o, .inr (0, [.ref a1, .ref a2, .int (nI nl), .int (nI (nv + 1))])), (a1, aN cI 640 (cpN g g ((nv - 1) * 20 * 8) (nv * 20 * 8) 160)), (a2, aN cI 80 (cpN z z ((nv - 1) * 20) (nv * 20) 20))])) 0 0 (mA [(o, .inr (0, [.ref a1, .ref a2, .int (nI nl), .int (nI nv)])), (a1, aN cI 640 g), (a2, aN cI 80 z)]) := by
  refine Met.ofW (cc := cX0_addVersion) (maxL := 3) (ret := none) (by decide) rfl ?_
  intro p e s m args below meth c s₁ BB hml hv
  obtain ⟨hargs, hP, hD0, hK⟩ := hv
  have hx := BB.exec
  have hb := BB.bytes
  have hr := BB.returns
  have hts := atoms_spec (ws := wsX0_addVersion) BB.pre
  have hown : s.vm.findClass RX0 = some m.cls := findClass_of_methodNamed BB.named
  have hlocks := BB.notSynchronized
  have hcf : CallFix p m c cX0_addVersion 3 s args wsX0_addVersion RX0 := ⟨hx, hb, hml, hown, hts⟩
  obtain ⟨A, hAe⟩ : ∃ A, A = mA [(o, .inr (0, [.ref a1, .ref a2, .int (nI nl), .int (nI nv)])), (a1, aN cI 640 g), (a2, aN cI 80 z)] := ⟨_, rfl⟩
  have hD : va_D A [(o, .inr (0, [.ref a1, .ref a2, .int (nI nl), .int (nI nv)])), (a1, aN cI 640 g), (a2, aN cI 80 z)] := ⟨hD0.1, fun k q h => by rw [hAe]; exact ⟨k, q.2, h⟩⟩
  have hS : va_S A s.heap s.heap [] := va_S.rf
  rw [← hAe]
  rw [hargs, lg_entry_eq, ← hargs]
  have hl := lv_entry ([.ref o]) (n := 3) (Nat.le_of_ble_eq_true rfl)
  generalize (lg_sl ([.ref o]) ++ List.replicate (3 - (lg_sl ([.ref o])).length) Slot.unset).toArray = ls at hl ⊢
  have hl : lv_has ls 3 [(0, .ref o)] := hl
  obtain ⟨Q, hQ⟩ : ∃ Q, Q = MQ below (mQv D A (fun (u : Unit) => True) (fun (u : Unit) => [(o, .inr (0, [.ref a1, .ref a2, .int (nI nl), .int (nI (nv + 1))])), (a1, aN cI 640 (cpN g g ((nv - 1) * 20 * 8) (nv * 20 * 8) 160)), (a2, aN cI 80 (cpN z z ((nv - 1) * 20) (nv * 20) 20))])) args s 0 0 A := ⟨_, rfl⟩
  rw [← hQ]
  have i_X0 : ∀ w ∈ u_ws RX0 TX0 4, w ∈ wsX0_addVersion := by decide +kernel
  have f_22 := hts (.fieldLink RX0 22 "SameAgain$Code" "versionCount" "I") (by decide +kernel)
  have f_15 := hts (.fieldLink RX0 15 "SameAgain$Code" "sizes" "[I") (by decide +kernel)
  have l_32 := hts (.methodLink RX0 32 arraycopyName) (by decide +kernel)
  have l_nat := hts (.native arraycopyName) (by decide +kernel)
  have l_stat := hts (.static arraycopyName) (by decide +kernel)
  have l_sys := hts (.initialized "java/lang/System") (by decide +kernel)
  have f_9 := hts (.fieldLink RX0 9 "SameAgain$Code" "signs" "[I") (by decide +kernel)
  refine lv_aload_n hx hb dX0_addVersion_0 rfl (lv_at hl 0 rfl) ?_
  refine va_get (D := D) (ci := 0) (v := .int (nI nv)) (C := RX0) (T := TX0) (N := 4) hx hb hts i_X0 hown hK.1 hP 0 rfl rfl 3 (by decide) f_22 (fun _ h9 => h9) rfl dX0_addVersion_1 ?_
  refine lv_iconst (v := nI 1) hx hb dX0_addVersion_4 (by decide) ?_
  refine m_cmp_lt (tgt := 16) hx hb dX0_addVersion_5 (by decide) (by omega) (by omega) (fun c_5 => absurd c_5 (by omega)) (fun c_5 => ?_)
  refine lv_aload_n hx hb dX0_addVersion_8 rfl (lv_at hl 0 rfl) ?_
  refine va_get (D := D) (ci := 0) (v := .int (nI nv)) (C := RX0) (T := TX0) (N := 4) hx hb hts i_X0 hown hK.1 hP 0 rfl rfl 3 (by decide) f_22 (fun _ h9 => h9) rfl dX0_addVersion_9 ?_
  refine lv_iconst (v := nI 4) hx hb dX0_addVersion_12 (by decide) ?_
  refine m_cmp_lt (tgt := 17) hx hb dX0_addVersion_13 (by decide) (by omega) (by omega) (fun c_13 => ?_) (fun c_13 => absurd c_13 (by omega))
  refine lv_aload_n hx hb dX0_addVersion_17 rfl (lv_at hl 0 rfl) ?_
  refine va_get (D := D) (ci := 0) (v := .int (nI nv)) (C := RX0) (T := TX0) (N := 4) hx hb hts i_X0 hown hK.1 hP 0 rfl rfl 3 (by decide) f_22 (fun _ h9 => h9) rfl dX0_addVersion_18 ?_
  refine lv_iconst (v := nI 1) hx hb dX0_addVersion_21 (by decide) ?_
  refine m_sub hx hb (by omega) dX0_addVersion_22 ?_
  refine lv_bipush (v := nI 20) hx hb dX0_addVersion_23 (by decide) ?_
  refine m_mul hx hb dX0_addVersion_25 ?_
  refine lv_istore_n (lv' := [(1, .int (nI ((nv - 1) * 20))), (0, .ref o)]) hx hb dX0_addVersion_26 rfl hl (by decide) rfl (fun ls hl => ?_)
  refine lv_aload_n hx hb dX0_addVersion_27 rfl (lv_at hl 1 rfl) ?_
  refine va_get (D := D) (ci := 0) (v := .int (nI nv)) (C := RX0) (T := TX0) (N := 4) hx hb hts i_X0 hown hK.1 hP 0 rfl rfl 3 (by decide) f_22 (fun _ h9 => h9) rfl dX0_addVersion_28 ?_
  refine lv_bipush (v := nI 20) hx hb dX0_addVersion_31 (by decide) ?_
  refine m_mul hx hb dX0_addVersion_33 ?_
  refine lv_istore_n (lv' := [(2, .int (nI (nv * 20))), (1, .int (nI ((nv - 1) * 20))), (0, .ref o)]) hx hb dX0_addVersion_34 rfl hl (by decide) rfl (fun ls hl => ?_)
  refine lv_aload_n hx hb dX0_addVersion_35 rfl (lv_at hl 2 rfl) ?_
  refine va_get (D := D) (ci := 0) (v := .ref a2) (C := RX0) (T := TX0) (N := 4) hx hb hts i_X0 hown hK.1 hP 0 rfl rfl 1 (by decide) f_15 (fun _ h9 => h9) rfl dX0_addVersion_36 ?_
  refine lv_iload_n hx hb dX0_addVersion_39 rfl (lv_at hl 1 rfl) ?_
  refine lv_aload_n hx hb dX0_addVersion_40 rfl (lv_at hl 2 rfl) ?_
  refine va_get (D := D) (ci := 0) (v := .ref a2) (C := RX0) (T := TX0) (N := 4) hx hb hts i_X0 hown hK.1 hP 0 rfl rfl 1 (by decide) f_15 (fun _ h9 => h9) rfl dX0_addVersion_41 ?_
  refine lv_iload_n hx hb dX0_addVersion_44 rfl (lv_at hl 0 rfl) ?_
  refine lv_bipush (v := nI 20) hx hb dX0_addVersion_45 (by decide) ?_
  refine m_copy hx hb (hml.trans hl.1.symm) hown l_32 l_nat l_stat l_sys hK hP hD hS 2 2 rfl rfl (by decide) (by decide) (by omega) (by omega) (Nat.le_of_ble_eq_true rfl) (Nat.le_of_ble_eq_true rfl) dX0_addVersion_47 (ws' := [(o, .inr (0, [.ref a1, .ref a2, .int (nI nl), .int (nI nv)])), (a1, aN cI 640 g), (a2, aN cI 80 (cpN z z ((nv - 1) * 20) (nv * 20) 20))]) rfl (fun H locs hP hD hS => ?_)
  refine lv_aload_n hx hb dX0_addVersion_50 rfl (lv_at hl 2 rfl) ?_
  refine va_get (D := D) (ci := 0) (v := .ref a1) (C := RX0) (T := TX0) (N := 4) hx hb hts i_X0 hown hK.1 hP 0 rfl rfl 0 (by decide) f_9 (fun _ h9 => h9) rfl dX0_addVersion_51 ?_
  refine lv_iload_n hx hb dX0_addVersion_54 rfl (lv_at hl 1 rfl) ?_
  refine lv_bipush (v := nI 8) hx hb dX0_addVersion_55 (by decide) ?_
  refine m_mul hx hb dX0_addVersion_57 ?_
  refine lv_aload_n hx hb dX0_addVersion_58 rfl (lv_at hl 2 rfl) ?_
  refine va_get (D := D) (ci := 0) (v := .ref a1) (C := RX0) (T := TX0) (N := 4) hx hb hts i_X0 hown hK.1 hP 0 rfl rfl 0 (by decide) f_9 (fun _ h9 => h9) rfl dX0_addVersion_59 ?_
  refine lv_iload_n hx hb dX0_addVersion_62 rfl (lv_at hl 0 rfl) ?_
  refine lv_bipush (v := nI 8) hx hb dX0_addVersion_63 (by decide) ?_
  refine m_mul hx hb dX0_addVersion_65 ?_
  refine lv_sipush (v := nI 160) hx hb dX0_addVersion_66 (by decide) ?_
  refine m_copy hx hb (hml.trans hl.1.symm) hown l_32 l_nat l_stat l_sys hK hP hD hS 1 1 rfl rfl (by decide) (by decide) (by omega) (by omega) (Nat.le_of_ble_eq_true rfl) (Nat.le_of_ble_eq_true rfl) dX0_addVersion_69 (ws' := [(o, .inr (0, [.ref a1, .ref a2, .int (nI nl), .int (nI nv)])), (a1, aN cI 640 (cpN g g (((nv - 1) * 20) * 8) ((nv * 20) * 8) 160)), (a2, aN cI 80 (cpN z z ((nv - 1) * 20) (nv * 20) 20))]) rfl (fun H locs hP hD hS => ?_)
  refine lv_aload_n hx hb dX0_addVersion_72 rfl (lv_at hl 2 rfl) ?_
  refine lv_dup hx hb dX0_addVersion_73 rfl ?_
  refine va_get (D := D) (ci := 0) (v := .int (nI nv)) (C := RX0) (T := TX0) (N := 4) hx hb hts i_X0 hown hK.1 hP 0 rfl rfl 3 (by decide) f_22 (fun _ h9 => h9) rfl dX0_addVersion_74 ?_
  refine lv_iconst (v := nI 1) hx hb dX0_addVersion_77 (by decide) ?_
  refine m_add hx hb dX0_addVersion_78 ?_
  refine va_put (D := D) (ci := 0) (v := .int (nI (nv + 1))) (ty := .int) (C := RX0) (T := TX0) (N := 4) hx hb hts i_X0 tyX0 tyX0_ok nmX0 hown hK.1 hP hD hS 0 rfl rfl 3 (by decide) f_22 (fun _ h9 => h9) rfl (by decide +kernel) rfl rfl (Nat.le_of_ble_eq_true rfl) dX0_addVersion_79 (fun H locs hP hD hS => ?_)
  have hP : va_P D vwCl [(o, .inr (0, [.ref a1, .ref a2, .int (nI nl), .int (nI (nv + 1))])), (a1, aN cI 640 (cpN g g (((nv - 1) * 20) * 8) ((nv * 20) * 8) 160)), (a2, aN cI 80 (cpN z z ((nv - 1) * 20) (nv * 20) 20))] H := hP
  have hD : va_D A [(o, .inr (0, [.ref a1, .ref a2, .int (nI nl), .int (nI (nv + 1))])), (a1, aN cI 640 (cpN g g (((nv - 1) * 20) * 8) ((nv * 20) * 8) 160)), (a2, aN cI 80 (cpN z z ((nv - 1) * 20) (nv * 20) 20))] := hD
  rw [hQ]
  exact m_vwr hx hb hr hlocks () (trivial) hP hS dX0_addVersion_82

theorem yd_X0_becomeAs : yX0_becomeAs.cls = RX0 ∧ yX0_becomeAs.cls ≠ "java/lang/invoke/MethodHandle" ∧ yX0_becomeAs.cls ≠ "java/lang/invoke/VarHandle" ∧ (parseMethodDescriptor yX0_becomeAs.desc).map (fun d => d.parameters.length) = some 1 := by decide +kernel
set_option maxHeartbeats 4000000 in
set_option maxRecDepth 100000 in
theorem k_X0_becomeAs (l : Launch) (D : va_G) (cI cZ : ClassId) (o a1 a2 nl nv o2 b1 b2 nl2 nv2 : Nat) (z g z2 g2 : Nat → Nat)  : Met l yX0_becomeAs wsX0_becomeAs ({ frames := 1, cells := 0, slots := 0, locals := 48 }) (mPc [.ref o, .ref o2] D cI cZ [(o, .inr (0, [.ref a1, .ref a2, .int (nI nl), .int (nI nv)])), (a1, aN cI 640 g), (a2, aN cI 80 z), (o2, .inr (0, [.ref b1, .ref b2, .int (nI nl2), .int (nI nv2)])), (b1, aN cI 640 g2), (b2, aN cI 80 z2)]) (mQv D (mA [(o, .inr (0, [.ref a1, .ref a2, .int (nI nl), .int (nI nv)])), (a1, aN cI 640 g), (a2, aN cI 80 z), (o2, .inr (0, [.ref b1, .ref b2, .int (nI nl2), .int (nI nv2)])), (b1, aN cI 640 g2), (b2, aN cI 80 z2)]) (fun (u : Unit) => True) (fun (u : Unit) => [(o, .inr (0, [.ref a1, .ref a2, .int (nI nl2), .int (nI nv2)])), (a1, aN cI 640 (cpN g2 g 0 0 640)), (a2, aN cI 80 (cpN z2 z 0 0 80)), (o2, .inr (0, [.ref b1, .ref b2, .int (nI nl2), .int (nI nv2)])), (b1, aN cI 640 g2), (b2, aN cI 80 z2)])) 0 0 (mA [(o, .inr (0, [.ref a1, .ref a2, .int (nI nl), .int (nI nv)])), (a1, aN cI 640 g), (a2, aN cI 80 z), (o2, .inr (0, [.ref b1, .ref b2, .int (nI nl2), .int (nI nv2)])), (b1, aN cI 640 g2), (b2, aN cI 80 z2)]) := by
  refine Met.ofW (cc := cX0_becomeAs) (maxL := 2) (ret := none) (by decide) rfl ?_
  intro p e s m args below meth c s₁ BB hml hv
  obtain ⟨hargs, hP, hD0, hK⟩ := hv
  have hx := BB.exec
  have hb := BB.bytes
  have hr := BB.returns
  have hts := atoms_spec (ws := wsX0_becomeAs) BB.pre
  have hown : s.vm.findClass RX0 = some m.cls := findClass_of_methodNamed BB.named
  have hlocks := BB.notSynchronized
  have hcf : CallFix p m c cX0_becomeAs 2 s args wsX0_becomeAs RX0 := ⟨hx, hb, hml, hown, hts⟩
  obtain ⟨A, hAe⟩ : ∃ A, A = mA [(o, .inr (0, [.ref a1, .ref a2, .int (nI nl), .int (nI nv)])), (a1, aN cI 640 g), (a2, aN cI 80 z), (o2, .inr (0, [.ref b1, .ref b2, .int (nI nl2), .int (nI nv2)])), (b1, aN cI 640 g2), (b2, aN cI 80 z2)] := ⟨_, rfl⟩
  have hD : va_D A [(o, .inr (0, [.ref a1, .ref a2, .int (nI nl), .int (nI nv)])), (a1, aN cI 640 g), (a2, aN cI 80 z), (o2, .inr (0, [.ref b1, .ref b2, .int (nI nl2), .int (nI nv2)])), (b1, aN cI 640 g2), (b2, aN cI 80 z2)] := ⟨hD0.1, fun k q h => by rw [hAe]; exact ⟨k, q.2, h⟩⟩
  have hS : va_S A s.heap s.heap [] := va_S.rf
  rw [← hAe]
  rw [hargs, lg_entry_eq, ← hargs]
  have hl := lv_entry ([.ref o, .ref o2]) (n := 2) (Nat.le_of_ble_eq_true rfl)
  generalize (lg_sl ([.ref o, .ref o2]) ++ List.replicate (2 - (lg_sl ([.ref o, .ref o2])).length) Slot.unset).toArray = ls at hl ⊢
  have hl : lv_has ls 2 [(0, .ref o), (1, .ref o2)] := hl
  obtain ⟨Q, hQ⟩ : ∃ Q, Q = MQ below (mQv D A (fun (u : Unit) => True) (fun (u : Unit) => [(o, .inr (0, [.ref a1, .ref a2, .int (nI nl2), .int (nI nv2)])), (a1, aN cI 640 (cpN g2 g 0 0 640)), (a2, aN cI 80 (cpN z2 z 0 0 80)), (o2, .inr (0, [.ref b1, .ref b2, .int (nI nl2), .int (nI nv2)])), (b1, aN cI 640 g2), (b2, aN cI 80 z2)])) args s 0 0 A := ⟨_, rfl⟩
  rw [← hQ]
  have i_X0 : ∀ w ∈ u_ws RX0 TX0 4, w ∈ wsX0_becomeAs := by decide +kernel
  have f_9 := hts (.fieldLink RX0 9 "SameAgain$Code" "signs" "[I") (by decide +kernel)
  have l_32 := hts (.methodLink RX0 32 arraycopyName) (by decide +kernel)
  have l_nat := hts (.native arraycopyName) (by decide +kernel)
  have l_stat := hts (.static arraycopyName) (by decide +kernel)
  have l_sys := hts (.initialized "java/lang/System") (by decide +kernel)
  have f_15 := hts (.fieldLink RX0 15 "SameAgain$Code" "sizes" "[I") (by decide +kernel)
  have f_18 := hts (.fieldLink RX0 18 "SameAgain$Code" "lineCount" "I") (by decide +kernel)
  have f_22 := hts (.fieldLink RX0 22 "SameAgain$Code" "versionCount" "I") (by decide +kernel)
  refine lv_aload_n hx hb dX0_becomeAs_0 rfl (lv_at hl 1 rfl) ?_
  refine va_get (D := D) (ci := 0) (v := .ref b1) (C := RX0) (T := TX0) (N := 4) hx hb hts i_X0 hown hK.1 hP 3 rfl rfl 0 (by decide) f_9 (fun _ h9 => h9) rfl dX0_becomeAs_1 ?_
  refine lv_iconst (v := nI 0) hx hb dX0_becomeAs_4 (by decide) ?_
  refine lv_aload_n hx hb dX0_becomeAs_5 rfl (lv_at hl 0 rfl) ?_
  refine va_get (D := D) (ci := 0) (v := .ref a1) (C := RX0) (T := TX0) (N := 4) hx hb hts i_X0 hown hK.1 hP 0 rfl rfl 0 (by decide) f_9 (fun _ h9 => h9) rfl dX0_becomeAs_6 ?_
  refine lv_iconst (v := nI 0) hx hb dX0_becomeAs_9 (by decide) ?_
  refine lv_aload_n hx hb dX0_becomeAs_10 rfl (lv_at hl 0 rfl) ?_
  refine va_get (D := D) (ci := 0) (v := .ref a1) (C := RX0) (T := TX0) (N := 4) hx hb hts i_X0 hown hK.1 hP 0 rfl rfl 0 (by decide) f_9 (fun _ h9 => h9) rfl dX0_becomeAs_11 ?_
  refine m_alen hx hb hK hP 1 rfl dX0_becomeAs_14 ?_
  refine m_copy hx hb (hml.trans hl.1.symm) hown l_32 l_nat l_stat l_sys hK hP hD hS 4 1 rfl rfl (by decide) (by decide) (by omega) (by omega) (Nat.le_of_ble_eq_true rfl) (Nat.le_of_ble_eq_true rfl) dX0_becomeAs_15 (ws' := [(o, .inr (0, [.ref a1, .ref a2, .int (nI nl), .int (nI nv)])), (a1, aN cI 640 (cpN g2 g 0 0 640)), (a2, aN cI 80 z), (o2, .inr (0, [.ref b1, .ref b2, .int (nI nl2), .int (nI nv2)])), (b1, aN cI 640 g2), (b2, aN cI 80 z2)]) rfl (fun H locs hP hD hS => ?_)
  refine lv_aload_n hx hb dX0_becomeAs_18 rfl (lv_at hl 1 rfl) ?_
  refine va_get (D := D) (ci := 0) (v := .ref b2) (C := RX0) (T := TX0) (N := 4) hx hb hts i_X0 hown hK.1 hP 3 rfl rfl 1 (by decide) f_15 (fun _ h9 => h9) rfl dX0_becomeAs_19 ?_
  refine lv_iconst (v := nI 0) hx hb dX0_becomeAs_22 (by decide) ?_
  refine lv_aload_n hx hb dX0_becomeAs_23 rfl (lv_at hl 0 rfl) ?_
  refine va_get (D := D) (ci := 0) (v := .ref a2) (C := RX0) (T := TX0) (N := 4) hx hb hts i_X0 hown hK.1 hP 0 rfl rfl 1 (by decide) f_15 (fun _ h9 => h9) rfl dX0_becomeAs_24 ?_
  refine lv_iconst (v := nI 0) hx hb dX0_becomeAs_27 (by decide) ?_
  refine lv_aload_n hx hb dX0_becomeAs_28 rfl (lv_at hl 0 rfl) ?_
  refine va_get (D := D) (ci := 0) (v := .ref a2) (C := RX0) (T := TX0) (N := 4) hx hb hts i_X0 hown hK.1 hP 0 rfl rfl 1 (by decide) f_15 (fun _ h9 => h9) rfl dX0_becomeAs_29 ?_
  refine m_alen hx hb hK hP 2 rfl dX0_becomeAs_32 ?_
  refine m_copy hx hb (hml.trans hl.1.symm) hown l_32 l_nat l_stat l_sys hK hP hD hS 5 2 rfl rfl (by decide) (by decide) (by omega) (by omega) (Nat.le_of_ble_eq_true rfl) (Nat.le_of_ble_eq_true rfl) dX0_becomeAs_33 (ws' := [(o, .inr (0, [.ref a1, .ref a2, .int (nI nl), .int (nI nv)])), (a1, aN cI 640 (cpN g2 g 0 0 640)), (a2, aN cI 80 (cpN z2 z 0 0 80)), (o2, .inr (0, [.ref b1, .ref b2, .int (nI nl2), .int (nI nv2)])), (b1, aN cI 640 g2), (b2, aN cI 80 z2)]) rfl (fun H locs hP hD hS => ?_)
  refine lv_aload_n hx hb dX0_becomeAs_36 rfl (lv_at hl 0 rfl) ?_
  refine lv_aload_n hx hb dX0_becomeAs_37 rfl (lv_at hl 1 rfl) ?_
  refine va_get (D := D) (ci := 0) (v := .int (nI nl2)) (C := RX0) (T := TX0) (N := 4) hx hb hts i_X0 hown hK.1 hP 3 rfl rfl 2 (by decide) f_18 (fun _ h9 => h9) rfl dX0_becomeAs_38 ?_
  refine va_put (D := D) (ci := 0) (v := .int (nI nl2)) (ty := .int) (C := RX0) (T := TX0) (N := 4) hx hb hts i_X0 tyX0 tyX0_ok nmX0 hown hK.1 hP hD hS 0 rfl rfl 2 (by decide) f_18 (fun _ h9 => h9) rfl (by decide +kernel) rfl rfl (Nat.le_of_ble_eq_true rfl) dX0_becomeAs_41 (fun H locs hP hD hS => ?_)
  have hP : va_P D vwCl [(o, .inr (0, [.ref a1, .ref a2, .int (nI nl2), .int (nI nv)])), (a1, aN cI 640 (cpN g2 g 0 0 640)), (a2, aN cI 80 (cpN z2 z 0 0 80)), (o2, .inr (0, [.ref b1, .ref b2, .int (nI nl2), .int (nI nv2)])), (b1, aN cI 640 g2), (b2, aN cI 80 z2)] H := hP
  have hD : va_D A [(o, .inr (0, [.ref a1, .ref a2, .int (nI nl2), .int (nI nv)])), (a1, aN cI 640 (cpN g2 g 0 0 640)), (a2, aN cI 80 (cpN z2 z 0 0 80)), (o2, .inr (0, [.ref b1, .ref b2, .int (nI nl2), .int (nI nv2)])), (b1, aN cI 640 g2), (b2, aN cI 80 z2)] := hD
  refine lv_aload_n hx hb dX0_becomeAs_44 rfl (lv_at hl 0 rfl) ?_
  refine lv_aload_n hx hb dX0_becomeAs_45 rfl (lv_at hl 1 rfl) ?_
  refine va_get (D := D) (ci := 0) (v := .int (nI nv2)) (C := RX0) (T := TX0) (N := 4) hx hb hts i_X0 hown hK.1 hP 3 rfl rfl 3 (by decide) f_22 (fun _ h9 => h9) rfl dX0_becomeAs_46 ?_
  refine va_put (D := D) (ci := 0) (v := .int (nI nv2)) (ty := .int) (C := RX0) (T := TX0) (N := 4) hx hb hts i_X0 tyX0 tyX0_ok nmX0 hown hK.1 hP hD hS 0 rfl rfl 3 (by decide) f_22 (fun _ h9 => h9) rfl (by decide +kernel) rfl rfl (Nat.le_of_ble_eq_true rfl) dX0_becomeAs_49 (fun H locs hP hD hS => ?_)
  have hP : va_P D vwCl [(o, .inr (0, [.ref a1, .ref a2, .int (nI nl2), .int (nI nv2)])), (a1, aN cI 640 (cpN g2 g 0 0 640)), (a2, aN cI 80 (cpN z2 z 0 0 80)), (o2, .inr (0, [.ref b1, .ref b2, .int (nI nl2), .int (nI nv2)])), (b1, aN cI 640 g2), (b2, aN cI 80 z2)] H := hP
  have hD : va_D A [(o, .inr (0, [.ref a1, .ref a2, .int (nI nl2), .int (nI nv2)])), (a1, aN cI 640 (cpN g2 g 0 0 640)), (a2, aN cI 80 (cpN z2 z 0 0 80)), (o2, .inr (0, [.ref b1, .ref b2, .int (nI nl2), .int (nI nv2)])), (b1, aN cI 640 g2), (b2, aN cI 80 z2)] := hD
  rw [hQ]
  exact m_vwr hx hb hr hlocks () (trivial) hP hS dX0_becomeAs_52

theorem yd_X0_staysAsItIs : yX0_staysAsItIs.cls = RX0 ∧ yX0_staysAsItIs.cls ≠ "java/lang/invoke/MethodHandle" ∧ yX0_staysAsItIs.cls ≠ "java/lang/invoke/VarHandle" ∧ (parseMethodDescriptor yX0_staysAsItIs.desc).map (fun d => d.parameters.length) = some 2 := by decide +kernel
set_option maxHeartbeats 4000000 in
set_option maxRecDepth 100000 in
theorem k_X0_staysAsItIs (l : Launch) (D : va_G) (cI cZ : ClassId) (o a1 a2 nl nv : Nat) (z g : Nat → Nat) (v ln : Nat) (hnl : nl ≤ 20) (hnv : nv ≤ 4) (hz : ∀ j, z j ≤ 8) (hg : ∀ j, g j ≤ 126) (hv : v + 1 < nv) (hln : ln < nl) : Met l yX0_staysAsItIs wsX0_staysAsItIs ({ frames := 1, cells := 0, slots := 0, locals := 24 }) (mPc [.ref o, .int (nI v), .int (nI ln)] D cI cZ [(o, .inr (0, [.ref a1, .ref a2, .int (nI nl), .int (nI nv)])), (a1, aN cI 640 g), (a2, aN cI 80 z)]) (QcRead (bI (stB z g v ln))) 0 0 (fun _ => False) := by
  refine Met.ofW (cc := cX0_staysAsItIs) (maxL := 5) (ret := (some .boolean)) (by decide) rfl ?_
  intro p e s m args below meth c s₁ BB hml hv
  obtain ⟨hargs, hP, hD0, hK⟩ := hv
  have hx := BB.exec
  have hb := BB.bytes
  have hr := BB.returns
  have hts := atoms_spec (ws := wsX0_staysAsItIs) BB.pre
  have hown : s.vm.findClass RX0 = some m.cls := findClass_of_methodNamed BB.named
  have hlocks := BB.notSynchronized
  have hcf : CallFix p m c cX0_staysAsItIs 5 s args wsX0_staysAsItIs RX0 := ⟨hx, hb, hml, hown, hts⟩
  have hD := hD0
  rw [hargs, lg_entry_eq, ← hargs]
  have hl := lv_entry ([.ref o, .int (nI v), .int (nI ln)]) (n := 5) (Nat.le_of_ble_eq_true rfl)
  generalize (lg_sl ([.ref o, .int (nI v), .int (nI ln)]) ++ List.replicate (5 - (lg_sl ([.ref o, .int (nI v), .int (nI ln)])).length) Slot.unset).toArray = ls at hl ⊢
  have hl : lv_has ls 5 [(0, .ref o), (1, .int (nI v)), (2, .int (nI ln))] := hl
  obtain ⟨Q, hQ⟩ : ∃ Q, Q = MQ below (QcRead (bI (stB z g v ln))) args s 0 0 (fun _ => False) := ⟨_, rfl⟩
  rw [← hQ]
  have hz1 := hz (v * 20 + ln)
  have hz2 := hz ((v + 1) * 20 + ln)
  refine lv_aload_n hx hb dX0_staysAsItIs_0 rfl (lv_at hl 0 rfl) ?_
  refine lv_iload_n hx hb dX0_staysAsItIs_1 rfl (lv_at hl 1 rfl) ?_
  refine lv_iload_n hx hb dX0_staysAsItIs_2 rfl (lv_at hl 2 rfl) ?_
  refine m_rdV (As := [.int (nI v), .int (nI ln)]) (rest := []) (wc := [(o, .inr (0, [.ref a1, .ref a2, .int (nI nl), .int (nI nv)])), (a1, aN cI 640 g), (a2, aN cI 80 z)]) hcf (k_X0_sizeOf (l := l) (D := D) (cI := cI) (cZ := cZ) (v := v) (ln := ln) (o := o) (a1 := a1) (a2 := a2) (nl := nl) (nv := nv) (g := g) (z := z) (hnl := hnl) (hnv := hnv) (hv := by omega) (hln := hln)) (cwV 2 hts gX0_staysAsItIs_X0_sizeOf rfl rfl rfl yd_X0_sizeOf ⟨Nat.le_of_ble_eq_true rfl, Nat.le_of_ble_eq_true rfl⟩) (m_preV hK hP hD [0, 1, 2] (by decide) rfl rfl rfl) rfl hl.1 rfl (Nat.le_of_ble_eq_true rfl) dX0_staysAsItIs_3 ⟨Nat.zero_le _, Nat.zero_le _⟩ ?_
  refine lv_istore_n (lv' := [(3, .int (nI (z (v * 20 + ln)))), (0, .ref o), (1, .int (nI v)), (2, .int (nI ln))]) hx hb dX0_staysAsItIs_6 rfl hl (by decide) rfl (fun ls hl => ?_)
  refine lv_aload_n hx hb dX0_staysAsItIs_7 rfl (lv_at hl 1 rfl) ?_
  refine lv_iload_n hx hb dX0_staysAsItIs_8 rfl (lv_at hl 2 rfl) ?_
  refine lv_iconst (v := nI 1) hx hb dX0_staysAsItIs_9 (by decide) ?_
  refine m_add hx hb dX0_staysAsItIs_10 ?_
  refine lv_iload_n hx hb dX0_staysAsItIs_11 rfl (lv_at hl 3 rfl) ?_
  refine m_rdV (As := [.int (nI (v + 1)), .int (nI ln)]) (rest := []) (wc := [(o, .inr (0, [.ref a1, .ref a2, .int (nI nl), .int (nI nv)])), (a1, aN cI 640 g), (a2, aN cI 80 z)]) hcf (k_X0_sizeOf (l := l) (D := D) (cI := cI) (cZ := cZ) (v := v + 1) (ln := ln) (o := o) (a1 := a1) (a2 := a2) (nl := nl) (nv := nv) (g := g) (z := z) (hnl := hnl) (hnv := hnv) (hv := by omega) (hln := hln)) (cwV 2 hts gX0_staysAsItIs_X0_sizeOf rfl rfl rfl yd_X0_sizeOf ⟨Nat.le_of_ble_eq_true rfl, Nat.le_of_ble_eq_true rfl⟩) (m_preV hK hP hD [0, 1, 2] (by decide) rfl rfl rfl) rfl hl.1 rfl (Nat.le_of_ble_eq_true rfl) dX0_staysAsItIs_12 ⟨Nat.zero_le _, Nat.zero_le _⟩ ?_
  refine lv_iload_n hx hb dX0_staysAsItIs_15 rfl (lv_at hl 0 rfl) ?_
  refine m_cmp_eq (tgt := 21) hx hb dX0_staysAsItIs_16 (by decide) (by omega) (by omega) (fun c_16 => ?_) (fun c_16 => ?_)
  · refine lv_iconst (v := nI 0) hx hb dX0_staysAsItIs_21 (by decide) ?_
    refine lv_istore (lv' := [(4, .int (nI 0)), (3, .int (nI (z (v * 20 + ln)))), (0, .ref o), (1, .int (nI v)), (2, .int (nI ln))]) hx hb dX0_staysAsItIs_22 hl (by decide) rfl (fun ls hl => ?_)
    have loop_24 : ∀ (fu : Nat) (k : Nat) (hfu : z (v * 20 + ln) - k < fu)  (hk : k ≤ z (v * 20 + ln)) (hall : ∀ j, j < k → g ((v * 20 + ln) * 8 + j) = g (((v + 1) * 20 + ln) * 8 + j)) (ls : Array Slot) (hl : lv_has ls 5 [(0, .ref o), (1, .int (nI v)), (2, .int (nI ln)), (3, .int (nI (z (v * 20 + ln)))), (4, .int (nI k))]), W p l e (headSpec wsX0_staysAsItIs { frames := 1, cells := 0, slots := 0, locals := 24 }).room s m args below meth c s.heap [] 0 0 Q (F0 m 24 ls []) := by
      intro fu
      induction fu with
      | zero => intro k hfu; exact absurd hfu (Nat.not_lt_zero _)
      | succ fu ih_24 =>
        intro k hfu hk hall ls hl
        refine lv_iload hx hb dX0_staysAsItIs_24 (lv_at hl 4 rfl) ?_
        refine lv_iload_n hx hb dX0_staysAsItIs_26 rfl (lv_at hl 3 rfl) ?_
        refine m_cmp_ge (tgt := 59) hx hb dX0_staysAsItIs_27 (by decide) (by omega) (by omega) (fun c_27 => ?_) (fun c_27 => ?_)
        · refine lv_iconst (v := nI 1) hx hb dX0_staysAsItIs_59 (by decide) ?_
          rw [hQ]
          have e9 : k = z (v * 20 + ln) := by omega
          exact m_zrd hx hb hr hlocks (bb_one (by unfold stB; rw [decide_eq_true c_16, allB_t (fun j hj => decide_eq_true (hall j (by omega)))]; rfl)) dX0_staysAsItIs_60
        · refine lv_aload_n hx hb dX0_staysAsItIs_30 rfl (lv_at hl 0 rfl) ?_
          refine lv_iload_n hx hb dX0_staysAsItIs_31 rfl (lv_at hl 1 rfl) ?_
          refine lv_iload_n hx hb dX0_staysAsItIs_32 rfl (lv_at hl 2 rfl) ?_
          refine lv_iload hx hb dX0_staysAsItIs_33 (lv_at hl 4 rfl) ?_
          refine m_rdV (As := [.int (nI v), .int (nI ln), .int (nI k)]) (rest := []) (wc := [(o, .inr (0, [.ref a1, .ref a2, .int (nI nl), .int (nI nv)])), (a1, aN cI 640 g), (a2, aN cI 80 z)]) hcf (k_X0_signAt (l := l) (D := D) (cI := cI) (cZ := cZ) (v := v) (ln := ln) (k := k) (o := o) (a1 := a1) (a2 := a2) (nl := nl) (nv := nv) (g := g) (z := z) (hnl := hnl) (hnv := hnv) (hz := hz) (hg := hg) (hv := by omega) (hln := hln) (hk := by omega)) (cwV 3 hts gX0_staysAsItIs_X0_signAt rfl rfl rfl yd_X0_signAt ⟨Nat.le_of_ble_eq_true rfl, Nat.le_of_ble_eq_true rfl⟩) (m_preV hK hP hD [0, 1, 2] (by decide) rfl rfl rfl) rfl hl.1 rfl (Nat.le_of_ble_eq_true rfl) dX0_staysAsItIs_35 ⟨Nat.zero_le _, Nat.zero_le _⟩ ?_
          refine lv_aload_n hx hb dX0_staysAsItIs_38 rfl (lv_at hl 0 rfl) ?_
          refine lv_iload_n hx hb dX0_staysAsItIs_39 rfl (lv_at hl 1 rfl) ?_
          refine lv_iconst (v := nI 1) hx hb dX0_staysAsItIs_40 (by decide) ?_
          refine m_add hx hb dX0_staysAsItIs_41 ?_
          refine lv_iload_n hx hb dX0_staysAsItIs_42 rfl (lv_at hl 2 rfl) ?_
          refine lv_iload hx hb dX0_staysAsItIs_43 (lv_at hl 4 rfl) ?_
          refine m_rdV (As := [.int (nI (v + 1)), .int (nI ln), .int (nI k)]) (rest := [.int (nI (sgN z g (v * 20 + ln) k))]) (wc := [(o, .inr (0, [.ref a1, .ref a2, .int (nI nl), .int (nI nv)])), (a1, aN cI 640 g), (a2, aN cI 80 z)]) hcf (k_X0_signAt (l := l) (D := D) (cI := cI) (cZ := cZ) (v := v + 1) (ln := ln) (k := k) (o := o) (a1 := a1) (a2 := a2) (nl := nl) (nv := nv) (g := g) (z := z) (hnl := hnl) (hnv := hnv) (hz := hz) (hg := hg) (hv := by omega) (hln := hln) (hk := by omega)) (cwV 3 hts gX0_staysAsItIs_X0_signAt rfl rfl rfl yd_X0_signAt ⟨Nat.le_of_ble_eq_true rfl, Nat.le_of_ble_eq_true rfl⟩) (m_preV hK hP hD [0, 1, 2] (by decide) rfl rfl rfl) rfl hl.1 rfl (Nat.le_of_ble_eq_true rfl) dX0_staysAsItIs_45 ⟨Nat.zero_le _, Nat.zero_le _⟩ ?_
          refine m_cmp_eq (tgt := 53) hx hb dX0_staysAsItIs_48 (by decide) (Nat.lt_of_le_of_lt (sgN_le hg _ _) (by decide)) (Nat.lt_of_le_of_lt (sgN_le hg _ _) (by decide)) (fun c_48 => ?_) (fun c_48 => ?_)
          · refine lv_iinc (v := nI (k + 1)) (lv' := [(4, .int (nI (k + 1))), (0, .ref o), (1, .int (nI v)), (2, .int (nI ln)), (3, .int (nI (z (v * 20 + ln))))]) hx hb dX0_staysAsItIs_53 hl (k := 4) rfl (by rw [nI_succ]; rfl) (by decide) rfl (fun ls hl => ?_)
            refine lv_goto (tgt := 24) hx hb dX0_staysAsItIs_56 (by decide) ?_
            have e9 : g ((v * 20 + ln) * 8 + k) = g (((v + 1) * 20 + ln) * 8 + k) := by
              have h9 := c_48
              unfold sgN at h9
              rwa [if_pos (by omega), if_pos (by omega)] at h9
            exact ih_24 (k + 1) (by omega) (by omega) (lt_s hall e9)  ls (lv_sub hl [1, 2, 3, 4, 0] rfl)
          · refine lv_iconst (v := nI 0) hx hb dX0_staysAsItIs_51 (by decide) ?_
            rw [hQ]
            have e9 : ¬ g ((v * 20 + ln) * 8 + k) = g (((v + 1) * 20 + ln) * 8 + k) := by
              have h9 := c_48
              unfold sgN at h9
              rwa [if_pos (by omega), if_pos (by omega)] at h9
            exact m_zrd hx hb hr hlocks (bb_zero (by unfold stB; rw [allB_f k (by omega) (decide_eq_false e9), Bool.and_false])) dX0_staysAsItIs_52
    exact loop_24 (z (v * 20 + ln) + 1) 0 (by omega) (by omega) (fun j hj => absurd hj (Nat.not_lt_zero j))  ls (lv_sub hl [2, 3, 4, 1, 0] rfl)
  · refine lv_iconst (v := nI 0) hx hb dX0_staysAsItIs_19 (by decide) ?_
    rw [hQ]
    exact m_zrd hx hb hr hlocks (bb_zero (by unfold stB; rw [decide_eq_false c_16]; rfl)) dX0_staysAsItIs_20
end
section
def nmB (s : Nat) : Bool := decide (97 ≤ s ∧ s ≤ 122)
def nuB (s : Nat) : Bool := decide (48 ≤ s ∧ s ≤ 57)
theorem nmB_iff {s : Nat} : nmB s = true ↔ (97 ≤ s ∧ s ≤ 122) := decide_eq_true_iff
theorem nuB_iff {s : Nat} : nuB s = true ↔ (48 ≤ s ∧ s ≤ 57) := decide_eq_true_iff
/-- names beside each other, one for one -/
def pcons (L : List (Nat × Nat)) : Prop := ∀ q ∈ L, ∀ r ∈ L, (q.1 = r.1 ↔ q.2 = r.2)
def okp (L : List (Nat × Nat)) (a b : Nat) : Bool := L.all (fun q => decide (q.1 = a ↔ q.2 = b))
theorem okp_iff {L : List (Nat × Nat)} {a b : Nat} : okp L a b = true ↔ ∀ q ∈ L, (q.1 = a ↔ q.2 = b) := by
  unfold okp
  rw [List.all_eq_true]
  exact ⟨fun h q hq => of_decide_eq_true (h q hq), fun h q hq => decide_eq_true (h q hq)⟩
def jnB (L : List (Nat × Nat)) (a b : Nat) : Bool := nmB a && nmB b && okp L a b
def jnL (L : List (Nat × Nat)) (a b : Nat) : List (Nat × Nat) := if jnB L a b then (a, b) :: L else L
/-- the pairing of the class holds these names -/
def pmC (n1 n2 : Nat) (pt : Nat → Nat) (L : List (Nat × Nat)) : Prop :=
  n1 < 2 ^ 26 ∧ n2 < 2 ^ 26 ∧ (∀ c, c < 26 → (n1.testBit c = true ↔ ∃ q ∈ L, q.1 = c + 97)) ∧ (∀ c, c < 26 → (n2.testBit c = true ↔ ∃ q ∈ L, q.2 = c + 97)) ∧
  (∀ q ∈ L, (97 ≤ q.1 ∧ q.1 ≤ 122) ∧ (97 ≤ q.2 ∧ q.2 ≤ 122) ∧ pt (q.1 - 97) = q.2) ∧ pcons L ∧ ∀ j, pt j ≤ 126
theorem pmC_nil {pt : Nat → Nat} (h : ∀ j, pt j ≤ 126) : pmC 0 0 pt [] :=
  ⟨by decide, by decide, fun c _ => by simp, fun c _ => by simp, fun q h => absurd h List.not_mem_nil, fun q h => absurd h List.not_mem_nil, h⟩
theorem and_pow_ne {n k : Nat} : n &&& 2 ^ k ≠ 0 ↔ n.testBit k = true := by
  constructor
  · intro h
    cases hb : n.testBit k with
    | true => rfl
    | false => exact absurd ((fb_bit_nat n k).mpr hb) h
  · intro h q
    have := (fb_bit_nat n k).mp q
    rw [h] at this
    cases this
theorem and_pow_lt (n : Nat) {k : Nat} (hk : k < 31) : n &&& 2 ^ k < 2 ^ 31 := Nat.lt_of_le_of_lt Nat.and_le_right (Nat.pow_lt_pow_right (by omega) hk)
theorem or_pow_lt {n k m : Nat} (hn : n < 2 ^ m) (hk : k < m) : n ||| 2 ^ k < 2 ^ m := Nat.or_lt_two_pow hn (Nat.pow_lt_pow_right (by omega) hk)
theorem pm_has {n1 n2 : Nat} {pt : Nat → Nat} {L : List (Nat × Nat)} (h : pmC n1 n2 pt L) {a : Nat} (ha : 97 ≤ a ∧ a ≤ 122) (hb : n1 &&& 2 ^ (a - 97) ≠ 0) : ∃ q ∈ L, q.1 = a ∧ pt (a - 97) = q.2 := by
  obtain ⟨q, hq, e⟩ := (h.2.2.1 (a - 97) (by omega)).mp (and_pow_ne.mp hb)
  have e2 : q.1 = a := by omega
  exact ⟨q, hq, e2, by rw [← (h.2.2.2.2.1 q hq).2.2, e2]⟩
theorem pm_hasnt {n1 n2 : Nat} {pt : Nat → Nat} {L : List (Nat × Nat)} (h : pmC n1 n2 pt L) {a : Nat} (ha : 97 ≤ a ∧ a ≤ 122) (hb : n1 &&& 2 ^ (a - 97) = 0) : ∀ q ∈ L, q.1 ≠ a := by
  intro q hq e
  have := (h.2.2.1 (a - 97) (by omega)).mpr ⟨q, hq, by omega⟩
  exact and_pow_ne.mpr this hb
theorem pm_hasO {n1 n2 : Nat} {pt : Nat → Nat} {L : List (Nat × Nat)} (h : pmC n1 n2 pt L) {a : Nat} (ha : 97 ≤ a ∧ a ≤ 122) (hb : n2 &&& 2 ^ (a - 97) ≠ 0) : ∃ q ∈ L, q.2 = a := by
  obtain ⟨q, hq, e⟩ := (h.2.2.2.1 (a - 97) (by omega)).mp (and_pow_ne.mp hb)
  exact ⟨q, hq, by omega⟩
theorem pm_hasntO {n1 n2 : Nat} {pt : Nat → Nat} {L : List (Nat × Nat)} (h : pmC n1 n2 pt L) {a : Nat} (ha : 97 ≤ a ∧ a ≤ 122) (hb : n2 &&& 2 ^ (a - 97) = 0) : ∀ q ∈ L, q.2 ≠ a := by
  intro q hq e
  have := (h.2.2.2.1 (a - 97) (by omega)).mpr ⟨q, hq, by omega⟩
  exact and_pow_ne.mpr this hb
/-- join of a name that has its partner -/
theorem pm_old {n1 n2 : Nat} {pt : Nat → Nat} {L : List (Nat × Nat)} (h : pmC n1 n2 pt L) {a b : Nat} (ha : 97 ≤ a ∧ a ≤ 122) (hb : 97 ≤ b ∧ b ≤ 122) (h1 : n1 &&& 2 ^ (a - 97) ≠ 0) : (pt (a - 97) = b → jnB L a b = true ∧ pmC n1 n2 pt ((a, b) :: L)) ∧ (pt (a - 97) ≠ b → jnB L a b = false) := by
  obtain ⟨q, hq, e1, e2⟩ := pm_has h ha h1
  have hc := h.2.2.2.2.2.1
  have na : nmB a = true := nmB_iff.mpr ha
  have nb : nmB b = true := nmB_iff.mpr hb
  refine ⟨fun e => ?_, fun e => ?_⟩
  · have hqe : q = (a, b) := by
      obtain ⟨q1, q2⟩ := q
      simp only at e1 e2
      rw [e1, ← e2, e]
    have hin : (a, b) ∈ L := hqe ▸ hq
    refine ⟨?_, ?_⟩
    · unfold jnB
      rw [na, nb, Bool.and_self, Bool.true_and]
      exact okp_iff.mpr (fun r hr => hc r hr (a, b) hin)
    · have hmem : ∀ r, r ∈ (a, b) :: L ↔ r ∈ L := fun r => ⟨fun m => (List.mem_cons.mp m).elim (fun m => m ▸ hin) id, List.mem_cons_of_mem _⟩
      refine ⟨h.1, h.2.1, fun c hcc => ?_, fun c hcc => ?_, fun r hr => h.2.2.2.2.1 r ((hmem r).mp hr), fun r hr t ht => hc r ((hmem r).mp hr) t ((hmem t).mp ht), h.2.2.2.2.2.2⟩
      · rw [h.2.2.1 c hcc]
        exact ⟨fun ⟨r, hr, er⟩ => ⟨r, (hmem r).mpr hr, er⟩, fun ⟨r, hr, er⟩ => ⟨r, (hmem r).mp hr, er⟩⟩
      · rw [h.2.2.2.1 c hcc]
        exact ⟨fun ⟨r, hr, er⟩ => ⟨r, (hmem r).mpr hr, er⟩, fun ⟨r, hr, er⟩ => ⟨r, (hmem r).mp hr, er⟩⟩
  · unfold jnB
    cases hk : okp L a b with
    | false => rw [Bool.and_false]
    | true => exact absurd (((okp_iff.mp hk) q hq).mp e1 ▸ e2) e
/-- join of a name that has none, beside one that has one -/
theorem pm_clash {n1 n2 : Nat} {pt : Nat → Nat} {L : List (Nat × Nat)} (h : pmC n1 n2 pt L) {a b : Nat} (ha : 97 ≤ a ∧ a ≤ 122) (hb : 97 ≤ b ∧ b ≤ 122) (h1 : n1 &&& 2 ^ (a - 97) = 0) (h2 : n2 &&& 2 ^ (b - 97) ≠ 0) : jnB L a b = false := by
  obtain ⟨q, hq, e⟩ := pm_hasO h hb h2
  unfold jnB
  cases hk : okp L a b with
  | false => rw [Bool.and_false]
  | true => exact absurd (((okp_iff.mp hk) q hq).mpr e) (pm_hasnt h ha h1 q hq)
theorem upN_ne {z : Nat → Nat} {k x j : Nat} (h : j ≠ k) : upN z k x j = z j := if_neg h
/-- join of two that have none -/
theorem pm_new {n1 n2 : Nat} {pt : Nat → Nat} {L : List (Nat × Nat)} (h : pmC n1 n2 pt L) {a b : Nat} (ha : 97 ≤ a ∧ a ≤ 122) (hb : 97 ≤ b ∧ b ≤ 122) (h1 : n1 &&& 2 ^ (a - 97) = 0) (h2 : n2 &&& 2 ^ (b - 97) = 0) : jnB L a b = true ∧ pmC (n1 ||| 2 ^ (a - 97)) (n2 ||| 2 ^ (b - 97)) (upN pt (a - 97) b) ((a, b) :: L) := by
  have k1 := pm_hasnt h ha h1
  have k2 := pm_hasntO h hb h2
  have hc := h.2.2.2.2.2.1
  refine ⟨?_, or_pow_lt h.1 (by omega), or_pow_lt h.2.1 (by omega), fun c hcc => ?_, fun c hcc => ?_, fun r hr => ?_, fun r hr t ht => ?_, upN_le h.2.2.2.2.2.2 (by omega)⟩
  · unfold jnB
    rw [nmB_iff.mpr ha, nmB_iff.mpr hb, Bool.and_self, Bool.true_and]
    exact okp_iff.mpr (fun r hr => ⟨fun e => absurd e (k1 r hr), fun e => absurd e (k2 r hr)⟩)
  · rw [fb_bit_set, Bool.or_eq_true, h.2.2.1 c hcc, decide_eq_true_iff]
    constructor
    · rintro (⟨r, hr, er⟩ | e)
      · exact ⟨r, List.mem_cons_of_mem _ hr, er⟩
      · exact ⟨(a, b), List.mem_cons_self, show a = c + 97 by omega⟩
    · rintro ⟨r, hr, er⟩
      rcases List.mem_cons.mp hr with m | m
      · subst m
        exact Or.inr (show c = a - 97 by simp only at er; omega)
      · exact Or.inl ⟨r, m, er⟩
  · rw [fb_bit_set, Bool.or_eq_true, h.2.2.2.1 c hcc, decide_eq_true_iff]
    constructor
    · rintro (⟨r, hr, er⟩ | e)
      · exact ⟨r, List.mem_cons_of_mem _ hr, er⟩
      · exact ⟨(a, b), List.mem_cons_self, show b = c + 97 by omega⟩
    · rintro ⟨r, hr, er⟩
      rcases List.mem_cons.mp hr with m | m
      · subst m
        exact Or.inr (show c = b - 97 by simp only at er; omega)
      · exact Or.inl ⟨r, m, er⟩
  · rcases List.mem_cons.mp hr with m | m
    · subst m
      exact ⟨ha, hb, upN_s _ _ _⟩
    · obtain ⟨e1, e2, e3⟩ := h.2.2.2.2.1 r m
      have := k1 r m
      exact ⟨e1, e2, by rw [upN_ne (by omega)]; exact e3⟩
  · rcases List.mem_cons.mp hr with m | m <;> rcases List.mem_cons.mp ht with m2 | m2
    · subst m; subst m2; exact ⟨fun _ => rfl, fun _ => rfl⟩
    · subst m; exact ⟨fun e => absurd e.symm (k1 t m2), fun e => absurd e.symm (k2 t m2)⟩
    · subst m2; exact ⟨fun e => absurd e (k1 r m), fun e => absurd e (k2 r m)⟩
    · exact hc r m t m2
theorem jnL_t {L : List (Nat × Nat)} {a b : Nat} (h : jnB L a b = true) : jnL L a b = (a, b) :: L := if_pos h
theorem jnL_f {L : List (Nat × Nat)} {a b : Nat} (h : jnB L a b = false) : jnL L a b = L := if_neg (by rw [h]; decide)
theorem jnB_nm {L : List (Nat × Nat)} {a b : Nat} (h : nmB a = false) : jnB L a b = false := by unfold jnB; rw [h]; rfl
theorem jnB_nm2 {L : List (Nat × Nat)} {a b : Nat} (h : nmB b = false) : jnB L a b = false := by unfold jnB; rw [h, Bool.and_false]; rfl
/-- has a name a partner; what it is renamed to; the first name that fits -/
def hpB (L : List (Nat × Nat)) (a : Nat) : Bool := nmB a && L.any (fun q => decide (q.1 = a))
def rnN (L : List (Nat × Nat)) (a : Nat) : Nat := match L.find? (fun q => decide (q.1 = a)) with
  | some q => q.2
  | none => a
theorem hpB_iff {L : List (Nat × Nat)} {a : Nat} : hpB L a = true ↔ nmB a = true ∧ ∃ q ∈ L, q.1 = a := by
  unfold hpB
  rw [Bool.and_eq_true, List.any_eq_true]
  exact ⟨fun ⟨h, q, hq, e⟩ => ⟨h, q, hq, of_decide_eq_true e⟩, fun ⟨h, q, hq, e⟩ => ⟨h, q, hq, decide_eq_true e⟩⟩
theorem hpB_f {L : List (Nat × Nat)} {a : Nat} (h : ¬ (nmB a = true ∧ ∃ q ∈ L, q.1 = a)) : hpB L a = false := by
  cases hk : hpB L a with
  | false => rfl
  | true => exact absurd (hpB_iff.mp hk) h
theorem rnN_in {L : List (Nat × Nat)} {q : Nat × Nat} (hc : pcons L) (h : q ∈ L) : rnN L q.1 = q.2 := by
  unfold rnN
  cases hf : L.find? (fun r => decide (r.1 = q.1)) with
  | none => exact absurd (decide_eq_true (rfl : q.1 = q.1)) (by have := List.find?_eq_none.mp hf q h; exact this)
  | some r =>
    have h1 := List.find?_some hf
    have h2 := List.mem_of_find?_eq_some hf
    exact (hc r h2 q h).mp (of_decide_eq_true h1)
theorem rnN_out {L : List (Nat × Nat)} {a : Nat} (h : ∀ q ∈ L, q.1 ≠ a) : rnN L a = a := by
  unfold rnN
  rw [List.find?_eq_none.mpr (fun q hq => by rw [decide_eq_true_iff]; exact h q hq)]
/-- the first name that fits beside a name: its partner, or the first that nobody has; 0: none -/
def ffL (L : List (Nat × Nat)) : Nat → Nat → Nat
  | _, 0 => 0
  | c, k + 1 => if L.any (fun q => decide (q.2 = c + 97)) then ffL L (c + 1) k else c + 97
def ffN (L : List (Nat × Nat)) (a : Nat) : Nat := if hpB L a then rnN L a else ffL L 0 26
theorem rnN_o {n1 n2 : Nat} {pt : Nat → Nat} {L : List (Nat × Nat)} {a : Nat} (h : pmC n1 n2 pt L) (hp : hpB L a = false) : rnN L a = a := by
  refine rnN_out (fun q hq e => ?_)
  have h2 := (h.2.2.2.2.1 q hq).1
  rw [e] at h2
  have : hpB L a = true := hpB_iff.mpr ⟨nmB_iff.mpr h2, q, hq, e⟩
  rw [hp] at this
  cases this
theorem ffL_at {L : List (Nat × Nat)} {k : Nat} (hn : ∀ q ∈ L, q.2 ≠ k + 97) : ∀ (d c : Nat), c + d = k → (∀ j, c ≤ j → j < k → ∃ q ∈ L, q.2 = j + 97) → ∀ f, d < f → ffL L c f = k + 97
  | 0, c, e, _, f + 1, _ => by
    have e2 : c = k := by omega
    subst e2
    show (if _ then _ else _) = _
    rw [if_neg]
    rw [List.any_eq_true]
    rintro ⟨q, hq, h⟩
    exact hn q hq (of_decide_eq_true h)
  | d + 1, c, e, h, f + 1, hf => by
    show (if _ then _ else _) = _
    rw [if_pos]
    · exact ffL_at hn d (c + 1) (by omega) (fun j h1 h2 => h j (by omega) h2) f (by omega)
    · rw [List.any_eq_true]
      obtain ⟨q, hq, e⟩ := h c (Nat.le_refl c) (by omega)
      exact ⟨q, hq, decide_eq_true e⟩
  | _, _, _, _, 0, hf => absurd hf (Nat.not_lt_zero _)
theorem ffN_at {L : List (Nat × Nat)} {a k : Nat} (h0 : hpB L a = false) (hk : k < 26) (h : ∀ j, j < k → ∃ q ∈ L, q.2 = j + 97) (hn : ∀ q ∈ L, q.2 ≠ k + 97) : ffN L a = 97 + k := by
  unfold ffN
  rw [if_neg (by rw [h0]; decide), ffL_at hn k 0 (by omega) (fun j _ hj => h j hj) 26 hk]
  omega
theorem ffL_no {L : List (Nat × Nat)} : ∀ (f c : Nat), (∀ j, c ≤ j → j < c + f → ∃ q ∈ L, q.2 = j + 97) → ffL L c f = 0
  | 0, _, _ => rfl
  | f + 1, c, h => by
    show (if _ then _ else _) = _
    rw [if_pos]
    · exact ffL_no f (c + 1) (fun j h1 h2 => h j (by omega) (by omega))
    · rw [List.any_eq_true]
      obtain ⟨q, hq, e⟩ := h c (Nat.le_refl c) (by omega)
      exact ⟨q, hq, decide_eq_true e⟩
theorem ffN_no {L : List (Nat × Nat)} {a : Nat} (h0 : hpB L a = false) (h : ∀ j, j < 26 → ∃ q ∈ L, q.2 = j + 97) : ffN L a = 0 := by
  unfold ffN
  rw [if_neg (by rw [h0]; decide), ffL_no 26 0 (fun j _ hj => h j (by omega))]
end
section
theorem yd_X7_isName : yX7_isName.cls = RX7 ∧ yX7_isName.cls ≠ "java/lang/invoke/MethodHandle" ∧ yX7_isName.cls ≠ "java/lang/invoke/VarHandle" ∧ (parseMethodDescriptor yX7_isName.desc).map (fun d => d.parameters.length) = some 1 := by decide +kernel
set_option maxHeartbeats 4000000 in
set_option maxRecDepth 100000 in
theorem k_X7_isName (l : Launch) (D : va_G) (cI cZ : ClassId) (a : Nat) (ha : a < 2 ^ 31) : Met l yX7_isName wsX7_isName ({ frames := 0, cells := 0, slots := 0, locals := 0 }) (mPc [.int (nI a)] D cI cZ []) (QcRead (bI (nmB a))) 0 0 (fun _ => False) := by
  refine Met.ofW (cc := cX7_isName) (maxL := 1) (ret := (some .boolean)) (by decide) rfl ?_
  intro p e s m args below meth c s₁ BB hml hv
  obtain ⟨hargs, hP, hD0, hK⟩ := hv
  have hx := BB.exec
  have hb := BB.bytes
  have hr := BB.returns
  have hts := atoms_spec (ws := wsX7_isName) BB.pre
  have hown : s.vm.findClass RX7 = some m.cls := findClass_of_methodNamed BB.named
  have hlocks := BB.notSynchronized
  have hcf : CallFix p m c cX7_isName 1 s args wsX7_isName RX7 := ⟨hx, hb, hml, hown, hts⟩
  have hD := hD0
  rw [hargs, lg_entry_eq, ← hargs]
  have hl := lv_entry ([.int (nI a)]) (n := 1) (Nat.le_of_ble_eq_true rfl)
  generalize (lg_sl ([.int (nI a)]) ++ List.replicate (1 - (lg_sl ([.int (nI a)])).length) Slot.unset).toArray = ls at hl ⊢
  have hl : lv_has ls 1 [(0, .int (nI a))] := hl
  obtain ⟨Q, hQ⟩ : ∃ Q, Q = MQ below (QcRead (bI (nmB a))) args s 0 0 (fun _ => False) := ⟨_, rfl⟩
  rw [← hQ]
  refine lv_iload_n hx hb dX7_isName_0 rfl (lv_at hl 0 rfl) ?_
  refine lv_bipush (v := nI 97) hx hb dX7_isName_1 (by decide) ?_
  refine m_cmp_lt (tgt := 16) hx hb dX7_isName_3 (by decide) (by omega) (by omega) (fun c_3 => ?_) (fun c_3 => ?_)
  · refine lv_iconst (v := nI 0) hx hb dX7_isName_16 (by decide) ?_
    rw [hQ]
    exact m_zrd hx hb hr hlocks (b_zero (by omega)) dX7_isName_17
  · refine lv_iload_n hx hb dX7_isName_6 rfl (lv_at hl 0 rfl) ?_
    refine lv_bipush (v := nI 122) hx hb dX7_isName_7 (by decide) ?_
    refine m_cmp_gt (tgt := 16) hx hb dX7_isName_9 (by decide) (by omega) (by omega) (fun c_9 => ?_) (fun c_9 => ?_)
    · refine lv_iconst (v := nI 0) hx hb dX7_isName_16 (by decide) ?_
      rw [hQ]
      exact m_zrd hx hb hr hlocks (b_zero (by omega)) dX7_isName_17
    · refine lv_iconst (v := nI 1) hx hb dX7_isName_12 (by decide) ?_
      refine lv_goto (tgt := 17) hx hb dX7_isName_13 (by decide) ?_
      rw [hQ]
      exact m_zrd hx hb hr hlocks (b_one (by omega)) dX7_isName_17

theorem yd_X7_isNumber : yX7_isNumber.cls = RX7 ∧ yX7_isNumber.cls ≠ "java/lang/invoke/MethodHandle" ∧ yX7_isNumber.cls ≠ "java/lang/invoke/VarHandle" ∧ (parseMethodDescriptor yX7_isNumber.desc).map (fun d => d.parameters.length) = some 1 := by decide +kernel
set_option maxHeartbeats 4000000 in
set_option maxRecDepth 100000 in
theorem k_X7_isNumber (l : Launch) (D : va_G) (cI cZ : ClassId) (a : Nat) (ha : a < 2 ^ 31) : Met l yX7_isNumber wsX7_isNumber ({ frames := 0, cells := 0, slots := 0, locals := 0 }) (mPc [.int (nI a)] D cI cZ []) (QcRead (bI (nuB a))) 0 0 (fun _ => False) := by
  refine Met.ofW (cc := cX7_isNumber) (maxL := 1) (ret := (some .boolean)) (by decide) rfl ?_
  intro p e s m args below meth c s₁ BB hml hv
  obtain ⟨hargs, hP, hD0, hK⟩ := hv
  have hx := BB.exec
  have hb := BB.bytes
  have hr := BB.returns
  have hts := atoms_spec (ws := wsX7_isNumber) BB.pre
  have hown : s.vm.findClass RX7 = some m.cls := findClass_of_methodNamed BB.named
  have hlocks := BB.notSynchronized
  have hcf : CallFix p m c cX7_isNumber 1 s args wsX7_isNumber RX7 := ⟨hx, hb, hml, hown, hts⟩
  have hD := hD0
  rw [hargs, lg_entry_eq, ← hargs]
  have hl := lv_entry ([.int (nI a)]) (n := 1) (Nat.le_of_ble_eq_true rfl)
  generalize (lg_sl ([.int (nI a)]) ++ List.replicate (1 - (lg_sl ([.int (nI a)])).length) Slot.unset).toArray = ls at hl ⊢
  have hl : lv_has ls 1 [(0, .int (nI a))] := hl
  obtain ⟨Q, hQ⟩ : ∃ Q, Q = MQ below (QcRead (bI (nuB a))) args s 0 0 (fun _ => False) := ⟨_, rfl⟩
  rw [← hQ]
  refine lv_iload_n hx hb dX7_isNumber_0 rfl (lv_at hl 0 rfl) ?_
  refine lv_bipush (v := nI 48) hx hb dX7_isNumber_1 (by decide) ?_
  refine m_cmp_lt (tgt := 16) hx hb dX7_isNumber_3 (by decide) (by omega) (by omega) (fun c_3 => ?_) (fun c_3 => ?_)
  · refine lv_iconst (v := nI 0) hx hb dX7_isNumber_16 (by decide) ?_
    rw [hQ]
    exact m_zrd hx hb hr hlocks (b_zero (by omega)) dX7_isNumber_17
  · refine lv_iload_n hx hb dX7_isNumber_6 rfl (lv_at hl 0 rfl) ?_
    refine lv_bipush (v := nI 57) hx hb dX7_isNumber_7 (by decide) ?_
    refine m_cmp_gt (tgt := 16) hx hb dX7_isNumber_9 (by decide) (by omega) (by omega) (fun c_9 => ?_) (fun c_9 => ?_)
    · refine lv_iconst (v := nI 0) hx hb dX7_isNumber_16 (by decide) ?_
      rw [hQ]
      exact m_zrd hx hb hr hlocks (b_zero (by omega)) dX7_isNumber_17
    · refine lv_iconst (v := nI 1) hx hb dX7_isNumber_12 (by decide) ?_
      refine lv_goto (tgt := 17) hx hb dX7_isNumber_13 (by decide) ?_
      rw [hQ]
      exact m_zrd hx hb hr hlocks (b_one (by omega)) dX7_isNumber_17

theorem yd_X3_clear : yX3_clear.cls = RX3 ∧ yX3_clear.cls ≠ "java/lang/invoke/MethodHandle" ∧ yX3_clear.cls ≠ "java/lang/invoke/VarHandle" ∧ (parseMethodDescriptor yX3_clear.desc).map (fun d => d.parameters.length) = some 0 := by decide +kernel
set_option maxHeartbeats 4000000 in
set_option maxRecDepth 100000 in
theorem k_X3_clear (l : Launch) (D : va_G) (cI cZ : ClassId) (o q1 n1 n2 : Nat) (pt : Nat → Nat)  : Met l yX3_clear wsX3_clear ({ frames := 0, cells := 0, slots := 0, locals := 0 }) (mPc [.ref o] D cI cZ [(o, .inr (3, [.ref q1, .int (nI n1), .int (nI n2)])), (q1, aN cI 26 pt)]) (mQv D (mA [(o, .inr (3, [.ref q1, .int (nI n1), .int (nI n2)])), (q1, aN cI 26 pt)]) (fun (u : Unit) => True) (fun (u : Unit) => [(o, .inr (3, [.ref q1, .int (nI 0), .int (nI 0)])), (q1, aN cI 26 pt)])) 0 0 (mA [(o, .inr (3, [.ref q1, .int (nI n1), .int (nI n2)])), (q1, aN cI 26 pt)]) := by
  refine Met.ofW (cc := cX3_clear) (maxL := 1) (ret := none) (by decide) rfl ?_
  intro p e s m args below meth c s₁ BB hml hv
  obtain ⟨hargs, hP, hD0, hK⟩ := hv
  have hx := BB.exec
  have hb := BB.bytes
  have hr := BB.returns
  have hts := atoms_spec (ws := wsX3_clear) BB.pre
  have hown : s.vm.findClass RX3 = some m.cls := findClass_of_methodNamed BB.named
  have hlocks := BB.notSynchronized
  have hcf : CallFix p m c cX3_clear 1 s args wsX3_clear RX3 := ⟨hx, hb, hml, hown, hts⟩
  obtain ⟨A, hAe⟩ : ∃ A, A = mA [(o, .inr (3, [.ref q1, .int (nI n1), .int (nI n2)])), (q1, aN cI 26 pt)] := ⟨_, rfl⟩
  have hD : va_D A [(o, .inr (3, [.ref q1, .int (nI n1), .int (nI n2)])), (q1, aN cI 26 pt)] := ⟨hD0.1, fun k q h => by rw [hAe]; exact ⟨k, q.2, h⟩⟩
  have hS : va_S A s.heap s.heap [] := va_S.rf
  rw [← hAe]
  rw [hargs, lg_entry_eq, ← hargs]
  have hl := lv_entry ([.ref o]) (n := 1) (Nat.le_of_ble_eq_true rfl)
  generalize (lg_sl ([.ref o]) ++ List.replicate (1 - (lg_sl ([.ref o])).length) Slot.unset).toArray = ls at hl ⊢
  have hl : lv_has ls 1 [(0, .ref o)] := hl
  obtain ⟨Q, hQ⟩ : ∃ Q, Q = MQ below (mQv D A (fun (u : Unit) => True) (fun (u : Unit) => [(o, .inr (3, [.ref q1, .int (nI 0), .int (nI 0)])), (q1, aN cI 26 pt)])) args s 0 0 A := ⟨_, rfl⟩
  rw [← hQ]
  have i_X3 : ∀ w ∈ u_ws RX3 TX3 3, w ∈ wsX3_clear := by decide +kernel
  have f_15 := hts (.fieldLink RX3 15 "SameAgain$Pairing" "namesOfOne" "I") (by decide +kernel)
  have f_19 := hts (.fieldLink RX3 19 "SameAgain$Pairing" "namesOfOther" "I") (by decide +kernel)
  refine lv_aload_n hx hb dX3_clear_0 rfl (lv_at hl 0 rfl) ?_
  refine lv_iconst (v := nI 0) hx hb dX3_clear_1 (by decide) ?_
  refine va_put (D := D) (ci := 3) (v := .int (nI 0)) (ty := .int) (C := RX3) (T := TX3) (N := 3) hx hb hts i_X3 tyX3 tyX3_ok nmX3 hown hK.1 hP hD hS 0 rfl rfl 1 (by decide) f_15 (fun _ h9 => h9) rfl (by decide +kernel) rfl rfl (Nat.le_of_ble_eq_true rfl) dX3_clear_2 (fun H locs hP hD hS => ?_)
  have hP : va_P D vwCl [(o, .inr (3, [.ref q1, .int (nI 0), .int (nI n2)])), (q1, aN cI 26 pt)] H := hP
  have hD : va_D A [(o, .inr (3, [.ref q1, .int (nI 0), .int (nI n2)])), (q1, aN cI 26 pt)] := hD
  refine lv_aload_n hx hb dX3_clear_5 rfl (lv_at hl 0 rfl) ?_
  refine lv_iconst (v := nI 0) hx hb dX3_clear_6 (by decide) ?_
  refine va_put (D := D) (ci := 3) (v := .int (nI 0)) (ty := .int) (C := RX3) (T := TX3) (N := 3) hx hb hts i_X3 tyX3 tyX3_ok nmX3 hown hK.1 hP hD hS 0 rfl rfl 2 (by decide) f_19 (fun _ h9 => h9) rfl (by decide +kernel) rfl rfl (Nat.le_of_ble_eq_true rfl) dX3_clear_7 (fun H locs hP hD hS => ?_)
  have hP : va_P D vwCl [(o, .inr (3, [.ref q1, .int (nI 0), .int (nI 0)])), (q1, aN cI 26 pt)] H := hP
  have hD : va_D A [(o, .inr (3, [.ref q1, .int (nI 0), .int (nI 0)])), (q1, aN cI 26 pt)] := hD
  rw [hQ]
  exact m_vwr hx hb hr hlocks () (trivial) hP hS dX3_clear_10

theorem yd_X3_join : yX3_join.cls = RX3 ∧ yX3_join.cls ≠ "java/lang/invoke/MethodHandle" ∧ yX3_join.cls ≠ "java/lang/invoke/VarHandle" ∧ (parseMethodDescriptor yX3_join.desc).map (fun d => d.parameters.length) = some 2 := by decide +kernel
set_option maxHeartbeats 4000000 in
set_option maxRecDepth 100000 in
theorem k_X3_join (l : Launch) (D : va_G) (cI cZ : ClassId) (o q1 n1 n2 : Nat) (pt : Nat → Nat) (L : List (Nat × Nat)) (a b : Nat) (hpm : pmC n1 n2 pt L) (ha : a ≤ 126) (hb2 : b ≤ 126) : Met l yX3_join wsX3_join ({ frames := 1, cells := 0, slots := 0, locals := 20 }) (mPc [.ref o, .int (nI a), .int (nI b)] D cI cZ [(o, .inr (3, [.ref q1, .int (nI n1), .int (nI n2)])), (q1, aN cI 26 pt)]) (mQi D (mA [(o, .inr (3, [.ref q1, .int (nI n1), .int (nI n2)])), (q1, aN cI 26 pt)]) (fun (r : Int32) (u : Nat × Nat × (Nat → Nat)) => r = bI (jnB L a b) ∧ pmC u.1 u.2.1 u.2.2 (jnL L a b)) (fun (u : Nat × Nat × (Nat → Nat)) => [(o, .inr (3, [.ref q1, .int (nI u.1), .int (nI u.2.1)])), (q1, aN cI 26 u.2.2)])) 0 0 (mA [(o, .inr (3, [.ref q1, .int (nI n1), .int (nI n2)])), (q1, aN cI 26 pt)]) := by
  refine Met.ofW (cc := cX3_join) (maxL := 5) (ret := (some .boolean)) (by decide) rfl ?_
  intro p e s m args below meth c s₁ BB hml hv
  obtain ⟨hargs, hP, hD0, hK⟩ := hv
  have hx := BB.exec
  have hb := BB.bytes
  have hr := BB.returns
  have hts := atoms_spec (ws := wsX3_join) BB.pre
  have hown : s.vm.findClass RX3 = some m.cls := findClass_of_methodNamed BB.named
  have hlocks := BB.notSynchronized
  have hcf : CallFix p m c cX3_join 5 s args wsX3_join RX3 := ⟨hx, hb, hml, hown, hts⟩
  obtain ⟨A, hAe⟩ : ∃ A, A = mA [(o, .inr (3, [.ref q1, .int (nI n1), .int (nI n2)])), (q1, aN cI 26 pt)] := ⟨_, rfl⟩
  have hD : va_D A [(o, .inr (3, [.ref q1, .int (nI n1), .int (nI n2)])), (q1, aN cI 26 pt)] := ⟨hD0.1, fun k q h => by rw [hAe]; exact ⟨k, q.2, h⟩⟩
  have hS : va_S A s.heap s.heap [] := va_S.rf
  rw [← hAe]
  rw [hargs, lg_entry_eq, ← hargs]
  have hl := lv_entry ([.ref o, .int (nI a), .int (nI b)]) (n := 5) (Nat.le_of_ble_eq_true rfl)
  generalize (lg_sl ([.ref o, .int (nI a), .int (nI b)]) ++ List.replicate (5 - (lg_sl ([.ref o, .int (nI a), .int (nI b)])).length) Slot.unset).toArray = ls at hl ⊢
  have hl : lv_has ls 5 [(0, .ref o), (1, .int (nI a)), (2, .int (nI b))] := hl
  obtain ⟨Q, hQ⟩ : ∃ Q, Q = MQ below (mQi D A (fun (r : Int32) (u : Nat × Nat × (Nat → Nat)) => r = bI (jnB L a b) ∧ pmC u.1 u.2.1 u.2.2 (jnL L a b)) (fun (u : Nat × Nat × (Nat → Nat)) => [(o, .inr (3, [.ref q1, .int (nI u.1), .int (nI u.2.1)])), (q1, aN cI 26 u.2.2)])) args s 0 0 A := ⟨_, rfl⟩
  rw [← hQ]
  have mn_22 := hK.2.2 ("SameAgain$Pairing", 22, ⟨"SameAgain", "isName", "(I)Z"⟩, "SameAgain") (by decide +kernel)
  have in_X7 := hts (.initialized RX7) (by decide +kernel)
  have st_X7_isName := hts (.static yX7_isName) (by decide +kernel)
  have i_X3 : ∀ w ∈ u_ws RX3 TX3 3, w ∈ wsX3_join := by decide +kernel
  have f_15 := hts (.fieldLink RX3 15 "SameAgain$Pairing" "namesOfOne" "I") (by decide +kernel)
  have f_19 := hts (.fieldLink RX3 19 "SameAgain$Pairing" "namesOfOther" "I") (by decide +kernel)
  have f_9 := hts (.fieldLink RX3 9 "SameAgain$Pairing" "partners" "[I") (by decide +kernel)
  refine lv_iload_n hx hb dX3_join_0 rfl (lv_at hl 1 rfl) ?_
  refine m_rdSN (As := [.int (nI a)]) (rest := []) (wc := []) hcf (k_X7_isName (l := l) (D := D) (cI := cI) (cZ := cZ) (a := a) (ha := by omega)) ⟨va_cnB 1 hts gX3_join_X7_isName_n22 rfl rfl rfl mn_22 in_X7 yd_X7_isName.2 ⟨Nat.le_of_ble_eq_true rfl, Nat.le_of_ble_eq_true rfl⟩, st_X7_isName, trivial⟩ (m_preS hK hP hD [] (by decide) rfl) rfl hl.1 rfl (Nat.le_of_ble_eq_true rfl) dX3_join_1 ⟨Nat.zero_le _, Nat.zero_le _⟩ ?_
  refine m_ifB_eq (tgt := 14) hx hb dX3_join_4 (by decide) (fun c_4 => ?_) (fun c_4 => ?_)
  · have X9 : jnB L a b = false := jnB_nm c_4
    refine lv_iconst (v := nI 0) hx hb dX3_join_14 (by decide) ?_
    rw [hQ]
    exact m_zwr hx hb hr hlocks (n1, n2, pt) (nI_01 (by omega)) (⟨bb_zero X9, by rw [jnL_f X9]; exact hpm⟩) hP hS dX3_join_15
  · have ia := nmB_iff.mp c_4
    refine lv_iload_n hx hb dX3_join_7 rfl (lv_at hl 2 rfl) ?_
    refine m_rdSN (As := [.int (nI b)]) (rest := []) (wc := []) hcf (k_X7_isName (l := l) (D := D) (cI := cI) (cZ := cZ) (a := b) (ha := by omega)) ⟨va_cnB 1 hts gX3_join_X7_isName_n22 rfl rfl rfl mn_22 in_X7 yd_X7_isName.2 ⟨Nat.le_of_ble_eq_true rfl, Nat.le_of_ble_eq_true rfl⟩, st_X7_isName, trivial⟩ (m_preS hK hP hD [] (by decide) rfl) rfl hl.1 rfl (Nat.le_of_ble_eq_true rfl) dX3_join_8 ⟨Nat.zero_le _, Nat.zero_le _⟩ ?_
    refine m_ifB_ne (tgt := 16) hx hb dX3_join_11 (by decide) (fun c_11 => ?_) (fun c_11 => ?_)
    · have ib := nmB_iff.mp c_11
      refine lv_iconst (v := nI 1) hx hb dX3_join_16 (by decide) ?_
      refine lv_iload_n hx hb dX3_join_17 rfl (lv_at hl 1 rfl) ?_
      refine lv_bipush (v := nI 97) hx hb dX3_join_18 (by decide) ?_
      refine m_sub hx hb (by omega) dX3_join_20 ?_
      refine m_shl1 hx hb (by omega) dX3_join_21 ?_
      refine lv_istore_n (lv' := [(3, .int (nI (2 ^ (a - 97)))), (0, .ref o), (1, .int (nI a)), (2, .int (nI b))]) hx hb dX3_join_22 rfl hl (by decide) rfl (fun ls hl => ?_)
      refine lv_iconst (v := nI 1) hx hb dX3_join_23 (by decide) ?_
      refine lv_iload_n hx hb dX3_join_24 rfl (lv_at hl 3 rfl) ?_
      refine lv_bipush (v := nI 97) hx hb dX3_join_25 (by decide) ?_
      refine m_sub hx hb (by omega) dX3_join_27 ?_
      refine m_shl1 hx hb (by omega) dX3_join_28 ?_
      refine lv_istore (lv' := [(4, .int (nI (2 ^ (b - 97)))), (3, .int (nI (2 ^ (a - 97)))), (0, .ref o), (1, .int (nI a)), (2, .int (nI b))]) hx hb dX3_join_29 hl (by decide) rfl (fun ls hl => ?_)
      refine lv_aload_n hx hb dX3_join_31 rfl (lv_at hl 2 rfl) ?_
      refine va_get (D := D) (ci := 3) (v := .int (nI n1)) (C := RX3) (T := TX3) (N := 3) hx hb hts i_X3 hown hK.1 hP 0 rfl rfl 1 (by decide) f_15 (fun _ h9 => h9) rfl dX3_join_32 ?_
      refine lv_iload_n hx hb dX3_join_35 rfl (lv_at hl 1 rfl) ?_
      refine m_and hx hb dX3_join_36 ?_
      refine m_if_eq (tgt := 59) hx hb dX3_join_37 (by decide) (and_pow_lt _ (by omega)) (fun c_37 => ?_) (fun c_37 => ?_)
      · refine lv_aload_n hx hb dX3_join_59 rfl (lv_at hl 2 rfl) ?_
        refine va_get (D := D) (ci := 3) (v := .int (nI n2)) (C := RX3) (T := TX3) (N := 3) hx hb hts i_X3 hown hK.1 hP 0 rfl rfl 2 (by decide) f_19 (fun _ h9 => h9) rfl dX3_join_60 ?_
        refine lv_iload hx hb dX3_join_63 (lv_at hl 0 rfl) ?_
        refine m_and hx hb dX3_join_65 ?_
        refine m_if_eq (tgt := 71) hx hb dX3_join_66 (by decide) (and_pow_lt _ (by omega)) (fun c_66 => ?_) (fun c_66 => ?_)
        · refine lv_aload_n hx hb dX3_join_71 rfl (lv_at hl 2 rfl) ?_
          refine lv_dup hx hb dX3_join_72 rfl ?_
          refine va_get (D := D) (ci := 3) (v := .int (nI n1)) (C := RX3) (T := TX3) (N := 3) hx hb hts i_X3 hown hK.1 hP 0 rfl rfl 1 (by decide) f_15 (fun _ h9 => h9) rfl dX3_join_73 ?_
          refine lv_iload_n hx hb dX3_join_76 rfl (lv_at hl 1 rfl) ?_
          refine m_or hx hb dX3_join_77 ?_
          refine va_put (D := D) (ci := 3) (v := .int (nI (n1 ||| (2 ^ (a - 97))))) (ty := .int) (C := RX3) (T := TX3) (N := 3) hx hb hts i_X3 tyX3 tyX3_ok nmX3 hown hK.1 hP hD hS 0 rfl rfl 1 (by decide) f_15 (fun _ h9 => h9) rfl (by decide +kernel) rfl rfl (Nat.le_of_ble_eq_true rfl) dX3_join_78 (fun H locs hP hD hS => ?_)
          have hP : va_P D vwCl [(o, .inr (3, [.ref q1, .int (nI (n1 ||| (2 ^ (a - 97)))), .int (nI n2)])), (q1, aN cI 26 pt)] H := hP
          have hD : va_D A [(o, .inr (3, [.ref q1, .int (nI (n1 ||| (2 ^ (a - 97)))), .int (nI n2)])), (q1, aN cI 26 pt)] := hD
          refine lv_aload_n hx hb dX3_join_81 rfl (lv_at hl 2 rfl) ?_
          refine lv_dup hx hb dX3_join_82 rfl ?_
          refine va_get (D := D) (ci := 3) (v := .int (nI n2)) (C := RX3) (T := TX3) (N := 3) hx hb hts i_X3 hown hK.1 hP 0 rfl rfl 2 (by decide) f_19 (fun _ h9 => h9) rfl dX3_join_83 ?_
          refine lv_iload hx hb dX3_join_86 (lv_at hl 0 rfl) ?_
          refine m_or hx hb dX3_join_88 ?_
          refine va_put (D := D) (ci := 3) (v := .int (nI (n2 ||| (2 ^ (b - 97))))) (ty := .int) (C := RX3) (T := TX3) (N := 3) hx hb hts i_X3 tyX3 tyX3_ok nmX3 hown hK.1 hP hD hS 0 rfl rfl 2 (by decide) f_19 (fun _ h9 => h9) rfl (by decide +kernel) rfl rfl (Nat.le_of_ble_eq_true rfl) dX3_join_89 (fun H locs hP hD hS => ?_)
          have hP : va_P D vwCl [(o, .inr (3, [.ref q1, .int (nI (n1 ||| (2 ^ (a - 97)))), .int (nI (n2 ||| (2 ^ (b - 97))))])), (q1, aN cI 26 pt)] H := hP
          have hD : va_D A [(o, .inr (3, [.ref q1, .int (nI (n1 ||| (2 ^ (a - 97)))), .int (nI (n2 ||| (2 ^ (b - 97))))])), (q1, aN cI 26 pt)] := hD
          refine lv_aload_n hx hb dX3_join_92 rfl (lv_at hl 2 rfl) ?_
          refine va_get (D := D) (ci := 3) (v := .ref q1) (C := RX3) (T := TX3) (N := 3) hx hb hts i_X3 hown hK.1 hP 0 rfl rfl 0 (by decide) f_9 (fun _ h9 => h9) rfl dX3_join_93 ?_
          refine lv_iload_n hx hb dX3_join_96 rfl (lv_at hl 3 rfl) ?_
          refine lv_bipush (v := nI 97) hx hb dX3_join_97 (by decide) ?_
          refine m_sub hx hb (by omega) dX3_join_99 ?_
          refine lv_iload_n hx hb dX3_join_100 rfl (lv_at hl 4 rfl) ?_
          refine m_ast hx hb hK hP hD hS 1 rfl (by decide) (by omega) dX3_join_101 (ws' := [(o, .inr (3, [.ref q1, .int (nI (n1 ||| (2 ^ (a - 97)))), .int (nI (n2 ||| (2 ^ (b - 97))))])), (q1, aN cI 26 (upN pt (a - 97) b))]) rfl (fun H locs hP hD hS => ?_)
          refine lv_iconst (v := nI 1) hx hb dX3_join_102 (by decide) ?_
          rw [hQ]
          have X9 := pm_new hpm ia ib c_37 c_66
          exact m_zwr hx hb hr hlocks (_, _, _) (nI_01 (by omega)) (⟨bb_one X9.1, by rw [jnL_t X9.1]; exact X9.2⟩) hP hS dX3_join_103
        · refine lv_iconst (v := nI 0) hx hb dX3_join_69 (by decide) ?_
          rw [hQ]
          have X9 := pm_clash hpm ia ib c_37 c_66
          exact m_zwr hx hb hr hlocks (n1, n2, pt) (nI_01 (by omega)) (⟨bb_zero X9, by rw [jnL_f X9]; exact hpm⟩) hP hS dX3_join_70
      · refine lv_aload_n hx hb dX3_join_40 rfl (lv_at hl 2 rfl) ?_
        refine va_get (D := D) (ci := 3) (v := .ref q1) (C := RX3) (T := TX3) (N := 3) hx hb hts i_X3 hown hK.1 hP 0 rfl rfl 0 (by decide) f_9 (fun _ h9 => h9) rfl dX3_join_41 ?_
        refine lv_iload_n hx hb dX3_join_44 rfl (lv_at hl 3 rfl) ?_
        refine lv_bipush (v := nI 97) hx hb dX3_join_45 (by decide) ?_
        refine m_sub hx hb (by omega) dX3_join_47 ?_
        refine m_ald hx hb hK hP 1 rfl (by decide) (by omega) dX3_join_48 ?_
        refine lv_iload_n hx hb dX3_join_49 rfl (lv_at hl 4 rfl) ?_
        refine m_cmp_ne (tgt := 57) hx hb dX3_join_50 (by decide) (Nat.lt_of_le_of_lt (hpm.2.2.2.2.2.2 _) (by decide)) (by omega) (fun c_50 => ?_) (fun c_50 => ?_)
        · refine lv_iconst (v := nI 0) hx hb dX3_join_57 (by decide) ?_
          rw [hQ]
          have X9 := (pm_old hpm ia ib c_37).2 c_50
          exact m_zwr hx hb hr hlocks (n1, n2, pt) (nI_01 (by omega)) (⟨bb_zero X9, by rw [jnL_f X9]; exact hpm⟩) hP hS dX3_join_58
        · refine lv_iconst (v := nI 1) hx hb dX3_join_53 (by decide) ?_
          refine lv_goto (tgt := 58) hx hb dX3_join_54 (by decide) ?_
          rw [hQ]
          have X9 := (pm_old hpm ia ib c_37).1 c_50
          exact m_zwr hx hb hr hlocks (n1, n2, pt) (nI_01 (by omega)) (⟨bb_one X9.1, by rw [jnL_t X9.1]; exact X9.2⟩) hP hS dX3_join_58
    · have X9 : jnB L a b = false := jnB_nm2 c_11
      refine lv_iconst (v := nI 0) hx hb dX3_join_14 (by decide) ?_
      rw [hQ]
      exact m_zwr hx hb hr hlocks (n1, n2, pt) (nI_01 (by omega)) (⟨bb_zero X9, by rw [jnL_f X9]; exact hpm⟩) hP hS dX3_join_15

theorem yd_X3_hasPartner : yX3_hasPartner.cls = RX3 ∧ yX3_hasPartner.cls ≠ "java/lang/invoke/MethodHandle" ∧ yX3_hasPartner.cls ≠ "java/lang/invoke/VarHandle" ∧ (parseMethodDescriptor yX3_hasPartner.desc).map (fun d => d.parameters.length) = some 1 := by decide +kernel
set_option maxHeartbeats 4000000 in
set_option maxRecDepth 100000 in
theorem k_X3_hasPartner (l : Launch) (D : va_G) (cI cZ : ClassId) (o q1 n1 n2 : Nat) (pt : Nat → Nat) (L : List (Nat × Nat)) (a : Nat) (hpm : pmC n1 n2 pt L) (ha : a ≤ 126) : Met l yX3_hasPartner wsX3_hasPartner ({ frames := 1, cells := 0, slots := 0, locals := 20 }) (mPc [.ref o, .int (nI a)] D cI cZ [(o, .inr (3, [.ref q1, .int (nI n1), .int (nI n2)])), (q1, aN cI 26 pt)]) (QcRead (bI (hpB L a))) 0 0 (fun _ => False) := by
  refine Met.ofW (cc := cX3_hasPartner) (maxL := 2) (ret := (some .boolean)) (by decide) rfl ?_
  intro p e s m args below meth c s₁ BB hml hv
  obtain ⟨hargs, hP, hD0, hK⟩ := hv
  have hx := BB.exec
  have hb := BB.bytes
  have hr := BB.returns
  have hts := atoms_spec (ws := wsX3_hasPartner) BB.pre
  have hown : s.vm.findClass RX3 = some m.cls := findClass_of_methodNamed BB.named
  have hlocks := BB.notSynchronized
  have hcf : CallFix p m c cX3_hasPartner 2 s args wsX3_hasPartner RX3 := ⟨hx, hb, hml, hown, hts⟩
  have hD := hD0
  rw [hargs, lg_entry_eq, ← hargs]
  have hl := lv_entry ([.ref o, .int (nI a)]) (n := 2) (Nat.le_of_ble_eq_true rfl)
  generalize (lg_sl ([.ref o, .int (nI a)]) ++ List.replicate (2 - (lg_sl ([.ref o, .int (nI a)])).length) Slot.unset).toArray = ls at hl ⊢
  have hl : lv_has ls 2 [(0, .ref o), (1, .int (nI a))] := hl
  obtain ⟨Q, hQ⟩ : ∃ Q, Q = MQ below (QcRead (bI (hpB L a))) args s 0 0 (fun _ => False) := ⟨_, rfl⟩
  rw [← hQ]
  have mn_22 := hK.2.2 ("SameAgain$Pairing", 22, ⟨"SameAgain", "isName", "(I)Z"⟩, "SameAgain") (by decide +kernel)
  have in_X7 := hts (.initialized RX7) (by decide +kernel)
  have st_X7_isName := hts (.static yX7_isName) (by decide +kernel)
  have i_X3 : ∀ w ∈ u_ws RX3 TX3 3, w ∈ wsX3_hasPartner := by decide +kernel
  have f_15 := hts (.fieldLink RX3 15 "SameAgain$Pairing" "namesOfOne" "I") (by decide +kernel)
  refine lv_iload_n hx hb dX3_hasPartner_0 rfl (lv_at hl 1 rfl) ?_
  refine m_rdSN (As := [.int (nI a)]) (rest := []) (wc := []) hcf (k_X7_isName (l := l) (D := D) (cI := cI) (cZ := cZ) (a := a) (ha := by omega)) ⟨va_cnB 1 hts gX3_hasPartner_X7_isName_n22 rfl rfl rfl mn_22 in_X7 yd_X7_isName.2 ⟨Nat.le_of_ble_eq_true rfl, Nat.le_of_ble_eq_true rfl⟩, st_X7_isName, trivial⟩ (m_preS hK hP hD [] (by decide) rfl) rfl hl.1 rfl (Nat.le_of_ble_eq_true rfl) dX3_hasPartner_1 ⟨Nat.zero_le _, Nat.zero_le _⟩ ?_
  refine m_ifB_eq (tgt := 25) hx hb dX3_hasPartner_4 (by decide) (fun c_4 => ?_) (fun c_4 => ?_)
  · refine lv_iconst (v := nI 0) hx hb dX3_hasPartner_25 (by decide) ?_
    rw [hQ]
    exact m_zrd hx hb hr hlocks (bb_zero (hpB_f (by first | (rw [c_4]; rintro ⟨h, -⟩; cases h; done) | (rintro ⟨-, q, hq, e⟩; exact pm_hasnt hpm ia c_18 q hq e)))) dX3_hasPartner_26
  · have ia := nmB_iff.mp c_4
    refine lv_aload_n hx hb dX3_hasPartner_7 rfl (lv_at hl 0 rfl) ?_
    refine va_get (D := D) (ci := 3) (v := .int (nI n1)) (C := RX3) (T := TX3) (N := 3) hx hb hts i_X3 hown hK.1 hP 0 rfl rfl 1 (by decide) f_15 (fun _ h9 => h9) rfl dX3_hasPartner_8 ?_
    refine lv_iconst (v := nI 1) hx hb dX3_hasPartner_11 (by decide) ?_
    refine lv_iload_n hx hb dX3_hasPartner_12 rfl (lv_at hl 1 rfl) ?_
    refine lv_bipush (v := nI 97) hx hb dX3_hasPartner_13 (by decide) ?_
    refine m_sub hx hb (by omega) dX3_hasPartner_15 ?_
    refine m_shl1 hx hb (by omega) dX3_hasPartner_16 ?_
    refine m_and hx hb dX3_hasPartner_17 ?_
    refine m_if_eq (tgt := 25) hx hb dX3_hasPartner_18 (by decide) (and_pow_lt _ (by omega)) (fun c_18 => ?_) (fun c_18 => ?_)
    · refine lv_iconst (v := nI 0) hx hb dX3_hasPartner_25 (by decide) ?_
      rw [hQ]
      exact m_zrd hx hb hr hlocks (bb_zero (hpB_f (by first | (rw [c_4]; rintro ⟨h, -⟩; cases h; done) | (rintro ⟨-, q, hq, e⟩; exact pm_hasnt hpm ia c_18 q hq e)))) dX3_hasPartner_26
    · refine lv_iconst (v := nI 1) hx hb dX3_hasPartner_21 (by decide) ?_
      refine lv_goto (tgt := 26) hx hb dX3_hasPartner_22 (by decide) ?_
      rw [hQ]
      exact m_zrd hx hb hr hlocks (bb_one (hpB_iff.mpr ⟨c_4, by obtain ⟨q, hq, e, -⟩ := pm_has hpm ia c_18; exact ⟨q, hq, e⟩⟩)) dX3_hasPartner_26

theorem yd_X3_renamed : yX3_renamed.cls = RX3 ∧ yX3_renamed.cls ≠ "java/lang/invoke/MethodHandle" ∧ yX3_renamed.cls ≠ "java/lang/invoke/VarHandle" ∧ (parseMethodDescriptor yX3_renamed.desc).map (fun d => d.parameters.length) = some 1 := by decide +kernel
set_option maxHeartbeats 4000000 in
set_option maxRecDepth 100000 in
theorem k_X3_renamed (l : Launch) (D : va_G) (cI cZ : ClassId) (o q1 n1 n2 : Nat) (pt : Nat → Nat) (L : List (Nat × Nat)) (a : Nat) (hpm : pmC n1 n2 pt L) (ha : a ≤ 126) : Met l yX3_renamed wsX3_renamed ({ frames := 2, cells := 0, slots := 0, locals := 41 }) (mPc [.ref o, .int (nI a)] D cI cZ [(o, .inr (3, [.ref q1, .int (nI n1), .int (nI n2)])), (q1, aN cI 26 pt)]) (QcRead (nI (rnN L a))) 0 0 (fun _ => False) := by
  refine Met.ofW (cc := cX3_renamed) (maxL := 2) (ret := (some .int)) (by decide) rfl ?_
  intro p e s m args below meth c s₁ BB hml hv
  obtain ⟨hargs, hP, hD0, hK⟩ := hv
  have hx := BB.exec
  have hb := BB.bytes
  have hr := BB.returns
  have hts := atoms_spec (ws := wsX3_renamed) BB.pre
  have hown : s.vm.findClass RX3 = some m.cls := findClass_of_methodNamed BB.named
  have hlocks := BB.notSynchronized
  have hcf : CallFix p m c cX3_renamed 2 s args wsX3_renamed RX3 := ⟨hx, hb, hml, hown, hts⟩
  have hD := hD0
  rw [hargs, lg_entry_eq, ← hargs]
  have hl := lv_entry ([.ref o, .int (nI a)]) (n := 2) (Nat.le_of_ble_eq_true rfl)
  generalize (lg_sl ([.ref o, .int (nI a)]) ++ List.replicate (2 - (lg_sl ([.ref o, .int (nI a)])).length) Slot.unset).toArray = ls at hl ⊢
  have hl : lv_has ls 2 [(0, .ref o), (1, .int (nI a))] := hl
  obtain ⟨Q, hQ⟩ : ∃ Q, Q = MQ below (QcRead (nI (rnN L a))) args s 0 0 (fun _ => False) := ⟨_, rfl⟩
  rw [← hQ]
  have i_X3 : ∀ w ∈ u_ws RX3 TX3 3, w ∈ wsX3_renamed := by decide +kernel
  have f_9 := hts (.fieldLink RX3 9 "SameAgain$Pairing" "partners" "[I") (by decide +kernel)
  refine lv_aload_n hx hb dX3_renamed_0 rfl (lv_at hl 0 rfl) ?_
  refine lv_iload_n hx hb dX3_renamed_1 rfl (lv_at hl 1 rfl) ?_
  refine m_rdV (As := [.int (nI a)]) (rest := []) (wc := [(o, .inr (3, [.ref q1, .int (nI n1), .int (nI n2)])), (q1, aN cI 26 pt)]) hcf (k_X3_hasPartner (l := l) (D := D) (cI := cI) (cZ := cZ) (a := a) (o := o) (q1 := q1) (n1 := n1) (n2 := n2) (pt := pt) (hpm := hpm) (ha := ha)) (cwV 1 hts gX3_renamed_X3_hasPartner rfl rfl rfl yd_X3_hasPartner ⟨Nat.le_of_ble_eq_true rfl, Nat.le_of_ble_eq_true rfl⟩) (m_preV hK hP hD [0, 1] (by decide) rfl rfl rfl) rfl hl.1 rfl (Nat.le_of_ble_eq_true rfl) dX3_renamed_2 ⟨Nat.zero_le _, Nat.zero_le _⟩ ?_
  refine m_ifB_eq (tgt := 20) hx hb dX3_renamed_5 (by decide) (fun c_5 => ?_) (fun c_5 => ?_)
  · have ia := c_5
    refine lv_iload_n hx hb dX3_renamed_20 rfl (lv_at hl 1 rfl) ?_
    rw [hQ]
    exact m_ird hx hb hr hlocks (by rw [rnN_o hpm ia]) dX3_renamed_21
  · have ia := nmB_iff.mp (hpB_iff.mp c_5).1
    obtain ⟨q, hq, eq⟩ := (hpB_iff.mp c_5).2
    refine lv_aload_n hx hb dX3_renamed_8 rfl (lv_at hl 0 rfl) ?_
    refine va_get (D := D) (ci := 3) (v := .ref q1) (C := RX3) (T := TX3) (N := 3) hx hb hts i_X3 hown hK.1 hP 0 rfl rfl 0 (by decide) f_9 (fun _ h9 => h9) rfl dX3_renamed_9 ?_
    refine lv_iload_n hx hb dX3_renamed_12 rfl (lv_at hl 1 rfl) ?_
    refine lv_bipush (v := nI 97) hx hb dX3_renamed_13 (by decide) ?_
    refine m_sub hx hb (by omega) dX3_renamed_15 ?_
    refine m_ald hx hb hK hP 1 rfl (by decide) (by omega) dX3_renamed_16 ?_
    refine lv_goto (tgt := 21) hx hb dX3_renamed_17 (by decide) ?_
    rw [hQ]
    exact m_ird hx hb hr hlocks (by rw [← eq, rnN_in hpm.2.2.2.2.2.1 hq, (hpm.2.2.2.2.1 q hq).2.2]) dX3_renamed_21

theorem yd_X3_firstNameThatFits : yX3_firstNameThatFits.cls = RX3 ∧ yX3_firstNameThatFits.cls ≠ "java/lang/invoke/MethodHandle" ∧ yX3_firstNameThatFits.cls ≠ "java/lang/invoke/VarHandle" ∧ (parseMethodDescriptor yX3_firstNameThatFits.desc).map (fun d => d.parameters.length) = some 1 := by decide +kernel
set_option maxHeartbeats 4000000 in
set_option maxRecDepth 100000 in
theorem k_X3_firstNameThatFits (l : Launch) (D : va_G) (cI cZ : ClassId) (o q1 n1 n2 : Nat) (pt : Nat → Nat) (L : List (Nat × Nat)) (a : Nat) (hpm : pmC n1 n2 pt L) (ha : a ≤ 126) (hna : nmB a = true) : Met l yX3_firstNameThatFits wsX3_firstNameThatFits ({ frames := 3, cells := 0, slots := 0, locals := 62 }) (mPc [.ref o, .int (nI a)] D cI cZ [(o, .inr (3, [.ref q1, .int (nI n1), .int (nI n2)])), (q1, aN cI 26 pt)]) (QcRead (nI (ffN L a))) 0 0 (fun _ => False) := by
  refine Met.ofW (cc := cX3_firstNameThatFits) (maxL := 3) (ret := (some .int)) (by decide) rfl ?_
  intro p e s m args below meth c s₁ BB hml hv
  obtain ⟨hargs, hP, hD0, hK⟩ := hv
  have hx := BB.exec
  have hb := BB.bytes
  have hr := BB.returns
  have hts := atoms_spec (ws := wsX3_firstNameThatFits) BB.pre
  have hown : s.vm.findClass RX3 = some m.cls := findClass_of_methodNamed BB.named
  have hlocks := BB.notSynchronized
  have hcf : CallFix p m c cX3_firstNameThatFits 3 s args wsX3_firstNameThatFits RX3 := ⟨hx, hb, hml, hown, hts⟩
  have hD := hD0
  rw [hargs, lg_entry_eq, ← hargs]
  have hl := lv_entry ([.ref o, .int (nI a)]) (n := 3) (Nat.le_of_ble_eq_true rfl)
  generalize (lg_sl ([.ref o, .int (nI a)]) ++ List.replicate (3 - (lg_sl ([.ref o, .int (nI a)])).length) Slot.unset).toArray = ls at hl ⊢
  have hl : lv_has ls 3 [(0, .ref o), (1, .int (nI a))] := hl
  obtain ⟨Q, hQ⟩ : ∃ Q, Q = MQ below (QcRead (nI (ffN L a))) args s 0 0 (fun _ => False) := ⟨_, rfl⟩
  rw [← hQ]
  have i_X3 : ∀ w ∈ u_ws RX3 TX3 3, w ∈ wsX3_firstNameThatFits := by decide +kernel
  have f_19 := hts (.fieldLink RX3 19 "SameAgain$Pairing" "namesOfOther" "I") (by decide +kernel)
  refine lv_aload_n hx hb dX3_firstNameThatFits_0 rfl (lv_at hl 0 rfl) ?_
  refine lv_iload_n hx hb dX3_firstNameThatFits_1 rfl (lv_at hl 1 rfl) ?_
  refine m_rdV (As := [.int (nI a)]) (rest := []) (wc := [(o, .inr (3, [.ref q1, .int (nI n1), .int (nI n2)])), (q1, aN cI 26 pt)]) hcf (k_X3_hasPartner (l := l) (D := D) (cI := cI) (cZ := cZ) (a := a) (o := o) (q1 := q1) (n1 := n1) (n2 := n2) (pt := pt) (hpm := hpm) (ha := ha)) (cwV 1 hts gX3_firstNameThatFits_X3_hasPartner rfl rfl rfl yd_X3_hasPartner ⟨Nat.le_of_ble_eq_true rfl, Nat.le_of_ble_eq_true rfl⟩) (m_preV hK hP hD [0, 1] (by decide) rfl rfl rfl) rfl hl.1 rfl (Nat.le_of_ble_eq_true rfl) dX3_firstNameThatFits_2 ⟨Nat.zero_le _, Nat.zero_le _⟩ ?_
  refine m_ifB_eq (tgt := 14) hx hb dX3_firstNameThatFits_5 (by decide) (fun c_5 => ?_) (fun c_5 => ?_)
  · refine lv_iconst (v := nI 0) hx hb dX3_firstNameThatFits_14 (by decide) ?_
    refine lv_istore_n (lv' := [(2, .int (nI 0)), (0, .ref o), (1, .int (nI a))]) hx hb dX3_firstNameThatFits_15 rfl hl (by decide) rfl (fun ls hl => ?_)
    have loop_16 : ∀ (fu : Nat) (k : Nat) (hfu : 26 - k < fu)  (hk : k ≤ 26) (hall : ∀ j, j < k → ∃ q ∈ L, q.2 = j + 97) (ls : Array Slot) (hl : lv_has ls 3 [(0, .ref o), (1, .int (nI a)), (2, .int (nI k))]), W p l e (headSpec wsX3_firstNameThatFits { frames := 3, cells := 0, slots := 0, locals := 62 }).room s m args below meth c s.heap [] 0 0 Q (F0 m 16 ls []) := by
      intro fu
      induction fu with
      | zero => intro k hfu; exact absurd hfu (Nat.not_lt_zero _)
      | succ fu ih_16 =>
        intro k hfu hk hall ls hl
        refine lv_iload_n hx hb dX3_firstNameThatFits_16 rfl (lv_at hl 2 rfl) ?_
        refine lv_bipush (v := nI 26) hx hb dX3_firstNameThatFits_17 (by decide) ?_
        refine m_cmp_ge (tgt := 44) hx hb dX3_firstNameThatFits_19 (by decide) (by omega) (by omega) (fun c_19 => ?_) (fun c_19 => ?_)
        · refine lv_iconst (v := nI 0) hx hb dX3_firstNameThatFits_44 (by decide) ?_
          rw [hQ]
          exact m_ird hx hb hr hlocks (by rw [ffN_no c_5 (fun j hj => hall j (by omega))]) dX3_firstNameThatFits_45
        · refine lv_aload_n hx hb dX3_firstNameThatFits_22 rfl (lv_at hl 0 rfl) ?_
          refine va_get (D := D) (ci := 3) (v := .int (nI n2)) (C := RX3) (T := TX3) (N := 3) hx hb hts i_X3 hown hK.1 hP 0 rfl rfl 2 (by decide) f_19 (fun _ h9 => h9) rfl dX3_firstNameThatFits_23 ?_
          refine lv_iconst (v := nI 1) hx hb dX3_firstNameThatFits_26 (by decide) ?_
          refine lv_iload_n hx hb dX3_firstNameThatFits_27 rfl (lv_at hl 2 rfl) ?_
          refine m_shl1 hx hb (by omega) dX3_firstNameThatFits_28 ?_
          refine m_and hx hb dX3_firstNameThatFits_29 ?_
          refine m_if_ne (tgt := 38) hx hb dX3_firstNameThatFits_30 (by decide) (and_pow_lt _ (by omega)) (fun c_30 => ?_) (fun c_30 => ?_)
          · refine lv_iinc (v := nI (k + 1)) (lv' := [(2, .int (nI (k + 1))), (0, .ref o), (1, .int (nI a))]) hx hb dX3_firstNameThatFits_38 hl (k := 2) rfl (by rw [nI_succ]; rfl) (by decide) rfl (fun ls hl => ?_)
            refine lv_goto (tgt := 16) hx hb dX3_firstNameThatFits_41 (by decide) ?_
            have e9 : ∃ q ∈ L, q.2 = k + 97 := (hpm.2.2.2.1 k (by omega)).mp (and_pow_ne.mp c_30)
            exact ih_16 (k + 1) (by omega) (by omega) (lt_s hall e9)  ls (lv_sub hl [1, 2, 0] rfl)
          · refine lv_bipush (v := nI 97) hx hb dX3_firstNameThatFits_33 (by decide) ?_
            refine lv_iload_n hx hb dX3_firstNameThatFits_35 rfl (lv_at hl 2 rfl) ?_
            refine m_add hx hb dX3_firstNameThatFits_36 ?_
            rw [hQ]
            exact m_ird hx hb hr hlocks (by rw [ffN_at c_5 (by omega) hall (fun q hq e => and_pow_ne.mpr ((hpm.2.2.2.1 k (by omega)).mpr ⟨q, hq, e⟩) c_30)]) dX3_firstNameThatFits_37
    exact loop_16 27 0 (by omega) (by omega) (fun j hj => absurd hj (Nat.not_lt_zero j))  ls (lv_sub hl [1, 2, 0] rfl)
  · refine lv_aload_n hx hb dX3_firstNameThatFits_8 rfl (lv_at hl 0 rfl) ?_
    refine lv_iload_n hx hb dX3_firstNameThatFits_9 rfl (lv_at hl 1 rfl) ?_
    refine m_rdV (As := [.int (nI a)]) (rest := []) (wc := [(o, .inr (3, [.ref q1, .int (nI n1), .int (nI n2)])), (q1, aN cI 26 pt)]) hcf (k_X3_renamed (l := l) (D := D) (cI := cI) (cZ := cZ) (a := a) (o := o) (q1 := q1) (n1 := n1) (n2 := n2) (pt := pt) (hpm := hpm) (ha := ha)) (cwV 1 hts gX3_firstNameThatFits_X3_renamed rfl rfl rfl yd_X3_renamed ⟨Nat.le_of_ble_eq_true rfl, Nat.le_of_ble_eq_true rfl⟩) (m_preV hK hP hD [0, 1] (by decide) rfl rfl rfl) rfl hl.1 rfl (Nat.le_of_ble_eq_true rfl) dX3_firstNameThatFits_10 ⟨Nat.zero_le _, Nat.zero_le _⟩ ?_
    rw [hQ]
    exact m_ird hx hb hr hlocks (by unfold ffN; rw [if_pos c_5]) dX3_firstNameThatFits_13
end
section
theorem ixB_d {a n : Nat} (h : a < 2 ^ 31) : ixB (nI a) n = decide (a < n) := by
  by_cases q : a < n
  · rw [decide_eq_true q]
    unfold ixB
    rw [nI_toInt h]
    exact decide_eq_true (by omega)
  · rw [decide_eq_false q, ixB_nIf (by omega) h]
/-- one place of two rows beside each other -/
def stX (way : Nat) (L : List (Nat × Nat)) (a b : Nat) : Bool × List (Nat × Nat) :=
  if way ≠ 0 ∧ nmB a = true then (jnB L a b, jnL L a b) else if way = 2 ∧ nuB a = true then (nuB b, L) else (decide (a = b), L)
/-- the first places of two lines -/
def lnX (way : Nat) (fa fb : Nat → Nat) (sk : Nat → Bool) (L : List (Nat × Nat)) : Nat → Bool × List (Nat × Nat)
  | 0 => (true, L)
  | p + 1 => if (lnX way fa fb sk L p).1 then (if sk p then lnX way fa fb sk L p else stX way (lnX way fa fb sk L p).2 (fa p) (fb p)) else lnX way fa fb sk L p
/-- two lines, by their slots -/
def lfX (way : Nat) (z g : Nat → Nat) (s1 s2 : Nat) (sk : Nat → Bool) (L : List (Nat × Nat)) : Bool × List (Nat × Nat) :=
  if z s2 = z s1 then lnX way (sgN z g s1) (sgN z g s2) sk L (z s1) else (false, L)
/-- two rows -/
def rwX (way : Nat) (z g : Nat → Nat) (v one other : Nat) (sk : Nat → Nat → Bool) : Nat → Bool × List (Nat × Nat)
  | 0 => (true, [])
  | k + 1 => if (rwX way z g v one other sk k).1 then lfX way z g (v * 20 + (one + k)) (v * 20 + (other + k)) (sk k) (rwX way z g v one other sk k).2 else rwX way z g v one other sk k
theorem rwX_s {way : Nat} {z g : Nat → Nat} {v one other : Nat} {sk : Nat → Nat → Bool} {k : Nat} (h : (rwX way z g v one other sk k).1 = true) : rwX way z g v one other sk (k + 1) = lfX way z g (v * 20 + (one + k)) (v * 20 + (other + k)) (sk k) (rwX way z g v one other sk k).2 := if_pos h
theorem rwX_stop {way : Nat} {z g : Nat → Nat} {v one other : Nat} {sk : Nat → Nat → Bool} {k : Nat} (h : (rwX way z g v one other sk k).1 = false) : ∀ d, rwX way z g v one other sk (k + d) = rwX way z g v one other sk k
  | 0 => rfl
  | d + 1 => by
    have ih := rwX_stop h d
    show (if (rwX way z g v one other sk (k + d)).1 then _ else rwX way z g v one other sk (k + d)) = _
    rw [ih, if_neg (by rw [h]; decide)]
theorem rwX_pre {way : Nat} {z g : Nat → Nat} {v one other : Nat} {sk : Nat → Nat → Bool} {k j : Nat} (hj : j ≤ k) (h : (rwX way z g v one other sk k).1 = true) : (rwX way z g v one other sk j).1 = true := by
  cases hb : (rwX way z g v one other sk j).1 with
  | true => rfl
  | false =>
    have := rwX_stop hb (k - j)
    rw [show j + (k - j) = k by omega] at this
    rw [this, hb] at h
    cases h
theorem lnX_s {way : Nat} {fa fb : Nat → Nat} {sk : Nat → Bool} {L : List (Nat × Nat)} {p : Nat} (h : (lnX way fa fb sk L p).1 = true) (hs : sk p = false) : lnX way fa fb sk L (p + 1) = stX way (lnX way fa fb sk L p).2 (fa p) (fb p) := by
  show (if _ then _ else _) = _
  rw [if_pos h, if_neg (by rw [hs]; decide)]
theorem lnX_k {way : Nat} {fa fb : Nat → Nat} {sk : Nat → Bool} {L : List (Nat × Nat)} {p : Nat} (hs : sk p = true) : lnX way fa fb sk L (p + 1) = lnX way fa fb sk L p := by
  show (if _ then _ else _) = _
  by_cases h : (lnX way fa fb sk L p).1 = true
  · rw [if_pos h, if_pos hs]
  · rw [if_neg h]
theorem lnX_stop {way : Nat} {fa fb : Nat → Nat} {sk : Nat → Bool} {L : List (Nat × Nat)} {p : Nat} (h : (lnX way fa fb sk L p).1 = false) : ∀ d, lnX way fa fb sk L (p + d) = lnX way fa fb sk L p
  | 0 => rfl
  | d + 1 => by
    have ih := lnX_stop h d
    show (if (lnX way fa fb sk L (p + d)).1 then _ else lnX way fa fb sk L (p + d)) = _
    rw [ih, if_neg (by rw [h]; decide)]
theorem stX_1 {way a b : Nat} {L : List (Nat × Nat)} (h : way ≠ 0) (ha : nmB a = true) : stX way L a b = (jnB L a b, jnL L a b) := if_pos ⟨h, ha⟩
theorem stX_2 {way a b : Nat} {L : List (Nat × Nat)} (ha : nmB a = false) (h : way = 2) (hn : nuB a = true) : stX way L a b = (nuB b, L) := by
  unfold stX
  rw [if_neg (fun q => by rw [ha] at q; cases q.2), if_pos ⟨h, hn⟩]
theorem stX_0 {way a b : Nat} {L : List (Nat × Nat)} (h1 : way = 0 ∨ nmB a = false) (h2 : way ≠ 2 ∨ nuB a = false) : stX way L a b = (decide (a = b), L) := by
  unfold stX
  rw [if_neg (fun q => h1.elim (fun e => q.1 e) (fun e => by rw [e] at q; cases q.2)), if_neg (fun q => h2.elim (fun e => e q.1) (fun e => by rw [e] at q; cases q.2))]
/-- the greatest k up to n with p k, or 0 -/
def raN (p : Nat → Bool) : Nat → Nat
  | 0 => 0
  | m + 1 => if p (m + 1) then m + 1 else raN p m
theorem raN_le (p : Nat → Bool) : ∀ m, raN p m ≤ m
  | 0 => Nat.le_refl 0
  | m + 1 => by
    have := raN_le p m
    unfold raN
    split <;> omega
theorem raN_all {p : Nat → Bool} : ∀ {m : Nat}, p m = true → raN p m = m
  | 0, _ => rfl
  | m + 1, h => if_pos h
theorem raN_at {p : Nat → Bool} {k : Nat} (hk : p k = true) : ∀ {m : Nat}, k ≤ m → (∀ j, k < j → j ≤ m → p j = false) → raN p m = k
  | 0, h, _ => by have : k = 0 := by omega
                  subst this; rfl
  | m + 1, h, hn => by
    by_cases e : k = m + 1
    · subst e; exact raN_all hk
    · unfold raN
      rw [if_neg (by rw [hn (m + 1) (by omega) (Nat.le_refl _)]; decide)]
      exact raN_at hk (by omega) (fun j h1 h2 => hn j h1 (by omega))
theorem raN_ge {p : Nat → Bool} (hp : ∀ j k, j ≤ k → p k = true → p j = true) {n : Nat} : ∀ {m : Nat}, 1 ≤ n → n ≤ m → (n ≤ raN p m ↔ p n = true)
  | 0, h1, h => by omega
  | m + 1, h1, h => by
    unfold raN
    by_cases q : p (m + 1) = true
    · rw [if_pos q]
      exact ⟨fun _ => hp n (m + 1) h q, fun _ => h⟩
    · rw [if_neg q]
      by_cases e : n = m + 1
      · subst e
        have := raN_le p m
        exact ⟨fun h => by omega, fun h => absurd h q⟩
      · exact raN_ge hp h1 (by omega)
def skn : Nat → Nat → Bool := fun _ p => decide (nI p = (-1))
/-- how many lines from two starts on are alike, at most m -/
def rlN (way : Nat) (z g : Nat → Nat) (v one other m : Nat) : Nat := raN (fun k => (rwX way z g v one other skn k).1) m
theorem rlN_le (way : Nat) (z g : Nat → Nat) (v one other m : Nat) : rlN way z g v one other m ≤ m := raN_le _ m
/-- whether two rows are there and alike -/
def raB (way : Nat) (z g : Nat → Nat) (v nl one other n : Nat) : Bool := decide (max one other + n ≤ nl) && (rwX way z g v one other skn n).1
/-- bits of those below n that have p -/
def mkN (p : Nat → Bool) : Nat → Nat
  | 0 => 0
  | n + 1 => mkN p n ||| (if p n then 2 ^ n else 0)
theorem mkN_lt (p : Nat → Bool) : ∀ n, mkN p n < 2 ^ n
  | 0 => Nat.zero_lt_one
  | n + 1 => by
    have ih := mkN_lt p n
    unfold mkN
    have h2 : mkN p n < 2 ^ (n + 1) := Nat.lt_trans ih (Nat.pow_lt_pow_right (by omega) (by omega))
    split
    · exact Nat.or_lt_two_pow h2 (Nat.pow_lt_pow_right (by omega) (by omega))
    · rw [Nat.or_zero]; exact h2
theorem mkN_bit (p : Nat → Bool) : ∀ n k, (mkN p n).testBit k = (decide (k < n) && p k)
  | 0, k => by simp [mkN]
  | n + 1, k => by
    have ih := mkN_bit p n k
    unfold mkN
    by_cases hp : p n = true
    · rw [if_pos hp, fb_bit_set, ih]
      by_cases e : k = n
      · subst e; simp [hp]
      · by_cases h : k < n
        · simp [h, e, Nat.lt_succ_of_lt h]
        · simp [h, e, show ¬ k < n + 1 by omega]
    · rw [if_neg hp, Nat.or_zero, ih]
      by_cases e : k = n
      · subst e; simp [hp]
      · by_cases h : k < n
        · simp [h, Nat.lt_succ_of_lt h]
        · simp [h, show ¬ k < n + 1 by omega]
theorem mkN_t {p : Nat → Bool} {n : Nat} (h : p n = true) : mkN p n ||| 2 ^ n = mkN p (n + 1) := by
  show _ = mkN p n ||| (if p n then 2 ^ n else 0)
  rw [if_pos h]
theorem mkN_f {p : Nat → Bool} {n : Nat} (h : p n = false) : mkN p n = mkN p (n + 1) := by
  show _ = mkN p n ||| (if p n then 2 ^ n else 0)
  rw [if_neg (by rw [h]; decide), Nat.or_zero]
theorem pow_le31 {n k : Nat} (h : n < 2 ^ k) (hk : k ≤ 31) : n < 2 ^ 31 := Nat.lt_of_lt_of_le h (Nat.pow_le_pow_right (by omega) hk)
/-- what the table of reaches tells of two starts -/
def rcN (rc : Nat → Nat) (nl one other : Nat) : Nat := if one < nl ∧ other < nl then rc (one * 20 + other) else 0
theorem rcN_le {rc : Nat → Nat} {b : Nat} (h : ∀ j, rc j ≤ b) (nl one other : Nat) : rcN rc nl one other ≤ b := by
  unfold rcN; split
  · exact h _
  · omega
def slN (rc : Nat → Nat) (nl start n : Nat) : Nat := mkN (fun o => decide (n ≤ rcN rc nl start o)) nl
theorem slN_lt {rc : Nat → Nat} {nl start n : Nat} (h : nl ≤ 20) : slN rc nl start n < 2 ^ 20 := Nat.lt_of_lt_of_le (mkN_lt _ _) (Nat.pow_le_pow_right (by omega) h)
def lsN (x : Nat) : Nat := fa_first (fun k => x.testBit k) 20
theorem lsN_le (x : Nat) : lsN x ≤ 20 := fa_first_le _ _
theorem first_eq {p : Nat → Bool} {n k : Nat} (hk : k ≤ n) (h : ∀ j, j < k → p j = false) (h2 : k < n → p k = true) : fa_first p n = k := by
  have a := fa_first_no p n
  have b := fa_first_yes p n
  have c := fa_first_le p n
  rcases Nat.lt_trichotomy (fa_first p n) k with q | q | q
  · have := h _ q
    rw [b (by omega)] at this
    cases this
  · exact q
  · have := a k q
    rw [h2 (by omega)] at this
    cases this
/-- how many bits -/
def bcN (x : Nat) : Nat := fb_ct (fun k => x.testBit k) 20
theorem bcN_le (x : Nat) : bcN x ≤ 20 := fb_ct_le _ _
def lgB (rc : Nat → Nat) (nl start n : Nat) : Bool := decide (2 ≤ bcN (slN rc nl start n) ∧ lsN (slN rc nl start n) = start)
def wlB (rc : Nat → Nat) (nl gr n : Nat) : Bool := decide (slN rc nl (lsN gr) (n + 1) = gr ∨ (0 < lsN gr ∧ slN rc nl (lsN gr - 1) (n + 1) = gr >>> 1))
/-- what compareAll lays -/
def rT (way : Nat) (z g : Nat → Nat) (v nl i j : Nat) : Nat := if i = j then nl - i else if i < j then rlN way z g v i j (nl - j) else rlN way z g v j i (nl - i)
theorem rT_le (way : Nat) (z g : Nat → Nat) (v nl i j : Nat) : rT way z g v nl i j ≤ nl := by
  unfold rT
  split
  · omega
  · split
    · have := rlN_le way z g v i j (nl - j); omega
    · have := rlN_le way z g v j i (nl - i); omega
def rcOK (way : Nat) (z g : Nat → Nat) (v nl : Nat) (rc : Nat → Nat) : Prop := ∀ i j, i < nl → j < nl → rc (i * 20 + j) = rT way z g v nl i j
/-- the longest: of all two starts the greatest of these -/
def lgV (rc : Nat → Nat) (nl i j : Nat) : Nat := min (rcN rc nl i j) (j - i)
/-- the best so far over the pairs ahead of (i, j) -/
def lgI (rc : Nat → Nat) (nl i j ll lo lt : Nat) : Prop :=
  (∀ a b, a < b → b < nl → (a < i ∨ (a = i ∧ b < j)) → lgV rc nl a b ≤ ll) ∧
  (0 < ll → lo < lt ∧ lt < nl ∧ lgV rc nl lo lt = ll ∧ ∀ a b, a < b → b < nl → (a < lo ∨ (a = lo ∧ b < lt)) → lgV rc nl a b < ll)
theorem lgI_0 (rc : Nat → Nat) (nl lo lt : Nat) : lgI rc nl 0 0 0 lo lt := ⟨fun a b _ _ h => by omega, fun h => by omega⟩
theorem lgI_row {rc : Nat → Nat} {nl i j ll lo lt : Nat} (h : lgI rc nl i j ll lo lt) (hj : nl ≤ j) : lgI rc nl (i + 1) (i + 2) ll lo lt :=
  ⟨fun a b h1 h2 h3 => h.1 a b h1 h2 (by omega), h.2⟩
theorem lgI_start {rc : Nat → Nat} {nl i j ll lo lt : Nat} (h : lgI rc nl i j ll lo lt) (hj : j ≤ i + 1) : lgI rc nl i (i + 1) ll lo lt :=
  ⟨fun a b h1 h2 h3 => h.1 a b h1 h2 (by omega), h.2⟩
theorem lgI_keep {rc : Nat → Nat} {nl i j ll lo lt : Nat} (h : lgI rc nl i j ll lo lt) (hv : lgV rc nl i j ≤ ll) : lgI rc nl i (j + 1) ll lo lt := by
  refine ⟨fun a b h1 h2 h3 => ?_, h.2⟩
  by_cases e : a = i ∧ b = j
  · rw [e.1, e.2]; exact hv
  · exact h.1 a b h1 h2 (by omega)
theorem lgI_new {rc : Nat → Nat} {nl i j ll lo lt : Nat} (h : lgI rc nl i j ll lo lt) (hij : i < j) (hj : j < nl) (hv : ll < lgV rc nl i j) : lgI rc nl i (j + 1) (lgV rc nl i j) i j := by
  refine ⟨fun a b h1 h2 h3 => ?_, fun _ => ⟨hij, hj, rfl, fun a b h1 h2 h3 => ?_⟩⟩
  · by_cases e : a = i ∧ b = j
    · rw [e.1, e.2]; exact Nat.le_refl _
    · have := h.1 a b h1 h2 (by omega); omega
  · have := h.1 a b h1 h2 h3; omega
end
section
theorem s_u : ∀ n, n < 32 → (((nI n).toUInt32 &&& Int32.toUInt32 31).toBitVec % 32).toNat = n := by decide +kernel
theorem m_ushrE {a k : Nat} (hk : k < 32) (h : a < 2 ^ 32) : ((nI a).toUInt32 >>> ((nI k).toUInt32 &&& Int32.toUInt32 31)).toInt32 = nI (a >>> k) := by rw [pk_ushrN h _ k (s_u k hk), Nat.shiftRight_eq_div_pow]
def pcT (M5 M3 x : Nat) : Nat := ((x - ((x >>> 1) &&& M5)) &&& M3) + (((x - ((x >>> 1) &&& M5)) >>> 2) &&& M3)
def pcR (s : Nat) : Nat := (((s + (s >>> 4)) &&& 252645135) + (((s + (s >>> 4)) &&& 252645135) >>> 8) + ((((s + (s >>> 4)) &&& 252645135) + (((s + (s >>> 4)) &&& 252645135) >>> 8)) >>> 16)) &&& 63
theorem and16 (a b : Nat) : a &&& b = 16 * (a / 16 &&& b / 16) + (a % 16 &&& b % 16) := by
  have h := Nat.div_add_mod (a &&& b) (2 ^ 4)
  rw [Nat.and_div_two_pow, Nat.and_mod_two_pow] at h
  exact h.symm
theorem n5 : ∀ h, h < 2 → ∀ l, l < 16 → ((8 * h + l / 2) &&& 5 = (l >>> 1) &&& 5 ∧ (l >>> 1) &&& 5 ≤ l) := by decide +kernel
theorem n3 : ∀ h, h < 4 → ∀ l, l < 16 → (4 * h + l / 4) &&& 3 = (l >>> 2) &&& 3 := by decide +kernel
theorem pcT_16 {M5 M3 h l : Nat} (e5 : M5 % 16 = 5) (e3 : M3 % 16 = 3) (hl : l < 16) : pcT M5 M3 (16 * h + l) = 16 * pcT (M5 / 16) (M3 / 16) h + pcT 5 3 l := by
  have a1 : ((16 * h + l) >>> 1) &&& M5 = 16 * ((h >>> 1) &&& (M5 / 16)) + ((l >>> 1) &&& 5) := by
    rw [and16, e5]
    have q1 : ((16 * h + l) >>> 1) / 16 = h >>> 1 := by rw [Nat.shiftRight_eq_div_pow, Nat.shiftRight_eq_div_pow]; omega
    have q2 : ((16 * h + l) >>> 1) % 16 = 8 * (h % 2) + l / 2 := by rw [Nat.shiftRight_eq_div_pow]; omega
    rw [q1, q2, (n5 (h % 2) (by omega) l hl).1]
  have b1 : (h >>> 1) &&& (M5 / 16) ≤ h := Nat.le_trans Nat.and_le_left (by rw [Nat.shiftRight_eq_div_pow]; omega)
  have b2 := (n5 0 (by omega) l hl).2
  unfold pcT
  rw [a1]
  generalize hA : (h >>> 1) &&& (M5 / 16) = A at *
  generalize hB : (l >>> 1) &&& 5 = B at *
  have c1 : 16 * h + l - (16 * A + B) = 16 * (h - A) + (l - B) := by omega
  rw [c1]
  generalize h - A = h' at *
  have hl' : l - B < 16 := by omega
  generalize l - B = l' at *
  have d1 : (16 * h' + l') &&& M3 = 16 * (h' &&& (M3 / 16)) + (l' &&& 3) := by
    rw [and16, e3, show (16 * h' + l') / 16 = h' by omega, show (16 * h' + l') % 16 = l' by omega]
  have d2 : ((16 * h' + l') >>> 2) &&& M3 = 16 * ((h' >>> 2) &&& (M3 / 16)) + ((l' >>> 2) &&& 3) := by
    rw [and16, e3]
    have q1 : ((16 * h' + l') >>> 2) / 16 = h' >>> 2 := by rw [Nat.shiftRight_eq_div_pow, Nat.shiftRight_eq_div_pow]; omega
    have q2 : ((16 * h' + l') >>> 2) % 16 = 4 * (h' % 4) + l' / 4 := by rw [Nat.shiftRight_eq_div_pow]; omega
    rw [q1, q2, n3 (h' % 4) (by omega) l' hl']
  rw [d1, d2]
  omega
theorem pc4 : ∀ l, l < 16 → (pcT 5 3 l = fb_ct (fun k => l.testBit k) 4 ∧ pcT 21845 13107 l = pcT 5 3 l ∧ pcT 5 3 l < 5) := by decide +kernel
theorem pcR_ok : ∀ a, a < 5 → ∀ b, b < 5 → ∀ c, c < 5 → ∀ d, d < 5 → ∀ e, e < 5 → pcR (16 * (16 * (16 * (16 * e + d) + c) + b) + a) = a + (b + (c + (d + e))) := by decide +kernel
theorem ct_16 {h l n : Nat} (hl : l < 16) : fb_ct (fun k => (16 * h + l).testBit k) (4 + n) = fb_ct (fun k => l.testBit k) 4 + fb_ct (fun k => h.testBit k) n := by
  rw [fb_ct_split]
  have e : ∀ j, (16 * h + l).testBit j = if j < 4 then l.testBit j else h.testBit (j - 4) := fun j => Nat.testBit_two_pow_mul_add (i := 4) h hl j
  congr 1
  · exact fb_ct_cong (fun k hk => by rw [e, if_pos hk])
  · exact fb_ct_cong (fun k hk => by rw [e, if_neg (by omega), Nat.add_sub_cancel_left])
theorem pc_ok {x : Nat} (hx : x < 2 ^ 20) : pcR (pcT 1431655765 858993459 x) = bcN x := by
  obtain ⟨a, b, c, d, e, ha, hb, hc, hd, he, ex⟩ : ∃ a b c d e, a < 16 ∧ b < 16 ∧ c < 16 ∧ d < 16 ∧ e < 16 ∧ x = 16 * (16 * (16 * (16 * e + d) + c) + b) + a :=
    ⟨x % 16, x / 16 % 16, x / 256 % 16, x / 4096 % 16, x / 65536, by omega, by omega, by omega, by omega, by omega, by omega⟩
  subst ex
  rw [pcT_16 (by decide) (by decide) ha, show 1431655765 / 16 = 89478485 by decide, show 858993459 / 16 = 53687091 by decide,
    pcT_16 (by decide) (by decide) hb, show 89478485 / 16 = 5592405 by decide, show 53687091 / 16 = 3355443 by decide,
    pcT_16 (by decide) (by decide) hc, show 5592405 / 16 = 349525 by decide, show 3355443 / 16 = 209715 by decide,
    pcT_16 (by decide) (by decide) hd, show 349525 / 16 = 21845 by decide, show 209715 / 16 = 13107 by decide, (pc4 e he).2.1,
    pcR_ok _ (pc4 a ha).2.2 _ (pc4 b hb).2.2 _ (pc4 c hc).2.2 _ (pc4 d hd).2.2 _ (pc4 e he).2.2]
  unfold bcN
  rw [show (20 : Nat) = 4 + (4 + (4 + (4 + 4))) by decide, ct_16 ha, ct_16 hb, ct_16 hc, ct_16 hd, (pc4 a ha).1, (pc4 b hb).1, (pc4 c hc).1, (pc4 d hd).1, (pc4 e he).1]
end
section
theorem yd_X2_signFits : yX2_signFits.cls = RX2 ∧ yX2_signFits.cls ≠ "java/lang/invoke/MethodHandle" ∧ yX2_signFits.cls ≠ "java/lang/invoke/VarHandle" ∧ (parseMethodDescriptor yX2_signFits.desc).map (fun d => d.parameters.length) = some 3 := by decide +kernel
set_option maxHeartbeats 4000000 in
set_option maxRecDepth 100000 in
theorem k_X2_signFits (l : Launch) (D : va_G) (cI cZ : ClassId) (o q0 q1 ra oc ll lo lt n1 n2 : Nat) (pt : Nat → Nat) (L : List (Nat × Nat)) (way a b : Nat) (hpm : pmC n1 n2 pt L) (hw : way ≤ 2) (ha : a ≤ 126) (hb2 : b ≤ 126) : Met l yX2_signFits wsX2_signFits ({ frames := 2, cells := 0, slots := 0, locals := 44 }) (mPc [.ref o, .int (nI way), .int (nI a), .int (nI b)] D cI cZ [(o, .inr (2, [.ref oc, .ref q0, .ref ra, .int (nI ll), .int (nI lo), .int (nI lt)])), (q0, .inr (3, [.ref q1, .int (nI n1), .int (nI n2)])), (q1, aN cI 26 pt)]) (mQi D (mA [(o, .inr (2, [.ref oc, .ref q0, .ref ra, .int (nI ll), .int (nI lo), .int (nI lt)])), (q0, .inr (3, [.ref q1, .int (nI n1), .int (nI n2)])), (q1, aN cI 26 pt)]) (fun (r : Int32) (u : Nat × Nat × (Nat → Nat)) => r = bI ((stX way L a b).1) ∧ pmC u.1 u.2.1 u.2.2 (stX way L a b).2) (fun (u : Nat × Nat × (Nat → Nat)) => [(o, .inr (2, [.ref oc, .ref q0, .ref ra, .int (nI ll), .int (nI lo), .int (nI lt)])), (q0, .inr (3, [.ref q1, .int (nI u.1), .int (nI u.2.1)])), (q1, aN cI 26 u.2.2)])) 0 0 (mA [(o, .inr (2, [.ref oc, .ref q0, .ref ra, .int (nI ll), .int (nI lo), .int (nI lt)])), (q0, .inr (3, [.ref q1, .int (nI n1), .int (nI n2)])), (q1, aN cI 26 pt)]) := by
  refine Met.ofW (cc := cX2_signFits) (maxL := 4) (ret := (some .boolean)) (by decide) rfl ?_
  intro p e s m args below meth c s₁ BB hml hv
  obtain ⟨hargs, hP, hD0, hK⟩ := hv
  have hx := BB.exec
  have hb := BB.bytes
  have hr := BB.returns
  have hts := atoms_spec (ws := wsX2_signFits) BB.pre
  have hown : s.vm.findClass RX2 = some m.cls := findClass_of_methodNamed BB.named
  have hlocks := BB.notSynchronized
  have hcf : CallFix p m c cX2_signFits 4 s args wsX2_signFits RX2 := ⟨hx, hb, hml, hown, hts⟩
  obtain ⟨A, hAe⟩ : ∃ A, A = mA [(o, .inr (2, [.ref oc, .ref q0, .ref ra, .int (nI ll), .int (nI lo), .int (nI lt)])), (q0, .inr (3, [.ref q1, .int (nI n1), .int (nI n2)])), (q1, aN cI 26 pt)] := ⟨_, rfl⟩
  have hD : va_D A [(o, .inr (2, [.ref oc, .ref q0, .ref ra, .int (nI ll), .int (nI lo), .int (nI lt)])), (q0, .inr (3, [.ref q1, .int (nI n1), .int (nI n2)])), (q1, aN cI 26 pt)] := ⟨hD0.1, fun k q h => by rw [hAe]; exact ⟨k, q.2, h⟩⟩
  have hS : va_S A s.heap s.heap [] := va_S.rf
  rw [← hAe]
  rw [hargs, lg_entry_eq, ← hargs]
  have hl := lv_entry ([.ref o, .int (nI way), .int (nI a), .int (nI b)]) (n := 4) (Nat.le_of_ble_eq_true rfl)
  generalize (lg_sl ([.ref o, .int (nI way), .int (nI a), .int (nI b)]) ++ List.replicate (4 - (lg_sl ([.ref o, .int (nI way), .int (nI a), .int (nI b)])).length) Slot.unset).toArray = ls at hl ⊢
  have hl : lv_has ls 4 [(0, .ref o), (1, .int (nI way)), (2, .int (nI a)), (3, .int (nI b))] := hl
  obtain ⟨Q, hQ⟩ : ∃ Q, Q = MQ below (mQi D A (fun (r : Int32) (u : Nat × Nat × (Nat → Nat)) => r = bI ((stX way L a b).1) ∧ pmC u.1 u.2.1 u.2.2 (stX way L a b).2) (fun (u : Nat × Nat × (Nat → Nat)) => [(o, .inr (2, [.ref oc, .ref q0, .ref ra, .int (nI ll), .int (nI lo), .int (nI lt)])), (q0, .inr (3, [.ref q1, .int (nI u.1), .int (nI u.2.1)])), (q1, aN cI 26 u.2.2)])) args s 0 0 A := ⟨_, rfl⟩
  rw [← hQ]
  have mn_73 := hK.2.2 ("SameAgain$Likeness", 73, ⟨"SameAgain", "isName", "(I)Z"⟩, "SameAgain") (by decide +kernel)
  have in_X7 := hts (.initialized RX7) (by decide +kernel)
  have st_X7_isName := hts (.static yX7_isName) (by decide +kernel)
  have mn_81 := hK.2.2 ("SameAgain$Likeness", 81, ⟨"SameAgain", "isNumber", "(I)Z"⟩, "SameAgain") (by decide +kernel)
  have st_X7_isNumber := hts (.static yX7_isNumber) (by decide +kernel)
  have i_X2 : ∀ w ∈ u_ws RX2 TX2 6, w ∈ wsX2_signFits := by decide +kernel
  have f_12 := hts (.fieldLink RX2 12 "SameAgain$Likeness" "pairing" "LSameAgain$Pairing;") (by decide +kernel)
  refine lv_iload_n hx hb dX2_signFits_0 rfl (lv_at hl 1 rfl) ?_
  refine m_if_ne (tgt := 15) hx hb dX2_signFits_1 (by decide) (by omega) (fun c_1 => ?_) (fun c_1 => ?_)
  · refine lv_iload_n hx hb dX2_signFits_15 rfl (lv_at hl 2 rfl) ?_
    refine m_rdSN (As := [.int (nI a)]) (rest := []) (wc := []) hcf (k_X7_isName (l := l) (D := D) (cI := cI) (cZ := cZ) (a := a) (ha := by omega)) ⟨va_cnB 1 hts gX2_signFits_X7_isName_n73 rfl rfl rfl mn_73 in_X7 yd_X7_isName.2 ⟨Nat.le_of_ble_eq_true rfl, Nat.le_of_ble_eq_true rfl⟩, st_X7_isName, trivial⟩ (m_preS hK hP hD [] (by decide) rfl) rfl hl.1 rfl (Nat.le_of_ble_eq_true rfl) dX2_signFits_16 ⟨Nat.zero_le _, Nat.zero_le _⟩ ?_
    refine m_ifB_eq (tgt := 32) hx hb dX2_signFits_19 (by decide) (fun c_19 => ?_) (fun c_19 => ?_)
    · refine lv_iload_n hx hb dX2_signFits_32 rfl (lv_at hl 1 rfl) ?_
      refine lv_iconst (v := nI 2) hx hb dX2_signFits_33 (by decide) ?_
      refine m_cmp_ne (tgt := 49) hx hb dX2_signFits_34 (by decide) (by omega) (by omega) (fun c_34 => ?_) (fun c_34 => ?_)
      · refine lv_iload_n hx hb dX2_signFits_49 rfl (lv_at hl 2 rfl) ?_
        refine lv_iload_n hx hb dX2_signFits_50 rfl (lv_at hl 3 rfl) ?_
        refine m_cmp_ne (tgt := 58) hx hb dX2_signFits_51 (by decide) (by omega) (by omega) (fun c_51 => ?_) (fun c_51 => ?_)
        · refine lv_iconst (v := nI 0) hx hb dX2_signFits_58 (by decide) ?_
          rw [hQ]
          have E9 : stX way L a b = (decide (a = b), L) := stX_0 (Or.inr c_19) (by first | exact Or.inl c_34 | exact Or.inr c_41)
          exact m_zwr hx hb hr hlocks (n1, n2, pt) (nI_01 (by omega)) (⟨by rw [E9]; exact b_zero c_51, by rw [E9]; exact hpm⟩) hP hS dX2_signFits_59
        · refine lv_iconst (v := nI 1) hx hb dX2_signFits_54 (by decide) ?_
          refine lv_goto (tgt := 59) hx hb dX2_signFits_55 (by decide) ?_
          rw [hQ]
          have E9 : stX way L a b = (decide (a = b), L) := stX_0 (Or.inr c_19) (by first | exact Or.inl c_34 | exact Or.inr c_41)
          exact m_zwr hx hb hr hlocks (n1, n2, pt) (nI_01 (by omega)) (⟨by rw [E9]; exact b_one c_51, by rw [E9]; exact hpm⟩) hP hS dX2_signFits_59
      · refine lv_iload_n hx hb dX2_signFits_37 rfl (lv_at hl 2 rfl) ?_
        refine m_rdSN (As := [.int (nI a)]) (rest := []) (wc := []) hcf (k_X7_isNumber (l := l) (D := D) (cI := cI) (cZ := cZ) (a := a) (ha := by omega)) ⟨va_cnB 1 hts gX2_signFits_X7_isNumber_n81 rfl rfl rfl mn_81 in_X7 yd_X7_isNumber.2 ⟨Nat.le_of_ble_eq_true rfl, Nat.le_of_ble_eq_true rfl⟩, st_X7_isNumber, trivial⟩ (m_preS hK hP hD [] (by decide) rfl) rfl hl.1 rfl (Nat.le_of_ble_eq_true rfl) dX2_signFits_38 ⟨Nat.zero_le _, Nat.zero_le _⟩ ?_
        refine m_ifB_eq (tgt := 49) hx hb dX2_signFits_41 (by decide) (fun c_41 => ?_) (fun c_41 => ?_)
        · refine lv_iload_n hx hb dX2_signFits_49 rfl (lv_at hl 2 rfl) ?_
          refine lv_iload_n hx hb dX2_signFits_50 rfl (lv_at hl 3 rfl) ?_
          refine m_cmp_ne (tgt := 58) hx hb dX2_signFits_51 (by decide) (by omega) (by omega) (fun c_51 => ?_) (fun c_51 => ?_)
          · refine lv_iconst (v := nI 0) hx hb dX2_signFits_58 (by decide) ?_
            rw [hQ]
            have E9 : stX way L a b = (decide (a = b), L) := stX_0 (Or.inr c_19) (by first | exact Or.inl c_34 | exact Or.inr c_41)
            exact m_zwr hx hb hr hlocks (n1, n2, pt) (nI_01 (by omega)) (⟨by rw [E9]; exact b_zero c_51, by rw [E9]; exact hpm⟩) hP hS dX2_signFits_59
          · refine lv_iconst (v := nI 1) hx hb dX2_signFits_54 (by decide) ?_
            refine lv_goto (tgt := 59) hx hb dX2_signFits_55 (by decide) ?_
            rw [hQ]
            have E9 : stX way L a b = (decide (a = b), L) := stX_0 (Or.inr c_19) (by first | exact Or.inl c_34 | exact Or.inr c_41)
            exact m_zwr hx hb hr hlocks (n1, n2, pt) (nI_01 (by omega)) (⟨by rw [E9]; exact b_one c_51, by rw [E9]; exact hpm⟩) hP hS dX2_signFits_59
        · refine lv_iload_n hx hb dX2_signFits_44 rfl (lv_at hl 3 rfl) ?_
          refine m_rdSN (As := [.int (nI b)]) (rest := []) (wc := []) hcf (k_X7_isNumber (l := l) (D := D) (cI := cI) (cZ := cZ) (a := b) (ha := by omega)) ⟨va_cnB 1 hts gX2_signFits_X7_isNumber_n81 rfl rfl rfl mn_81 in_X7 yd_X7_isNumber.2 ⟨Nat.le_of_ble_eq_true rfl, Nat.le_of_ble_eq_true rfl⟩, st_X7_isNumber, trivial⟩ (m_preS hK hP hD [] (by decide) rfl) rfl hl.1 rfl (Nat.le_of_ble_eq_true rfl) dX2_signFits_45 ⟨Nat.zero_le _, Nat.zero_le _⟩ ?_
          rw [hQ]
          have E9 : stX way L a b = (nuB b, L) := stX_2 c_19 c_34 c_41
          exact m_zwr hx hb hr hlocks (n1, n2, pt) (bI_01 _) (⟨by rw [E9], by rw [E9]; exact hpm⟩) hP hS dX2_signFits_48
    · refine lv_aload_n hx hb dX2_signFits_22 rfl (lv_at hl 0 rfl) ?_
      refine va_get (D := D) (ci := 2) (v := .ref q0) (C := RX2) (T := TX2) (N := 6) hx hb hts i_X2 hown hK.1 hP 0 rfl rfl 1 (by decide) f_12 (fun _ h9 => h9) rfl dX2_signFits_23 ?_
      refine lv_iload_n hx hb dX2_signFits_26 rfl (lv_at hl 2 rfl) ?_
      refine lv_iload_n hx hb dX2_signFits_27 rfl (lv_at hl 3 rfl) ?_
      refine m_wrV (As := [.int (nI a), .int (nI b)]) (rest := []) (wc := [(q0, .inr (3, [.ref q1, .int (nI n1), .int (nI n2)])), (q1, aN cI 26 pt)]) hcf (k_X3_join (l := l) (D := D) (cI := cI) (cZ := cZ) (a := a) (b := b) (o := q0) (q1 := q1) (n1 := n1) (n2 := n2) (pt := pt) (L := L) (hpm := hpm) (ha := ha) (hb2 := hb2)) (cwV 2 hts gX2_signFits_X3_join rfl rfl rfl yd_X3_join ⟨Nat.le_of_ble_eq_true rfl, Nat.le_of_ble_eq_true rfl⟩) hK hP hD hS [1, 2] (by decide) rfl rfl rfl rfl hl.1 rfl (Nat.le_of_ble_eq_true rfl) dX2_signFits_28 ⟨Nat.zero_le _, Nat.zero_le _⟩ (fun _ => rfl) (fun (u : Nat × Nat × (Nat → Nat)) => [(o, .inr (2, [.ref oc, .ref q0, .ref ra, .int (nI ll), .int (nI lo), .int (nI lt)])), (q0, .inr (3, [.ref q1, .int (nI u.1), .int (nI u.2.1)])), (q1, aN cI 26 u.2.2)]) (fun _ => rfl) (fun r u H locs hp_28 hP hD hS => ?_)
      obtain ⟨n1u_28, n2u_28, ptu_28⟩ := u
      have hP : va_P D vwCl [(o, .inr (2, [.ref oc, .ref q0, .ref ra, .int (nI ll), .int (nI lo), .int (nI lt)])), (q0, .inr (3, [.ref q1, .int (nI n1u_28), .int (nI n2u_28)])), (q1, aN cI 26 ptu_28)] H := hP
      have hD : va_D A [(o, .inr (2, [.ref oc, .ref q0, .ref ra, .int (nI ll), .int (nI lo), .int (nI lt)])), (q0, .inr (3, [.ref q1, .int (nI n1u_28), .int (nI n2u_28)])), (q1, aN cI 26 ptu_28)] := hD
      obtain ⟨hr_hp_28, hp_28⟩ := hp_28
      rw [hr_hp_28]
      rw [hQ]
      have E9 : stX way L a b = (jnB L a b, jnL L a b) := stX_1 c_1 c_19
      exact m_zwr hx hb hr hlocks (_, _, _) (bI_01 _) (⟨by rw [E9], by rw [E9]; exact hp_28⟩) hP hS dX2_signFits_31
  · refine lv_iload_n hx hb dX2_signFits_4 rfl (lv_at hl 2 rfl) ?_
    refine lv_iload_n hx hb dX2_signFits_5 rfl (lv_at hl 3 rfl) ?_
    refine m_cmp_ne (tgt := 13) hx hb dX2_signFits_6 (by decide) (by omega) (by omega) (fun c_6 => ?_) (fun c_6 => ?_)
    · refine lv_iconst (v := nI 0) hx hb dX2_signFits_13 (by decide) ?_
      rw [hQ]
      have E9 : stX way L a b = (decide (a = b), L) := stX_0 (Or.inl c_1) (Or.inl (by omega))
      exact m_zwr hx hb hr hlocks (n1, n2, pt) (nI_01 (by omega)) (⟨by rw [E9]; exact b_zero c_6, by rw [E9]; exact hpm⟩) hP hS dX2_signFits_14
    · refine lv_iconst (v := nI 1) hx hb dX2_signFits_9 (by decide) ?_
      refine lv_goto (tgt := 14) hx hb dX2_signFits_10 (by decide) ?_
      rw [hQ]
      have E9 : stX way L a b = (decide (a = b), L) := stX_0 (Or.inl c_1) (Or.inl (by omega))
      exact m_zwr hx hb hr hlocks (n1, n2, pt) (nI_01 (by omega)) (⟨by rw [E9]; exact b_one c_6, by rw [E9]; exact hpm⟩) hP hS dX2_signFits_14

theorem yd_X2_lineFits : yX2_lineFits.cls = RX2 ∧ yX2_lineFits.cls ≠ "java/lang/invoke/MethodHandle" ∧ yX2_lineFits.cls ≠ "java/lang/invoke/VarHandle" ∧ (parseMethodDescriptor yX2_lineFits.desc).map (fun d => d.parameters.length) = some 5 := by decide +kernel
set_option maxHeartbeats 4000000 in
set_option maxRecDepth 100000 in
theorem k_X2_lineFits (l : Launch) (D : va_G) (cI cZ : ClassId) (o q0 q1 ra oc a1 a2 ll lo lt n1 n2 nl nv : Nat) (pt rc z g : Nat → Nat) (L : List (Nat × Nat)) (v way one other : Nat) (x : Int32) (hnl : nl ≤ 20) (hnv : nv ≤ 4) (hz : ∀ j, z j ≤ 8) (hg : ∀ j, g j ≤ 126) (hpm : pmC n1 n2 pt L) (hw : way ≤ 2) (hv : v < nv) (h1 : one < nl) (h2 : other < nl) : Met l yX2_lineFits wsX2_lineFits ({ frames := 3, cells := 0, slots := 0, locals := 67 }) (mPc [.ref o, .int (nI v), .int (nI way), .int (nI one), .int (nI other), .int x] D cI cZ [(o, .inr (2, [.ref oc, .ref q0, .ref ra, .int (nI ll), .int (nI lo), .int (nI lt)])), (q0, .inr (3, [.ref q1, .int (nI n1), .int (nI n2)])), (q1, aN cI 26 pt), (ra, aN cI 400 rc), (oc, .inr (0, [.ref a1, .ref a2, .int (nI nl), .int (nI nv)])), (a1, aN cI 640 g), (a2, aN cI 80 z)]) (mQi D (mA [(o, .inr (2, [.ref oc, .ref q0, .ref ra, .int (nI ll), .int (nI lo), .int (nI lt)])), (q0, .inr (3, [.ref q1, .int (nI n1), .int (nI n2)])), (q1, aN cI 26 pt), (ra, aN cI 400 rc), (oc, .inr (0, [.ref a1, .ref a2, .int (nI nl), .int (nI nv)])), (a1, aN cI 640 g), (a2, aN cI 80 z)]) (fun (r : Int32) (u : Nat × Nat × (Nat → Nat)) => r = bI ((lfX way z g (v * 20 + one) (v * 20 + other) (fun pq => decide (nI pq = x)) L).1) ∧ pmC u.1 u.2.1 u.2.2 (lfX way z g (v * 20 + one) (v * 20 + other) (fun pq => decide (nI pq = x)) L).2) (fun (u : Nat × Nat × (Nat → Nat)) => [(o, .inr (2, [.ref oc, .ref q0, .ref ra, .int (nI ll), .int (nI lo), .int (nI lt)])), (q0, .inr (3, [.ref q1, .int (nI u.1), .int (nI u.2.1)])), (q1, aN cI 26 u.2.2), (ra, aN cI 400 rc), (oc, .inr (0, [.ref a1, .ref a2, .int (nI nl), .int (nI nv)])), (a1, aN cI 640 g), (a2, aN cI 80 z)])) 0 0 (mA [(o, .inr (2, [.ref oc, .ref q0, .ref ra, .int (nI ll), .int (nI lo), .int (nI lt)])), (q0, .inr (3, [.ref q1, .int (nI n1), .int (nI n2)])), (q1, aN cI 26 pt), (ra, aN cI 400 rc), (oc, .inr (0, [.ref a1, .ref a2, .int (nI nl), .int (nI nv)])), (a1, aN cI 640 g), (a2, aN cI 80 z)]) := by
  refine Met.ofW (cc := cX2_lineFits) (maxL := 10) (ret := (some .boolean)) (by decide) rfl ?_
  intro p e s m args below meth c s₁ BB hml hv
  obtain ⟨hargs, hP, hD0, hK⟩ := hv
  have hx := BB.exec
  have hb := BB.bytes
  have hr := BB.returns
  have hts := atoms_spec (ws := wsX2_lineFits) BB.pre
  have hown : s.vm.findClass RX2 = some m.cls := findClass_of_methodNamed BB.named
  have hlocks := BB.notSynchronized
  have hcf : CallFix p m c cX2_lineFits 10 s args wsX2_lineFits RX2 := ⟨hx, hb, hml, hown, hts⟩
  obtain ⟨A, hAe⟩ : ∃ A, A = mA [(o, .inr (2, [.ref oc, .ref q0, .ref ra, .int (nI ll), .int (nI lo), .int (nI lt)])), (q0, .inr (3, [.ref q1, .int (nI n1), .int (nI n2)])), (q1, aN cI 26 pt), (ra, aN cI 400 rc), (oc, .inr (0, [.ref a1, .ref a2, .int (nI nl), .int (nI nv)])), (a1, aN cI 640 g), (a2, aN cI 80 z)] := ⟨_, rfl⟩
  have hD : va_D A [(o, .inr (2, [.ref oc, .ref q0, .ref ra, .int (nI ll), .int (nI lo), .int (nI lt)])), (q0, .inr (3, [.ref q1, .int (nI n1), .int (nI n2)])), (q1, aN cI 26 pt), (ra, aN cI 400 rc), (oc, .inr (0, [.ref a1, .ref a2, .int (nI nl), .int (nI nv)])), (a1, aN cI 640 g), (a2, aN cI 80 z)] := ⟨hD0.1, fun k q h => by rw [hAe]; exact ⟨k, q.2, h⟩⟩
  have hS : va_S A s.heap s.heap [] := va_S.rf
  rw [← hAe]
  rw [hargs, lg_entry_eq, ← hargs]
  have hl := lv_entry ([.ref o, .int (nI v), .int (nI way), .int (nI one), .int (nI other), .int x]) (n := 10) (Nat.le_of_ble_eq_true rfl)
  generalize (lg_sl ([.ref o, .int (nI v), .int (nI way), .int (nI one), .int (nI other), .int x]) ++ List.replicate (10 - (lg_sl ([.ref o, .int (nI v), .int (nI way), .int (nI one), .int (nI other), .int x])).length) Slot.unset).toArray = ls at hl ⊢
  have hl : lv_has ls 10 [(0, .ref o), (1, .int (nI v)), (2, .int (nI way)), (3, .int (nI one)), (4, .int (nI other)), (5, .int x)] := hl
  obtain ⟨Q, hQ⟩ : ∃ Q, Q = MQ below (mQi D A (fun (r : Int32) (u : Nat × Nat × (Nat → Nat)) => r = bI ((lfX way z g (v * 20 + one) (v * 20 + other) (fun pq => decide (nI pq = x)) L).1) ∧ pmC u.1 u.2.1 u.2.2 (lfX way z g (v * 20 + one) (v * 20 + other) (fun pq => decide (nI pq = x)) L).2) (fun (u : Nat × Nat × (Nat → Nat)) => [(o, .inr (2, [.ref oc, .ref q0, .ref ra, .int (nI ll), .int (nI lo), .int (nI lt)])), (q0, .inr (3, [.ref q1, .int (nI u.1), .int (nI u.2.1)])), (q1, aN cI 26 u.2.2), (ra, aN cI 400 rc), (oc, .inr (0, [.ref a1, .ref a2, .int (nI nl), .int (nI nv)])), (a1, aN cI 640 g), (a2, aN cI 80 z)])) args s 0 0 A := ⟨_, rfl⟩
  rw [← hQ]
  have i_X2 : ∀ w ∈ u_ws RX2 TX2 6, w ∈ wsX2_lineFits := by decide +kernel
  have f_32 := hts (.fieldLink RX2 32 "SameAgain$Likeness" "code" "LSameAgain$Code;") (by decide +kernel)
  have hz1 := hz (v * 20 + one)
  have hz2 := hz (v * 20 + other)
  refine lv_aload_n hx hb dX2_lineFits_0 rfl (lv_at hl 0 rfl) ?_
  refine va_get (D := D) (ci := 2) (v := .ref oc) (C := RX2) (T := TX2) (N := 6) hx hb hts i_X2 hown hK.1 hP 0 rfl rfl 0 (by decide) f_32 (fun _ h9 => h9) rfl dX2_lineFits_1 ?_
  refine lv_iload_n hx hb dX2_lineFits_4 rfl (lv_at hl 1 rfl) ?_
  refine lv_iload_n hx hb dX2_lineFits_5 rfl (lv_at hl 3 rfl) ?_
  refine m_rdV (As := [.int (nI v), .int (nI one)]) (rest := []) (wc := [(oc, .inr (0, [.ref a1, .ref a2, .int (nI nl), .int (nI nv)])), (a1, aN cI 640 g), (a2, aN cI 80 z)]) hcf (k_X0_sizeOf (l := l) (D := D) (cI := cI) (cZ := cZ) (v := v) (ln := one) (o := oc) (a1 := a1) (a2 := a2) (nl := nl) (nv := nv) (g := g) (z := z) (hnl := hnl) (hnv := hnv) (hv := hv) (hln := h1)) (cwV 2 hts gX2_lineFits_X0_sizeOf rfl rfl rfl yd_X0_sizeOf ⟨Nat.le_of_ble_eq_true rfl, Nat.le_of_ble_eq_true rfl⟩) (m_preV hK hP hD [4, 5, 6] (by decide) rfl rfl rfl) rfl hl.1 rfl (Nat.le_of_ble_eq_true rfl) dX2_lineFits_6 ⟨Nat.zero_le _, Nat.zero_le _⟩ ?_
  refine lv_istore (lv' := [(6, .int (nI (z (v * 20 + one)))), (0, .ref o), (1, .int (nI v)), (2, .int (nI way)), (3, .int (nI one)), (4, .int (nI other)), (5, .int x)]) hx hb dX2_lineFits_9 hl (by decide) rfl (fun ls hl => ?_)
  refine lv_aload_n hx hb dX2_lineFits_11 rfl (lv_at hl 1 rfl) ?_
  refine va_get (D := D) (ci := 2) (v := .ref oc) (C := RX2) (T := TX2) (N := 6) hx hb hts i_X2 hown hK.1 hP 0 rfl rfl 0 (by decide) f_32 (fun _ h9 => h9) rfl dX2_lineFits_12 ?_
  refine lv_iload_n hx hb dX2_lineFits_15 rfl (lv_at hl 2 rfl) ?_
  refine lv_iload hx hb dX2_lineFits_16 (lv_at hl 5 rfl) ?_
  refine m_rdV (As := [.int (nI v), .int (nI other)]) (rest := []) (wc := [(oc, .inr (0, [.ref a1, .ref a2, .int (nI nl), .int (nI nv)])), (a1, aN cI 640 g), (a2, aN cI 80 z)]) hcf (k_X0_sizeOf (l := l) (D := D) (cI := cI) (cZ := cZ) (v := v) (ln := other) (o := oc) (a1 := a1) (a2 := a2) (nl := nl) (nv := nv) (g := g) (z := z) (hnl := hnl) (hnv := hnv) (hv := hv) (hln := h2)) (cwV 2 hts gX2_lineFits_X0_sizeOf rfl rfl rfl yd_X0_sizeOf ⟨Nat.le_of_ble_eq_true rfl, Nat.le_of_ble_eq_true rfl⟩) (m_preV hK hP hD [4, 5, 6] (by decide) rfl rfl rfl) rfl hl.1 rfl (Nat.le_of_ble_eq_true rfl) dX2_lineFits_18 ⟨Nat.zero_le _, Nat.zero_le _⟩ ?_
  refine lv_iload hx hb dX2_lineFits_21 (lv_at hl 0 rfl) ?_
  refine m_cmp_eq (tgt := 28) hx hb dX2_lineFits_23 (by decide) (by omega) (by omega) (fun c_23 => ?_) (fun c_23 => ?_)
  · refine lv_iconst (v := nI 0) hx hb dX2_lineFits_28 (by decide) ?_
    refine lv_istore (lv' := [(7, .int (nI 0)), (6, .int (nI (z (v * 20 + one)))), (0, .ref o), (1, .int (nI v)), (2, .int (nI way)), (3, .int (nI one)), (4, .int (nI other)), (5, .int x)]) hx hb dX2_lineFits_29 hl (by decide) rfl (fun ls hl => ?_)
    have loop_31 : ∀ (fu : Nat) (pp m1 m2 : Nat) (mt : Nat → Nat) (hfu : z (v * 20 + one) - pp < fu)  (hp : pp ≤ z (v * 20 + one)) (hq : (lnX way (sgN z g (v * 20 + one)) (sgN z g (v * 20 + other)) (fun pq => decide (nI pq = x)) L pp).1 = true) (hpm2 : pmC m1 m2 mt (lnX way (sgN z g (v * 20 + one)) (sgN z g (v * 20 + other)) (fun pq => decide (nI pq = x)) L pp).2) (H : Heap) (locs : List Loc) (hP : va_P D vwCl [(o, .inr (2, [.ref oc, .ref q0, .ref ra, .int (nI ll), .int (nI lo), .int (nI lt)])), (q0, .inr (3, [.ref q1, .int (nI m1), .int (nI m2)])), (q1, aN cI 26 mt), (ra, aN cI 400 rc), (oc, .inr (0, [.ref a1, .ref a2, .int (nI nl), .int (nI nv)])), (a1, aN cI 640 g), (a2, aN cI 80 z)] H) (hD : va_D A [(o, .inr (2, [.ref oc, .ref q0, .ref ra, .int (nI ll), .int (nI lo), .int (nI lt)])), (q0, .inr (3, [.ref q1, .int (nI m1), .int (nI m2)])), (q1, aN cI 26 mt), (ra, aN cI 400 rc), (oc, .inr (0, [.ref a1, .ref a2, .int (nI nl), .int (nI nv)])), (a1, aN cI 640 g), (a2, aN cI 80 z)]) (hS : va_S A s.heap H locs) (ls : Array Slot) (hl : lv_has ls 10 [(0, .ref o), (1, .int (nI v)), (2, .int (nI way)), (3, .int (nI one)), (4, .int (nI other)), (5, .int x), (6, .int (nI (z (v * 20 + one)))), (7, .int (nI pp))]), W p l e (headSpec wsX2_lineFits { frames := 3, cells := 0, slots := 0, locals := 67 }).room s m args below meth c H locs 0 0 Q (F0 m 31 ls []) := by
      intro fu
      induction fu with
      | zero => intro pp m1 m2 mt hfu; exact absurd hfu (Nat.not_lt_zero _)
      | succ fu ih_31 =>
        intro pp m1 m2 mt hfu hp hq hpm2 H locs hP hD hS ls hl
        refine lv_iload hx hb dX2_lineFits_31 (lv_at hl 7 rfl) ?_
        refine lv_iload hx hb dX2_lineFits_33 (lv_at hl 6 rfl) ?_
        refine m_cmp_ge (tgt := 92) hx hb dX2_lineFits_35 (by decide) (by omega) (by omega) (fun c_35 => ?_) (fun c_35 => ?_)
        · refine lv_iconst (v := nI 1) hx hb dX2_lineFits_92 (by decide) ?_
          rw [hQ]
          have e9 : pp = z (v * 20 + one) := by omega
          have E9 : lfX way z g (v * 20 + one) (v * 20 + other) (fun pq => decide (nI pq = x)) L = lnX way (sgN z g (v * 20 + one)) (sgN z g (v * 20 + other)) (fun pq => decide (nI pq = x)) L pp := by unfold lfX; rw [if_pos c_23, e9]
          exact m_zwr hx hb hr hlocks (m1, m2, mt) (nI_01 (by omega)) (⟨by rw [E9, hq]; rfl, by rw [E9]; exact hpm2⟩) hP hS dX2_lineFits_93
        · refine lv_aload_n hx hb dX2_lineFits_38 rfl (lv_at hl 0 rfl) ?_
          refine va_get (D := D) (ci := 2) (v := .ref oc) (C := RX2) (T := TX2) (N := 6) hx hb hts i_X2 hown hK.1 hP 0 rfl rfl 0 (by decide) f_32 (fun _ h9 => h9) rfl dX2_lineFits_39 ?_
          refine lv_iload_n hx hb dX2_lineFits_42 rfl (lv_at hl 1 rfl) ?_
          refine lv_iload_n hx hb dX2_lineFits_43 rfl (lv_at hl 3 rfl) ?_
          refine lv_iload hx hb dX2_lineFits_44 (lv_at hl 7 rfl) ?_
          refine m_rdV (As := [.int (nI v), .int (nI one), .int (nI pp)]) (rest := []) (wc := [(oc, .inr (0, [.ref a1, .ref a2, .int (nI nl), .int (nI nv)])), (a1, aN cI 640 g), (a2, aN cI 80 z)]) hcf (k_X0_signAt (l := l) (D := D) (cI := cI) (cZ := cZ) (v := v) (ln := one) (k := pp) (o := oc) (a1 := a1) (a2 := a2) (nl := nl) (nv := nv) (g := g) (z := z) (hnl := hnl) (hnv := hnv) (hz := hz) (hg := hg) (hv := hv) (hln := h1) (hk := by omega)) (cwV 3 hts gX2_lineFits_X0_signAt rfl rfl rfl yd_X0_signAt ⟨Nat.le_of_ble_eq_true rfl, Nat.le_of_ble_eq_true rfl⟩) (m_preV hK hP hD [4, 5, 6] (by decide) rfl rfl rfl) rfl hl.1 rfl (Nat.le_of_ble_eq_true rfl) dX2_lineFits_46 ⟨Nat.zero_le _, Nat.zero_le _⟩ ?_
          refine lv_istore (lv' := [(8, .int (nI (sgN z g (v * 20 + one) pp))), (0, .ref o), (1, .int (nI v)), (2, .int (nI way)), (3, .int (nI one)), (4, .int (nI other)), (5, .int x), (6, .int (nI (z (v * 20 + one)))), (7, .int (nI pp))]) hx hb dX2_lineFits_49 hl (by decide) rfl (fun ls hl => ?_)
          refine lv_aload_n hx hb dX2_lineFits_51 rfl (lv_at hl 1 rfl) ?_
          refine va_get (D := D) (ci := 2) (v := .ref oc) (C := RX2) (T := TX2) (N := 6) hx hb hts i_X2 hown hK.1 hP 0 rfl rfl 0 (by decide) f_32 (fun _ h9 => h9) rfl dX2_lineFits_52 ?_
          refine lv_iload_n hx hb dX2_lineFits_55 rfl (lv_at hl 2 rfl) ?_
          refine lv_iload hx hb dX2_lineFits_56 (lv_at hl 5 rfl) ?_
          refine lv_iload hx hb dX2_lineFits_58 (lv_at hl 8 rfl) ?_
          refine m_rdV (As := [.int (nI v), .int (nI other), .int (nI pp)]) (rest := []) (wc := [(oc, .inr (0, [.ref a1, .ref a2, .int (nI nl), .int (nI nv)])), (a1, aN cI 640 g), (a2, aN cI 80 z)]) hcf (k_X0_signAt (l := l) (D := D) (cI := cI) (cZ := cZ) (v := v) (ln := other) (k := pp) (o := oc) (a1 := a1) (a2 := a2) (nl := nl) (nv := nv) (g := g) (z := z) (hnl := hnl) (hnv := hnv) (hz := hz) (hg := hg) (hv := hv) (hln := h2) (hk := by omega)) (cwV 3 hts gX2_lineFits_X0_signAt rfl rfl rfl yd_X0_signAt ⟨Nat.le_of_ble_eq_true rfl, Nat.le_of_ble_eq_true rfl⟩) (m_preV hK hP hD [4, 5, 6] (by decide) rfl rfl rfl) rfl hl.1 rfl (Nat.le_of_ble_eq_true rfl) dX2_lineFits_60 ⟨Nat.zero_le _, Nat.zero_le _⟩ ?_
          refine lv_istore (lv' := [(9, .int (nI (sgN z g (v * 20 + other) pp))), (8, .int (nI (sgN z g (v * 20 + one) pp))), (0, .ref o), (1, .int (nI v)), (2, .int (nI way)), (3, .int (nI one)), (4, .int (nI other)), (5, .int x), (6, .int (nI (z (v * 20 + one)))), (7, .int (nI pp))]) hx hb dX2_lineFits_63 hl (by decide) rfl (fun ls hl => ?_)
          refine lv_iload hx hb dX2_lineFits_65 (lv_at hl 9 rfl) ?_
          refine lv_iload hx hb dX2_lineFits_67 (lv_at hl 7 rfl) ?_
          refine lv_icmp_eq (tgt := 86) hx hb dX2_lineFits_69 (by decide) (fun c_69 => ?_) (fun c_69 => ?_)
          · refine lv_iinc (v := nI (pp + 1)) (lv' := [(7, .int (nI (pp + 1))), (9, .int (nI (sgN z g (v * 20 + other) pp))), (8, .int (nI (sgN z g (v * 20 + one) pp))), (0, .ref o), (1, .int (nI v)), (2, .int (nI way)), (3, .int (nI one)), (4, .int (nI other)), (5, .int x), (6, .int (nI (z (v * 20 + one))))]) hx hb dX2_lineFits_86 hl (k := 9) rfl (by rw [nI_succ]; rfl) (by decide) rfl (fun ls hl => ?_)
            refine lv_goto (tgt := 31) hx hb dX2_lineFits_89 (by decide) ?_
            exact ih_31 (pp + 1) m1 m2 mt (by omega) (by omega) (by rw [lnX_k (decide_eq_true c_69)]; exact hq) (by rw [lnX_k (decide_eq_true c_69)]; exact hpm2) _ _ hP hD hS ls (lv_sub hl [3, 4, 5, 6, 7, 8, 9, 0] rfl)
          · refine lv_aload_n hx hb dX2_lineFits_72 rfl (lv_at hl 2 rfl) ?_
            refine lv_iload_n hx hb dX2_lineFits_73 rfl (lv_at hl 4 rfl) ?_
            refine lv_iload hx hb dX2_lineFits_74 (lv_at hl 1 rfl) ?_
            refine lv_iload hx hb dX2_lineFits_76 (lv_at hl 0 rfl) ?_
            refine m_wrV (As := [.int (nI way), .int (nI (sgN z g (v * 20 + one) pp)), .int (nI (sgN z g (v * 20 + other) pp))]) (rest := []) (wc := [(o, .inr (2, [.ref oc, .ref q0, .ref ra, .int (nI ll), .int (nI lo), .int (nI lt)])), (q0, .inr (3, [.ref q1, .int (nI m1), .int (nI m2)])), (q1, aN cI 26 mt)]) hcf (k_X2_signFits (l := l) (D := D) (cI := cI) (cZ := cZ) (way := way) (a := sgN z g (v * 20 + one) pp) (b := sgN z g (v * 20 + other) pp) (o := o) (oc := oc) (q0 := q0) (ra := ra) (ll := ll) (lo := lo) (lt := lt) (q1 := q1) (n1 := m1) (n2 := m2) (pt := mt) (L := (lnX way (sgN z g (v * 20 + one)) (sgN z g (v * 20 + other)) (fun pq => decide (nI pq = x)) L pp).2) (hpm := hpm2) (hw := hw) (ha := sgN_le hg _ _) (hb2 := sgN_le hg _ _)) (cwV 3 hts gX2_lineFits_X2_signFits rfl rfl rfl yd_X2_signFits ⟨Nat.le_of_ble_eq_true rfl, Nat.le_of_ble_eq_true rfl⟩) hK hP hD hS [0, 1, 2] (by decide) rfl rfl rfl rfl hl.1 rfl (Nat.le_of_ble_eq_true rfl) dX2_lineFits_78 ⟨Nat.zero_le _, Nat.zero_le _⟩ (fun _ => rfl) (fun (u : Nat × Nat × (Nat → Nat)) => [(o, .inr (2, [.ref oc, .ref q0, .ref ra, .int (nI ll), .int (nI lo), .int (nI lt)])), (q0, .inr (3, [.ref q1, .int (nI u.1), .int (nI u.2.1)])), (q1, aN cI 26 u.2.2), (ra, aN cI 400 rc), (oc, .inr (0, [.ref a1, .ref a2, .int (nI nl), .int (nI nv)])), (a1, aN cI 640 g), (a2, aN cI 80 z)]) (fun _ => rfl) (fun r u H locs hp_78 hP hD hS => ?_)
            obtain ⟨n1u_78, n2u_78, ptu_78⟩ := u
            have hP : va_P D vwCl [(o, .inr (2, [.ref oc, .ref q0, .ref ra, .int (nI ll), .int (nI lo), .int (nI lt)])), (q0, .inr (3, [.ref q1, .int (nI n1u_78), .int (nI n2u_78)])), (q1, aN cI 26 ptu_78), (ra, aN cI 400 rc), (oc, .inr (0, [.ref a1, .ref a2, .int (nI nl), .int (nI nv)])), (a1, aN cI 640 g), (a2, aN cI 80 z)] H := hP
            have hD : va_D A [(o, .inr (2, [.ref oc, .ref q0, .ref ra, .int (nI ll), .int (nI lo), .int (nI lt)])), (q0, .inr (3, [.ref q1, .int (nI n1u_78), .int (nI n2u_78)])), (q1, aN cI 26 ptu_78), (ra, aN cI 400 rc), (oc, .inr (0, [.ref a1, .ref a2, .int (nI nl), .int (nI nv)])), (a1, aN cI 640 g), (a2, aN cI 80 z)] := hD
            obtain ⟨hr_hp_78, hp_78⟩ := hp_78
            rw [hr_hp_78]
            refine m_ifB_ne (tgt := 86) hx hb dX2_lineFits_81 (by decide) (fun c_81 => ?_) (fun c_81 => ?_)
            · refine lv_iinc (v := nI (pp + 1)) (lv' := [(7, .int (nI (pp + 1))), (9, .int (nI (sgN z g (v * 20 + other) pp))), (8, .int (nI (sgN z g (v * 20 + one) pp))), (0, .ref o), (1, .int (nI v)), (2, .int (nI way)), (3, .int (nI one)), (4, .int (nI other)), (5, .int x), (6, .int (nI (z (v * 20 + one))))]) hx hb dX2_lineFits_86 hl (k := 9) rfl (by rw [nI_succ]; rfl) (by decide) rfl (fun ls hl => ?_)
              refine lv_goto (tgt := 31) hx hb dX2_lineFits_89 (by decide) ?_
              exact ih_31 (pp + 1) n1u_78 n2u_78 ptu_78 (by omega) (by omega) (by rw [lnX_s hq (decide_eq_false c_69)]; exact c_81) (by rw [lnX_s hq (decide_eq_false c_69)]; exact hp_78) _ _ hP hD hS ls (lv_sub hl [3, 4, 5, 6, 7, 8, 9, 0] rfl)
            · refine lv_iconst (v := nI 0) hx hb dX2_lineFits_84 (by decide) ?_
              rw [hQ]
              have E8 := lnX_s hq (decide_eq_false c_69)
              have E7 : (lnX way (sgN z g (v * 20 + one)) (sgN z g (v * 20 + other)) (fun pq => decide (nI pq = x)) L (pp + 1)).1 = false := by rw [E8]; exact c_81
              have E9 : lfX way z g (v * 20 + one) (v * 20 + other) (fun pq => decide (nI pq = x)) L = stX way (lnX way (sgN z g (v * 20 + one)) (sgN z g (v * 20 + other)) (fun pq => decide (nI pq = x)) L pp).2 (sgN z g (v * 20 + one) pp) (sgN z g (v * 20 + other) pp) := by
                rw [← E8]
                have h9 := lnX_stop E7 (z (v * 20 + one) - (pp + 1))
                rw [show pp + 1 + (z (v * 20 + one) - (pp + 1)) = z (v * 20 + one) by omega] at h9
                unfold lfX
                rw [if_pos c_23]
                exact h9
              exact m_zwr hx hb hr hlocks (_, _, _) (nI_01 (by omega)) (⟨by rw [E9, c_81]; rfl, by rw [E9]; exact hp_78⟩) hP hS dX2_lineFits_85
    exact loop_31 (z (v * 20 + one) + 1) 0 n1 n2 pt (by omega) (by omega) rfl hpm _ _ hP hD hS ls (lv_sub hl [2, 3, 4, 5, 6, 7, 1, 0] rfl)
  · refine lv_iconst (v := nI 0) hx hb dX2_lineFits_26 (by decide) ?_
    rw [hQ]
    have E9 : lfX way z g (v * 20 + one) (v * 20 + other) (fun pq => decide (nI pq = x)) L = (false, L) := if_neg c_23
    exact m_zwr hx hb hr hlocks (n1, n2, pt) (nI_01 (by omega)) (⟨by rw [E9]; rfl, by rw [E9]; exact hpm⟩) hP hS dX2_lineFits_27
end
section
theorem yd_X2_linesAlike : yX2_linesAlike.cls = RX2 ∧ yX2_linesAlike.cls ≠ "java/lang/invoke/MethodHandle" ∧ yX2_linesAlike.cls ≠ "java/lang/invoke/VarHandle" ∧ (parseMethodDescriptor yX2_linesAlike.desc).map (fun d => d.parameters.length) = some 5 := by decide +kernel
set_option maxHeartbeats 4000000 in
set_option maxRecDepth 100000 in
theorem k_X2_linesAlike (l : Launch) (D : va_G) (cI cZ : ClassId) (o q0 q1 ra oc a1 a2 ll lo lt n1 n2 nl nv : Nat) (pt rc z g : Nat → Nat) (v way one other most : Nat) (hnl : nl ≤ 20) (hnv : nv ≤ 4) (hz : ∀ j, z j ≤ 8) (hg : ∀ j, g j ≤ 126) (hpt : ∀ j, pt j ≤ 126) (hw : way ≤ 2) (hv : v < nv) (h1 : one + most ≤ nl) (h2 : other + most ≤ nl) : Met l yX2_linesAlike wsX2_linesAlike ({ frames := 4, cells := 0, slots := 0, locals := 96 }) (mPc [.ref o, .int (nI v), .int (nI way), .int (nI one), .int (nI other), .int (nI most)] D cI cZ [(o, .inr (2, [.ref oc, .ref q0, .ref ra, .int (nI ll), .int (nI lo), .int (nI lt)])), (q0, .inr (3, [.ref q1, .int (nI n1), .int (nI n2)])), (q1, aN cI 26 pt), (ra, aN cI 400 rc), (oc, .inr (0, [.ref a1, .ref a2, .int (nI nl), .int (nI nv)])), (a1, aN cI 640 g), (a2, aN cI 80 z)]) (mQi D (mA [(o, .inr (2, [.ref oc, .ref q0, .ref ra, .int (nI ll), .int (nI lo), .int (nI lt)])), (q0, .inr (3, [.ref q1, .int (nI n1), .int (nI n2)])), (q1, aN cI 26 pt), (ra, aN cI 400 rc), (oc, .inr (0, [.ref a1, .ref a2, .int (nI nl), .int (nI nv)])), (a1, aN cI 640 g), (a2, aN cI 80 z)]) (fun (r : Int32) (u : Nat × Nat × (Nat → Nat)) => r = nI (rlN way z g v one other most) ∧ pmC u.1 u.2.1 u.2.2 (rwX way z g v one other skn most).2) (fun (u : Nat × Nat × (Nat → Nat)) => [(o, .inr (2, [.ref oc, .ref q0, .ref ra, .int (nI ll), .int (nI lo), .int (nI lt)])), (q0, .inr (3, [.ref q1, .int (nI u.1), .int (nI u.2.1)])), (q1, aN cI 26 u.2.2), (ra, aN cI 400 rc), (oc, .inr (0, [.ref a1, .ref a2, .int (nI nl), .int (nI nv)])), (a1, aN cI 640 g), (a2, aN cI 80 z)])) 0 0 (mA [(o, .inr (2, [.ref oc, .ref q0, .ref ra, .int (nI ll), .int (nI lo), .int (nI lt)])), (q0, .inr (3, [.ref q1, .int (nI n1), .int (nI n2)])), (q1, aN cI 26 pt), (ra, aN cI 400 rc), (oc, .inr (0, [.ref a1, .ref a2, .int (nI nl), .int (nI nv)])), (a1, aN cI 640 g), (a2, aN cI 80 z)]) := by
  refine Met.ofW (cc := cX2_linesAlike) (maxL := 7) (ret := (some .int)) (by decide) rfl ?_
  intro p e s m args below meth c s₁ BB hml hv
  obtain ⟨hargs, hP, hD0, hK⟩ := hv
  have hx := BB.exec
  have hb := BB.bytes
  have hr := BB.returns
  have hts := atoms_spec (ws := wsX2_linesAlike) BB.pre
  have hown : s.vm.findClass RX2 = some m.cls := findClass_of_methodNamed BB.named
  have hlocks := BB.notSynchronized
  have hcf : CallFix p m c cX2_linesAlike 7 s args wsX2_linesAlike RX2 := ⟨hx, hb, hml, hown, hts⟩
  obtain ⟨A, hAe⟩ : ∃ A, A = mA [(o, .inr (2, [.ref oc, .ref q0, .ref ra, .int (nI ll), .int (nI lo), .int (nI lt)])), (q0, .inr (3, [.ref q1, .int (nI n1), .int (nI n2)])), (q1, aN cI 26 pt), (ra, aN cI 400 rc), (oc, .inr (0, [.ref a1, .ref a2, .int (nI nl), .int (nI nv)])), (a1, aN cI 640 g), (a2, aN cI 80 z)] := ⟨_, rfl⟩
  have hD : va_D A [(o, .inr (2, [.ref oc, .ref q0, .ref ra, .int (nI ll), .int (nI lo), .int (nI lt)])), (q0, .inr (3, [.ref q1, .int (nI n1), .int (nI n2)])), (q1, aN cI 26 pt), (ra, aN cI 400 rc), (oc, .inr (0, [.ref a1, .ref a2, .int (nI nl), .int (nI nv)])), (a1, aN cI 640 g), (a2, aN cI 80 z)] := ⟨hD0.1, fun k q h => by rw [hAe]; exact ⟨k, q.2, h⟩⟩
  have hS : va_S A s.heap s.heap [] := va_S.rf
  rw [← hAe]
  rw [hargs, lg_entry_eq, ← hargs]
  have hl := lv_entry ([.ref o, .int (nI v), .int (nI way), .int (nI one), .int (nI other), .int (nI most)]) (n := 7) (Nat.le_of_ble_eq_true rfl)
  generalize (lg_sl ([.ref o, .int (nI v), .int (nI way), .int (nI one), .int (nI other), .int (nI most)]) ++ List.replicate (7 - (lg_sl ([.ref o, .int (nI v), .int (nI way), .int (nI one), .int (nI other), .int (nI most)])).length) Slot.unset).toArray = ls at hl ⊢
  have hl : lv_has ls 7 [(0, .ref o), (1, .int (nI v)), (2, .int (nI way)), (3, .int (nI one)), (4, .int (nI other)), (5, .int (nI most))] := hl
  obtain ⟨Q, hQ⟩ : ∃ Q, Q = MQ below (mQi D A (fun (r : Int32) (u : Nat × Nat × (Nat → Nat)) => r = nI (rlN way z g v one other most) ∧ pmC u.1 u.2.1 u.2.2 (rwX way z g v one other skn most).2) (fun (u : Nat × Nat × (Nat → Nat)) => [(o, .inr (2, [.ref oc, .ref q0, .ref ra, .int (nI ll), .int (nI lo), .int (nI lt)])), (q0, .inr (3, [.ref q1, .int (nI u.1), .int (nI u.2.1)])), (q1, aN cI 26 u.2.2), (ra, aN cI 400 rc), (oc, .inr (0, [.ref a1, .ref a2, .int (nI nl), .int (nI nv)])), (a1, aN cI 640 g), (a2, aN cI 80 z)])) args s 0 0 A := ⟨_, rfl⟩
  rw [← hQ]
  have i_X2 : ∀ w ∈ u_ws RX2 TX2 6, w ∈ wsX2_linesAlike := by decide +kernel
  have f_12 := hts (.fieldLink RX2 12 "SameAgain$Likeness" "pairing" "LSameAgain$Pairing;") (by decide +kernel)
  refine lv_aload_n hx hb dX2_linesAlike_0 rfl (lv_at hl 0 rfl) ?_
  refine va_get (D := D) (ci := 2) (v := .ref q0) (C := RX2) (T := TX2) (N := 6) hx hb hts i_X2 hown hK.1 hP 0 rfl rfl 1 (by decide) f_12 (fun _ h9 => h9) rfl dX2_linesAlike_1 ?_
  refine m_wvV (As := []) (rest := []) (wc := [(q0, .inr (3, [.ref q1, .int (nI n1), .int (nI n2)])), (q1, aN cI 26 pt)]) hcf (k_X3_clear (l := l) (D := D) (cI := cI) (cZ := cZ) (o := q0) (q1 := q1) (n1 := n1) (n2 := n2) (pt := pt) ) (cwV 0 hts gX2_linesAlike_X3_clear rfl rfl rfl yd_X3_clear ⟨Nat.le_of_ble_eq_true rfl, Nat.le_of_ble_eq_true rfl⟩) hK hP hD hS [1, 2] (by decide) rfl rfl rfl rfl hl.1 rfl (Nat.le_of_ble_eq_true rfl) dX2_linesAlike_4 ⟨Nat.zero_le _, Nat.zero_le _⟩ (fun _ => rfl) (fun (u : Unit) => [(o, .inr (2, [.ref oc, .ref q0, .ref ra, .int (nI ll), .int (nI lo), .int (nI lt)])), (q0, .inr (3, [.ref q1, .int (nI 0), .int (nI 0)])), (q1, aN cI 26 pt), (ra, aN cI 400 rc), (oc, .inr (0, [.ref a1, .ref a2, .int (nI nl), .int (nI nv)])), (a1, aN cI 640 g), (a2, aN cI 80 z)]) (fun _ => rfl) (fun u H locs hp_4 hP hD hS => ?_)
  have hP : va_P D vwCl [(o, .inr (2, [.ref oc, .ref q0, .ref ra, .int (nI ll), .int (nI lo), .int (nI lt)])), (q0, .inr (3, [.ref q1, .int (nI 0), .int (nI 0)])), (q1, aN cI 26 pt), (ra, aN cI 400 rc), (oc, .inr (0, [.ref a1, .ref a2, .int (nI nl), .int (nI nv)])), (a1, aN cI 640 g), (a2, aN cI 80 z)] H := hP
  have hD : va_D A [(o, .inr (2, [.ref oc, .ref q0, .ref ra, .int (nI ll), .int (nI lo), .int (nI lt)])), (q0, .inr (3, [.ref q1, .int (nI 0), .int (nI 0)])), (q1, aN cI 26 pt), (ra, aN cI 400 rc), (oc, .inr (0, [.ref a1, .ref a2, .int (nI nl), .int (nI nv)])), (a1, aN cI 640 g), (a2, aN cI 80 z)] := hD
  refine lv_iconst (v := nI 0) hx hb dX2_linesAlike_7 (by decide) ?_
  refine lv_istore (lv' := [(6, .int (nI 0)), (0, .ref o), (1, .int (nI v)), (2, .int (nI way)), (3, .int (nI one)), (4, .int (nI other)), (5, .int (nI most))]) hx hb dX2_linesAlike_8 hl (by decide) rfl (fun ls hl => ?_)
  have loop_10 : ∀ (fu : Nat) (k m1 m2 : Nat) (mt : Nat → Nat) (hfu : most - k < fu)  (hk : k ≤ most) (hq : (rwX way z g v one other skn k).1 = true) (hpm2 : pmC m1 m2 mt (rwX way z g v one other skn k).2) (H : Heap) (locs : List Loc) (hP : va_P D vwCl [(o, .inr (2, [.ref oc, .ref q0, .ref ra, .int (nI ll), .int (nI lo), .int (nI lt)])), (q0, .inr (3, [.ref q1, .int (nI m1), .int (nI m2)])), (q1, aN cI 26 mt), (ra, aN cI 400 rc), (oc, .inr (0, [.ref a1, .ref a2, .int (nI nl), .int (nI nv)])), (a1, aN cI 640 g), (a2, aN cI 80 z)] H) (hD : va_D A [(o, .inr (2, [.ref oc, .ref q0, .ref ra, .int (nI ll), .int (nI lo), .int (nI lt)])), (q0, .inr (3, [.ref q1, .int (nI m1), .int (nI m2)])), (q1, aN cI 26 mt), (ra, aN cI 400 rc), (oc, .inr (0, [.ref a1, .ref a2, .int (nI nl), .int (nI nv)])), (a1, aN cI 640 g), (a2, aN cI 80 z)]) (hS : va_S A s.heap H locs) (ls : Array Slot) (hl : lv_has ls 7 [(0, .ref o), (1, .int (nI v)), (2, .int (nI way)), (3, .int (nI one)), (4, .int (nI other)), (5, .int (nI most)), (6, .int (nI k))]), W p l e (headSpec wsX2_linesAlike { frames := 4, cells := 0, slots := 0, locals := 96 }).room s m args below meth c H locs 0 0 Q (F0 m 10 ls []) := by
    intro fu
    induction fu with
    | zero => intro k m1 m2 mt hfu; exact absurd hfu (Nat.not_lt_zero _)
    | succ fu ih_10 =>
      intro k m1 m2 mt hfu hk hq hpm2 H locs hP hD hS ls hl
      refine lv_iload hx hb dX2_linesAlike_10 (lv_at hl 6 rfl) ?_
      refine lv_iload hx hb dX2_linesAlike_12 (lv_at hl 5 rfl) ?_
      refine m_cmp_ge (tgt := 45) hx hb dX2_linesAlike_14 (by decide) (by omega) (by omega) (fun c_14 => ?_) (fun c_14 => ?_)
      · refine lv_iload hx hb dX2_linesAlike_45 (lv_at hl 5 rfl) ?_
        rw [hQ]
        have e9 : k = most := by omega
        exact m_iwr hx hb hr hlocks (m1, m2, mt) (⟨by rw [show rlN way z g v one other most = most from raN_all (by rw [← e9]; exact hq)], by rw [← e9]; exact hpm2⟩) hP hS dX2_linesAlike_47
      · refine lv_aload_n hx hb dX2_linesAlike_17 rfl (lv_at hl 0 rfl) ?_
        refine lv_iload_n hx hb dX2_linesAlike_18 rfl (lv_at hl 1 rfl) ?_
        refine lv_iload_n hx hb dX2_linesAlike_19 rfl (lv_at hl 2 rfl) ?_
        refine lv_iload_n hx hb dX2_linesAlike_20 rfl (lv_at hl 3 rfl) ?_
        refine lv_iload hx hb dX2_linesAlike_21 (lv_at hl 6 rfl) ?_
        refine m_add hx hb dX2_linesAlike_23 ?_
        refine lv_iload hx hb dX2_linesAlike_24 (lv_at hl 4 rfl) ?_
        refine lv_iload hx hb dX2_linesAlike_26 (lv_at hl 6 rfl) ?_
        refine m_add hx hb dX2_linesAlike_28 ?_
        refine lv_iconst (v := (-1)) hx hb dX2_linesAlike_29 (by decide) ?_
        refine m_wrV (As := [.int (nI v), .int (nI way), .int (nI (one + k)), .int (nI (other + k)), .int (-1)]) (rest := []) (wc := [(o, .inr (2, [.ref oc, .ref q0, .ref ra, .int (nI ll), .int (nI lo), .int (nI lt)])), (q0, .inr (3, [.ref q1, .int (nI m1), .int (nI m2)])), (q1, aN cI 26 mt), (ra, aN cI 400 rc), (oc, .inr (0, [.ref a1, .ref a2, .int (nI nl), .int (nI nv)])), (a1, aN cI 640 g), (a2, aN cI 80 z)]) hcf (k_X2_lineFits (l := l) (D := D) (cI := cI) (cZ := cZ) (v := v) (way := way) (one := one + k) (other := other + k) (x := (-1)) (o := o) (oc := oc) (q0 := q0) (ra := ra) (ll := ll) (lo := lo) (lt := lt) (q1 := q1) (n1 := m1) (n2 := m2) (pt := mt) (rc := rc) (a1 := a1) (a2 := a2) (nl := nl) (nv := nv) (g := g) (z := z) (L := (rwX way z g v one other skn k).2) (hnl := hnl) (hnv := hnv) (hz := hz) (hg := hg) (hpm := hpm2) (hw := hw) (hv := hv) (h1 := by omega) (h2 := by omega)) (cwV 5 hts gX2_linesAlike_X2_lineFits rfl rfl rfl yd_X2_lineFits ⟨Nat.le_of_ble_eq_true rfl, Nat.le_of_ble_eq_true rfl⟩) hK hP hD hS [0, 1, 2, 3, 4, 5, 6] (by decide) rfl rfl rfl rfl hl.1 rfl (Nat.le_of_ble_eq_true rfl) dX2_linesAlike_30 ⟨Nat.zero_le _, Nat.zero_le _⟩ (fun _ => rfl) (fun (u : Nat × Nat × (Nat → Nat)) => [(o, .inr (2, [.ref oc, .ref q0, .ref ra, .int (nI ll), .int (nI lo), .int (nI lt)])), (q0, .inr (3, [.ref q1, .int (nI u.1), .int (nI u.2.1)])), (q1, aN cI 26 u.2.2), (ra, aN cI 400 rc), (oc, .inr (0, [.ref a1, .ref a2, .int (nI nl), .int (nI nv)])), (a1, aN cI 640 g), (a2, aN cI 80 z)]) (fun _ => rfl) (fun r u H locs hp_30 hP hD hS => ?_)
        obtain ⟨n1u_30, n2u_30, ptu_30⟩ := u
        have hP : va_P D vwCl [(o, .inr (2, [.ref oc, .ref q0, .ref ra, .int (nI ll), .int (nI lo), .int (nI lt)])), (q0, .inr (3, [.ref q1, .int (nI n1u_30), .int (nI n2u_30)])), (q1, aN cI 26 ptu_30), (ra, aN cI 400 rc), (oc, .inr (0, [.ref a1, .ref a2, .int (nI nl), .int (nI nv)])), (a1, aN cI 640 g), (a2, aN cI 80 z)] H := hP
        have hD : va_D A [(o, .inr (2, [.ref oc, .ref q0, .ref ra, .int (nI ll), .int (nI lo), .int (nI lt)])), (q0, .inr (3, [.ref q1, .int (nI n1u_30), .int (nI n2u_30)])), (q1, aN cI 26 ptu_30), (ra, aN cI 400 rc), (oc, .inr (0, [.ref a1, .ref a2, .int (nI nl), .int (nI nv)])), (a1, aN cI 640 g), (a2, aN cI 80 z)] := hD
        obtain ⟨hr_hp_30, hp_30⟩ := hp_30
        rw [hr_hp_30]
        refine m_ifB_ne (tgt := 39) hx hb dX2_linesAlike_33 (by decide) (fun c_33 => ?_) (fun c_33 => ?_)
        · refine lv_iinc (v := nI (k + 1)) (lv' := [(6, .int (nI (k + 1))), (0, .ref o), (1, .int (nI v)), (2, .int (nI way)), (3, .int (nI one)), (4, .int (nI other)), (5, .int (nI most))]) hx hb dX2_linesAlike_39 hl (k := 6) rfl (by rw [nI_succ]; rfl) (by decide) rfl (fun ls hl => ?_)
          refine lv_goto (tgt := 10) hx hb dX2_linesAlike_42 (by decide) ?_
          exact ih_10 (k + 1) n1u_30 n2u_30 ptu_30 (by omega) (by omega) (by rw [rwX_s hq]; exact c_33) (by rw [rwX_s hq]; exact hp_30) _ _ hP hD hS ls (lv_sub hl [1, 2, 3, 4, 5, 6, 0] rfl)
        · refine lv_iload hx hb dX2_linesAlike_36 (lv_at hl 6 rfl) ?_
          rw [hQ]
          have E8 := rwX_s hq
          have E7 : (rwX way z g v one other skn (k + 1)).1 = false := by rw [E8]; exact c_33
          have E6 : rwX way z g v one other skn most = rwX way z g v one other skn (k + 1) := by
            have h9 := rwX_stop E7 (most - (k + 1))
            rwa [show k + 1 + (most - (k + 1)) = most by omega] at h9
          have E5 : rlN way z g v one other most = k := by
            refine raN_at hq (by omega) (fun j h1 h2 => ?_)
            have h9 := rwX_stop E7 (j - (k + 1))
            rw [show k + 1 + (j - (k + 1)) = j by omega] at h9
            show (rwX way z g v one other skn j).1 = false
            rw [h9]
            exact E7
          exact m_iwr hx hb hr hlocks (_, _, _) (⟨by rw [E5], by rw [E6, E8]; exact hp_30⟩) hP hS dX2_linesAlike_38
  exact loop_10 (most + 1) 0 0 0 pt (by omega) (by omega) rfl (pmC_nil hpt) _ _ hP hD hS ls (lv_sub hl [1, 2, 3, 4, 5, 6, 0] rfl)

theorem yd_X2_areThere : yX2_areThere.cls = RX2 ∧ yX2_areThere.cls ≠ "java/lang/invoke/MethodHandle" ∧ yX2_areThere.cls ≠ "java/lang/invoke/VarHandle" ∧ (parseMethodDescriptor yX2_areThere.desc).map (fun d => d.parameters.length) = some 3 := by decide +kernel
set_option maxHeartbeats 4000000 in
set_option maxRecDepth 100000 in
theorem k_X2_areThere (l : Launch) (D : va_G) (cI cZ : ClassId) (o q0 q1 ra oc a1 a2 ll lo lt n1 n2 nl nv : Nat) (pt rc z g : Nat → Nat) (one other n : Nat) (hnl : nl ≤ 20) (h1 : one ≤ 40) (h2 : other ≤ 40) (hn : n ≤ 40) : Met l yX2_areThere wsX2_areThere ({ frames := 1, cells := 0, slots := 0, locals := 21 }) (mPc [.ref o, .int (nI one), .int (nI other), .int (nI n)] D cI cZ [(o, .inr (2, [.ref oc, .ref q0, .ref ra, .int (nI ll), .int (nI lo), .int (nI lt)])), (q0, .inr (3, [.ref q1, .int (nI n1), .int (nI n2)])), (q1, aN cI 26 pt), (ra, aN cI 400 rc), (oc, .inr (0, [.ref a1, .ref a2, .int (nI nl), .int (nI nv)])), (a1, aN cI 640 g), (a2, aN cI 80 z)]) (QcRead (bI (decide (max one other + n ≤ nl)))) 0 0 (fun _ => False) := by
  refine Met.ofW (cc := cX2_areThere) (maxL := 4) (ret := (some .boolean)) (by decide) rfl ?_
  intro p e s m args below meth c s₁ BB hml hv
  obtain ⟨hargs, hP, hD0, hK⟩ := hv
  have hx := BB.exec
  have hb := BB.bytes
  have hr := BB.returns
  have hts := atoms_spec (ws := wsX2_areThere) BB.pre
  have hown : s.vm.findClass RX2 = some m.cls := findClass_of_methodNamed BB.named
  have hlocks := BB.notSynchronized
  have hcf : CallFix p m c cX2_areThere 4 s args wsX2_areThere RX2 := ⟨hx, hb, hml, hown, hts⟩
  have hD := hD0
  rw [hargs, lg_entry_eq, ← hargs]
  have hl := lv_entry ([.ref o, .int (nI one), .int (nI other), .int (nI n)]) (n := 4) (Nat.le_of_ble_eq_true rfl)
  generalize (lg_sl ([.ref o, .int (nI one), .int (nI other), .int (nI n)]) ++ List.replicate (4 - (lg_sl ([.ref o, .int (nI one), .int (nI other), .int (nI n)])).length) Slot.unset).toArray = ls at hl ⊢
  have hl : lv_has ls 4 [(0, .ref o), (1, .int (nI one)), (2, .int (nI other)), (3, .int (nI n))] := hl
  obtain ⟨Q, hQ⟩ : ∃ Q, Q = MQ below (QcRead (bI (decide (max one other + n ≤ nl)))) args s 0 0 (fun _ => False) := ⟨_, rfl⟩
  rw [← hQ]
  have l_44 := hts (.methodLink RX2 44 Lib.Math.max.name) (by decide +kernel)
  have ls_max := hts (.static Lib.Math.max.name) (by decide +kernel)
  have l_math := hts (.initialized "java/lang/Math") (by decide +kernel)
  have lc_max := hts (.code Lib.Math.max.name Lib.Math.max.code 2 (some .int)) (by decide +kernel)
  have i_X2 : ∀ w ∈ u_ws RX2 TX2 6, w ∈ wsX2_areThere := by decide +kernel
  have f_32 := hts (.fieldLink RX2 32 "SameAgain$Likeness" "code" "LSameAgain$Code;") (by decide +kernel)
  refine lv_iload_n hx hb dX2_areThere_0 rfl (lv_at hl 1 rfl) ?_
  refine m_if_lt (tgt := 29) hx hb dX2_areThere_1 (by decide) (by omega) ?_
  refine lv_iload_n hx hb dX2_areThere_4 rfl (lv_at hl 2 rfl) ?_
  refine m_if_lt (tgt := 29) hx hb dX2_areThere_5 (by decide) (by omega) ?_
  refine lv_iload_n hx hb dX2_areThere_8 rfl (lv_at hl 1 rfl) ?_
  refine lv_iload_n hx hb dX2_areThere_9 rfl (lv_at hl 2 rfl) ?_
  refine va_mmax hx hb (hml.trans hl.1.symm) hown l_44 ls_max l_math lc_max (Nat.le_of_ble_eq_true rfl) (Nat.le_of_ble_eq_true rfl) (Nat.zero_le _) (Nat.zero_le _) dX2_areThere_10 ?_
  refine m_top (y := nI (max one other)) (m_maxE (by omega) (by omega)) ?_
  refine lv_iload_n hx hb dX2_areThere_13 rfl (lv_at hl 3 rfl) ?_
  refine m_add hx hb dX2_areThere_14 ?_
  refine lv_aload_n hx hb dX2_areThere_15 rfl (lv_at hl 0 rfl) ?_
  refine va_get (D := D) (ci := 2) (v := .ref oc) (C := RX2) (T := TX2) (N := 6) hx hb hts i_X2 hown hK.1 hP 0 rfl rfl 0 (by decide) f_32 (fun _ h9 => h9) rfl dX2_areThere_16 ?_
  refine m_rdV (As := []) (rest := [.int (nI ((max one other) + n))]) (wc := [(oc, .inr (0, [.ref a1, .ref a2, .int (nI nl), .int (nI nv)])), (a1, aN cI 640 g), (a2, aN cI 80 z)]) hcf (k_X0_lines (l := l) (D := D) (cI := cI) (cZ := cZ) (o := oc) (a1 := a1) (a2 := a2) (nl := nl) (nv := nv) (g := g) (z := z) ) (cwV 0 hts gX2_areThere_X0_lines rfl rfl rfl yd_X0_lines ⟨Nat.le_of_ble_eq_true rfl, Nat.le_of_ble_eq_true rfl⟩) (m_preV hK hP hD [4, 5, 6] (by decide) rfl rfl rfl) rfl hl.1 rfl (Nat.le_of_ble_eq_true rfl) dX2_areThere_19 ⟨Nat.zero_le _, Nat.zero_le _⟩ ?_
  refine m_cmp_gt (tgt := 29) hx hb dX2_areThere_22 (by decide) (by omega) (by omega) (fun c_22 => ?_) (fun c_22 => ?_)
  · refine lv_iconst (v := nI 0) hx hb dX2_areThere_29 (by decide) ?_
    rw [hQ]
    exact m_zrd hx hb hr hlocks (b_zero (by omega)) dX2_areThere_30
  · refine lv_iconst (v := nI 1) hx hb dX2_areThere_25 (by decide) ?_
    refine lv_goto (tgt := 30) hx hb dX2_areThere_26 (by decide) ?_
    rw [hQ]
    exact m_zrd hx hb hr hlocks (b_one (by omega)) dX2_areThere_30

theorem rlN_ne {way : Nat} {z g : Nat → Nat} {v one other n : Nat} (h : (rwX way z g v one other skn n).1 = false) (e : rlN way z g v one other n = n) : False := by
  cases n with
  | zero => cases h
  | succ n =>
    unfold rlN raN at e
    rw [if_neg (by rw [h]; decide)] at e
    have := raN_le (fun k => (rwX way z g v one other skn k).1) n
    omega

theorem yd_X2_rowsAlike : yX2_rowsAlike.cls = RX2 ∧ yX2_rowsAlike.cls ≠ "java/lang/invoke/MethodHandle" ∧ yX2_rowsAlike.cls ≠ "java/lang/invoke/VarHandle" ∧ (parseMethodDescriptor yX2_rowsAlike.desc).map (fun d => d.parameters.length) = some 5 := by decide +kernel
set_option maxHeartbeats 4000000 in
set_option maxRecDepth 100000 in
theorem k_X2_rowsAlike (l : Launch) (D : va_G) (cI cZ : ClassId) (o q0 q1 ra oc a1 a2 ll lo lt n1 n2 nl nv : Nat) (pt rc z g : Nat → Nat) (v way one other n : Nat) (hnl : nl ≤ 20) (hnv : nv ≤ 4) (hz : ∀ j, z j ≤ 8) (hg : ∀ j, g j ≤ 126) (hpt : ∀ j, pt j ≤ 126) (hw : way ≤ 2) (hv : v < nv) (h1 : one ≤ 20) (h2 : other ≤ 20) (hn : n ≤ 20) : Met l yX2_rowsAlike wsX2_rowsAlike ({ frames := 5, cells := 0, slots := 0, locals := 122 }) (mPc [.ref o, .int (nI v), .int (nI way), .int (nI one), .int (nI other), .int (nI n)] D cI cZ [(o, .inr (2, [.ref oc, .ref q0, .ref ra, .int (nI ll), .int (nI lo), .int (nI lt)])), (q0, .inr (3, [.ref q1, .int (nI n1), .int (nI n2)])), (q1, aN cI 26 pt), (ra, aN cI 400 rc), (oc, .inr (0, [.ref a1, .ref a2, .int (nI nl), .int (nI nv)])), (a1, aN cI 640 g), (a2, aN cI 80 z)]) (mQi D (mA [(o, .inr (2, [.ref oc, .ref q0, .ref ra, .int (nI ll), .int (nI lo), .int (nI lt)])), (q0, .inr (3, [.ref q1, .int (nI n1), .int (nI n2)])), (q1, aN cI 26 pt), (ra, aN cI 400 rc), (oc, .inr (0, [.ref a1, .ref a2, .int (nI nl), .int (nI nv)])), (a1, aN cI 640 g), (a2, aN cI 80 z)]) (fun (r : Int32) (u : Nat × Nat × (Nat → Nat)) => r = bI (raB way z g v nl one other n) ∧ (∀ j, u.2.2 j ≤ 126) ∧ (raB way z g v nl one other n = true → pmC u.1 u.2.1 u.2.2 (rwX way z g v one other skn n).2)) (fun (u : Nat × Nat × (Nat → Nat)) => [(o, .inr (2, [.ref oc, .ref q0, .ref ra, .int (nI ll), .int (nI lo), .int (nI lt)])), (q0, .inr (3, [.ref q1, .int (nI u.1), .int (nI u.2.1)])), (q1, aN cI 26 u.2.2), (ra, aN cI 400 rc), (oc, .inr (0, [.ref a1, .ref a2, .int (nI nl), .int (nI nv)])), (a1, aN cI 640 g), (a2, aN cI 80 z)])) 0 0 (mA [(o, .inr (2, [.ref oc, .ref q0, .ref ra, .int (nI ll), .int (nI lo), .int (nI lt)])), (q0, .inr (3, [.ref q1, .int (nI n1), .int (nI n2)])), (q1, aN cI 26 pt), (ra, aN cI 400 rc), (oc, .inr (0, [.ref a1, .ref a2, .int (nI nl), .int (nI nv)])), (a1, aN cI 640 g), (a2, aN cI 80 z)]) := by
  refine Met.ofW (cc := cX2_rowsAlike) (maxL := 6) (ret := (some .boolean)) (by decide) rfl ?_
  intro p e s m args below meth c s₁ BB hml hv
  obtain ⟨hargs, hP, hD0, hK⟩ := hv
  have hx := BB.exec
  have hb := BB.bytes
  have hr := BB.returns
  have hts := atoms_spec (ws := wsX2_rowsAlike) BB.pre
  have hown : s.vm.findClass RX2 = some m.cls := findClass_of_methodNamed BB.named
  have hlocks := BB.notSynchronized
  have hcf : CallFix p m c cX2_rowsAlike 6 s args wsX2_rowsAlike RX2 := ⟨hx, hb, hml, hown, hts⟩
  obtain ⟨A, hAe⟩ : ∃ A, A = mA [(o, .inr (2, [.ref oc, .ref q0, .ref ra, .int (nI ll), .int (nI lo), .int (nI lt)])), (q0, .inr (3, [.ref q1, .int (nI n1), .int (nI n2)])), (q1, aN cI 26 pt), (ra, aN cI 400 rc), (oc, .inr (0, [.ref a1, .ref a2, .int (nI nl), .int (nI nv)])), (a1, aN cI 640 g), (a2, aN cI 80 z)] := ⟨_, rfl⟩
  have hD : va_D A [(o, .inr (2, [.ref oc, .ref q0, .ref ra, .int (nI ll), .int (nI lo), .int (nI lt)])), (q0, .inr (3, [.ref q1, .int (nI n1), .int (nI n2)])), (q1, aN cI 26 pt), (ra, aN cI 400 rc), (oc, .inr (0, [.ref a1, .ref a2, .int (nI nl), .int (nI nv)])), (a1, aN cI 640 g), (a2, aN cI 80 z)] := ⟨hD0.1, fun k q h => by rw [hAe]; exact ⟨k, q.2, h⟩⟩
  have hS : va_S A s.heap s.heap [] := va_S.rf
  rw [← hAe]
  rw [hargs, lg_entry_eq, ← hargs]
  have hl := lv_entry ([.ref o, .int (nI v), .int (nI way), .int (nI one), .int (nI other), .int (nI n)]) (n := 6) (Nat.le_of_ble_eq_true rfl)
  generalize (lg_sl ([.ref o, .int (nI v), .int (nI way), .int (nI one), .int (nI other), .int (nI n)]) ++ List.replicate (6 - (lg_sl ([.ref o, .int (nI v), .int (nI way), .int (nI one), .int (nI other), .int (nI n)])).length) Slot.unset).toArray = ls at hl ⊢
  have hl : lv_has ls 6 [(0, .ref o), (1, .int (nI v)), (2, .int (nI way)), (3, .int (nI one)), (4, .int (nI other)), (5, .int (nI n))] := hl
  obtain ⟨Q, hQ⟩ : ∃ Q, Q = MQ below (mQi D A (fun (r : Int32) (u : Nat × Nat × (Nat → Nat)) => r = bI (raB way z g v nl one other n) ∧ (∀ j, u.2.2 j ≤ 126) ∧ (raB way z g v nl one other n = true → pmC u.1 u.2.1 u.2.2 (rwX way z g v one other skn n).2)) (fun (u : Nat × Nat × (Nat → Nat)) => [(o, .inr (2, [.ref oc, .ref q0, .ref ra, .int (nI ll), .int (nI lo), .int (nI lt)])), (q0, .inr (3, [.ref q1, .int (nI u.1), .int (nI u.2.1)])), (q1, aN cI 26 u.2.2), (ra, aN cI 400 rc), (oc, .inr (0, [.ref a1, .ref a2, .int (nI nl), .int (nI nv)])), (a1, aN cI 640 g), (a2, aN cI 80 z)])) args s 0 0 A := ⟨_, rfl⟩
  rw [← hQ]
  refine lv_aload_n hx hb dX2_rowsAlike_0 rfl (lv_at hl 0 rfl) ?_
  refine lv_iload_n hx hb dX2_rowsAlike_1 rfl (lv_at hl 3 rfl) ?_
  refine lv_iload hx hb dX2_rowsAlike_2 (lv_at hl 4 rfl) ?_
  refine lv_iload hx hb dX2_rowsAlike_4 (lv_at hl 5 rfl) ?_
  refine m_rdV (As := [.int (nI one), .int (nI other), .int (nI n)]) (rest := []) (wc := [(o, .inr (2, [.ref oc, .ref q0, .ref ra, .int (nI ll), .int (nI lo), .int (nI lt)])), (q0, .inr (3, [.ref q1, .int (nI n1), .int (nI n2)])), (q1, aN cI 26 pt), (ra, aN cI 400 rc), (oc, .inr (0, [.ref a1, .ref a2, .int (nI nl), .int (nI nv)])), (a1, aN cI 640 g), (a2, aN cI 80 z)]) hcf (k_X2_areThere (l := l) (D := D) (cI := cI) (cZ := cZ) (one := one) (other := other) (n := n) (o := o) (oc := oc) (q0 := q0) (ra := ra) (ll := ll) (lo := lo) (lt := lt) (q1 := q1) (n1 := n1) (n2 := n2) (pt := pt) (rc := rc) (a1 := a1) (a2 := a2) (nl := nl) (nv := nv) (g := g) (z := z) (hnl := hnl) (h1 := by omega) (h2 := by omega) (hn := by omega)) (cwV 3 hts gX2_rowsAlike_X2_areThere rfl rfl rfl yd_X2_areThere ⟨Nat.le_of_ble_eq_true rfl, Nat.le_of_ble_eq_true rfl⟩) (m_preV hK hP hD [0, 1, 2, 3, 4, 5, 6] (by decide) rfl rfl rfl) rfl hl.1 rfl (Nat.le_of_ble_eq_true rfl) dX2_rowsAlike_6 ⟨Nat.zero_le _, Nat.zero_le _⟩ ?_
  refine m_ifB_eq (tgt := 32) hx hb dX2_rowsAlike_9 (by decide) (fun c_9 => ?_) (fun c_9 => ?_)
  · refine lv_iconst (v := nI 0) hx hb dX2_rowsAlike_32 (by decide) ?_
    rw [hQ]
    have E9 : raB way z g v nl one other n = false := by unfold raB; rw [c_9]; rfl
    exact m_zwr hx hb hr hlocks (n1, n2, pt) (nI_01 (by omega)) (⟨bb_zero E9, hpt, fun h => by rw [E9] at h; cases h⟩) hP hS dX2_rowsAlike_33
  · have i9 := of_decide_eq_true c_9
    refine lv_aload_n hx hb dX2_rowsAlike_12 rfl (lv_at hl 0 rfl) ?_
    refine lv_iload_n hx hb dX2_rowsAlike_13 rfl (lv_at hl 1 rfl) ?_
    refine lv_iload_n hx hb dX2_rowsAlike_14 rfl (lv_at hl 2 rfl) ?_
    refine lv_iload_n hx hb dX2_rowsAlike_15 rfl (lv_at hl 3 rfl) ?_
    refine lv_iload hx hb dX2_rowsAlike_16 (lv_at hl 4 rfl) ?_
    refine lv_iload hx hb dX2_rowsAlike_18 (lv_at hl 5 rfl) ?_
    refine m_wrV (As := [.int (nI v), .int (nI way), .int (nI one), .int (nI other), .int (nI n)]) (rest := []) (wc := [(o, .inr (2, [.ref oc, .ref q0, .ref ra, .int (nI ll), .int (nI lo), .int (nI lt)])), (q0, .inr (3, [.ref q1, .int (nI n1), .int (nI n2)])), (q1, aN cI 26 pt), (ra, aN cI 400 rc), (oc, .inr (0, [.ref a1, .ref a2, .int (nI nl), .int (nI nv)])), (a1, aN cI 640 g), (a2, aN cI 80 z)]) hcf (k_X2_linesAlike (l := l) (D := D) (cI := cI) (cZ := cZ) (v := v) (way := way) (one := one) (other := other) (most := n) (o := o) (oc := oc) (q0 := q0) (ra := ra) (ll := ll) (lo := lo) (lt := lt) (q1 := q1) (n1 := n1) (n2 := n2) (pt := pt) (rc := rc) (a1 := a1) (a2 := a2) (nl := nl) (nv := nv) (g := g) (z := z) (hnl := hnl) (hnv := hnv) (hz := hz) (hg := hg) (hpt := hpt) (hw := hw) (hv := hv) (h1 := by omega) (h2 := by omega)) (cwV 5 hts gX2_rowsAlike_X2_linesAlike rfl rfl rfl yd_X2_linesAlike ⟨Nat.le_of_ble_eq_true rfl, Nat.le_of_ble_eq_true rfl⟩) hK hP hD hS [0, 1, 2, 3, 4, 5, 6] (by decide) rfl rfl rfl rfl hl.1 rfl (Nat.le_of_ble_eq_true rfl) dX2_rowsAlike_20 ⟨Nat.zero_le _, Nat.zero_le _⟩ (fun _ => rfl) (fun (u : Nat × Nat × (Nat → Nat)) => [(o, .inr (2, [.ref oc, .ref q0, .ref ra, .int (nI ll), .int (nI lo), .int (nI lt)])), (q0, .inr (3, [.ref q1, .int (nI u.1), .int (nI u.2.1)])), (q1, aN cI 26 u.2.2), (ra, aN cI 400 rc), (oc, .inr (0, [.ref a1, .ref a2, .int (nI nl), .int (nI nv)])), (a1, aN cI 640 g), (a2, aN cI 80 z)]) (fun _ => rfl) (fun r u H locs hp_20 hP hD hS => ?_)
    obtain ⟨n1u_20, n2u_20, ptu_20⟩ := u
    have hP : va_P D vwCl [(o, .inr (2, [.ref oc, .ref q0, .ref ra, .int (nI ll), .int (nI lo), .int (nI lt)])), (q0, .inr (3, [.ref q1, .int (nI n1u_20), .int (nI n2u_20)])), (q1, aN cI 26 ptu_20), (ra, aN cI 400 rc), (oc, .inr (0, [.ref a1, .ref a2, .int (nI nl), .int (nI nv)])), (a1, aN cI 640 g), (a2, aN cI 80 z)] H := hP
    have hD : va_D A [(o, .inr (2, [.ref oc, .ref q0, .ref ra, .int (nI ll), .int (nI lo), .int (nI lt)])), (q0, .inr (3, [.ref q1, .int (nI n1u_20), .int (nI n2u_20)])), (q1, aN cI 26 ptu_20), (ra, aN cI 400 rc), (oc, .inr (0, [.ref a1, .ref a2, .int (nI nl), .int (nI nv)])), (a1, aN cI 640 g), (a2, aN cI 80 z)] := hD
    obtain ⟨hr_hp_20, hp_20⟩ := hp_20
    rw [hr_hp_20]
    refine lv_iload hx hb dX2_rowsAlike_23 (lv_at hl 5 rfl) ?_
    refine m_cmp_ne (tgt := 32) hx hb dX2_rowsAlike_25 (by decide) (Nat.lt_of_le_of_lt (rlN_le _ _ _ _ _ _ _) (by omega)) (by omega) (fun c_25 => ?_) (fun c_25 => ?_)
    · refine lv_iconst (v := nI 0) hx hb dX2_rowsAlike_32 (by decide) ?_
      rw [hQ]
      have E8 : (rwX way z g v one other skn n).1 = false := by
        cases hb9 : (rwX way z g v one other skn n).1 with
        | false => rfl
        | true => exact absurd (raN_all hb9) c_25
      have E9 : raB way z g v nl one other n = false := by unfold raB; rw [E8, Bool.and_false]
      exact m_zwr hx hb hr hlocks (_, _, _) (nI_01 (by omega)) (⟨bb_zero E9, hp_20.2.2.2.2.2.2, fun h => by rw [E9] at h; cases h⟩) hP hS dX2_rowsAlike_33
    · refine lv_iconst (v := nI 1) hx hb dX2_rowsAlike_28 (by decide) ?_
      refine lv_goto (tgt := 33) hx hb dX2_rowsAlike_29 (by decide) ?_
      rw [hQ]
      have E8 : (rwX way z g v one other skn n).1 = true := by
        cases hb9 : (rwX way z g v one other skn n).1 with
        | true => rfl
        | false => exact absurd (rlN_ne hb9 c_25) id
      have E9 : raB way z g v nl one other n = true := by unfold raB; rw [c_9, E8]; rfl
      exact m_zwr hx hb hr hlocks (_, _, _) (nI_01 (by omega)) (⟨bb_one E9, hp_20.2.2.2.2.2.2, fun _ => hp_20⟩) hP hS dX2_rowsAlike_33

theorem yd_X2_rowsAlikeBut : yX2_rowsAlikeBut.cls = RX2 ∧ yX2_rowsAlikeBut.cls ≠ "java/lang/invoke/MethodHandle" ∧ yX2_rowsAlikeBut.cls ≠ "java/lang/invoke/VarHandle" ∧ (parseMethodDescriptor yX2_rowsAlikeBut.desc).map (fun d => d.parameters.length) = some 5 := by decide +kernel
set_option maxHeartbeats 4000000 in
set_option maxRecDepth 100000 in
theorem k_X2_rowsAlikeBut (l : Launch) (D : va_G) (cI cZ : ClassId) (o q0 q1 ra oc a1 a2 ll lo lt n1 n2 nl nv : Nat) (pt rc z g : Nat → Nat) (v one other n lf : Nat) (hnl : nl ≤ 20) (hnv : nv ≤ 4) (hz : ∀ j, z j ≤ 8) (hg : ∀ j, g j ≤ 126) (hpt : ∀ j, pt j ≤ 126) (hv : v < nv) (h1 : one + n ≤ nl) (h2 : other + n ≤ nl) : Met l yX2_rowsAlikeBut wsX2_rowsAlikeBut ({ frames := 4, cells := 0, slots := 0, locals := 96 }) (mPc [.ref o, .int (nI v), .int (nI one), .int (nI other), .int (nI n), .int (nI lf)] D cI cZ [(o, .inr (2, [.ref oc, .ref q0, .ref ra, .int (nI ll), .int (nI lo), .int (nI lt)])), (q0, .inr (3, [.ref q1, .int (nI n1), .int (nI n2)])), (q1, aN cI 26 pt), (ra, aN cI 400 rc), (oc, .inr (0, [.ref a1, .ref a2, .int (nI nl), .int (nI nv)])), (a1, aN cI 640 g), (a2, aN cI 80 z)]) (mQi D (mA [(o, .inr (2, [.ref oc, .ref q0, .ref ra, .int (nI ll), .int (nI lo), .int (nI lt)])), (q0, .inr (3, [.ref q1, .int (nI n1), .int (nI n2)])), (q1, aN cI 26 pt), (ra, aN cI 400 rc), (oc, .inr (0, [.ref a1, .ref a2, .int (nI nl), .int (nI nv)])), (a1, aN cI 640 g), (a2, aN cI 80 z)]) (fun (r : Int32) (u : Nat × Nat × (Nat → Nat)) => r = bI ((rwX 1 z g v one other (fun (kk pq : Nat) => decide (nI pq = nI lf - nI (kk * 10))) n).1) ∧ pmC u.1 u.2.1 u.2.2 (rwX 1 z g v one other (fun (kk pq : Nat) => decide (nI pq = nI lf - nI (kk * 10))) n).2) (fun (u : Nat × Nat × (Nat → Nat)) => [(o, .inr (2, [.ref oc, .ref q0, .ref ra, .int (nI ll), .int (nI lo), .int (nI lt)])), (q0, .inr (3, [.ref q1, .int (nI u.1), .int (nI u.2.1)])), (q1, aN cI 26 u.2.2), (ra, aN cI 400 rc), (oc, .inr (0, [.ref a1, .ref a2, .int (nI nl), .int (nI nv)])), (a1, aN cI 640 g), (a2, aN cI 80 z)])) 0 0 (mA [(o, .inr (2, [.ref oc, .ref q0, .ref ra, .int (nI ll), .int (nI lo), .int (nI lt)])), (q0, .inr (3, [.ref q1, .int (nI n1), .int (nI n2)])), (q1, aN cI 26 pt), (ra, aN cI 400 rc), (oc, .inr (0, [.ref a1, .ref a2, .int (nI nl), .int (nI nv)])), (a1, aN cI 640 g), (a2, aN cI 80 z)]) := by
  refine Met.ofW (cc := cX2_rowsAlikeBut) (maxL := 8) (ret := (some .boolean)) (by decide) rfl ?_
  intro p e s m args below meth c s₁ BB hml hv
  obtain ⟨hargs, hP, hD0, hK⟩ := hv
  have hx := BB.exec
  have hb := BB.bytes
  have hr := BB.returns
  have hts := atoms_spec (ws := wsX2_rowsAlikeBut) BB.pre
  have hown : s.vm.findClass RX2 = some m.cls := findClass_of_methodNamed BB.named
  have hlocks := BB.notSynchronized
  have hcf : CallFix p m c cX2_rowsAlikeBut 8 s args wsX2_rowsAlikeBut RX2 := ⟨hx, hb, hml, hown, hts⟩
  obtain ⟨A, hAe⟩ : ∃ A, A = mA [(o, .inr (2, [.ref oc, .ref q0, .ref ra, .int (nI ll), .int (nI lo), .int (nI lt)])), (q0, .inr (3, [.ref q1, .int (nI n1), .int (nI n2)])), (q1, aN cI 26 pt), (ra, aN cI 400 rc), (oc, .inr (0, [.ref a1, .ref a2, .int (nI nl), .int (nI nv)])), (a1, aN cI 640 g), (a2, aN cI 80 z)] := ⟨_, rfl⟩
  have hD : va_D A [(o, .inr (2, [.ref oc, .ref q0, .ref ra, .int (nI ll), .int (nI lo), .int (nI lt)])), (q0, .inr (3, [.ref q1, .int (nI n1), .int (nI n2)])), (q1, aN cI 26 pt), (ra, aN cI 400 rc), (oc, .inr (0, [.ref a1, .ref a2, .int (nI nl), .int (nI nv)])), (a1, aN cI 640 g), (a2, aN cI 80 z)] := ⟨hD0.1, fun k q h => by rw [hAe]; exact ⟨k, q.2, h⟩⟩
  have hS : va_S A s.heap s.heap [] := va_S.rf
  rw [← hAe]
  rw [hargs, lg_entry_eq, ← hargs]
  have hl := lv_entry ([.ref o, .int (nI v), .int (nI one), .int (nI other), .int (nI n), .int (nI lf)]) (n := 8) (Nat.le_of_ble_eq_true rfl)
  generalize (lg_sl ([.ref o, .int (nI v), .int (nI one), .int (nI other), .int (nI n), .int (nI lf)]) ++ List.replicate (8 - (lg_sl ([.ref o, .int (nI v), .int (nI one), .int (nI other), .int (nI n), .int (nI lf)])).length) Slot.unset).toArray = ls at hl ⊢
  have hl : lv_has ls 8 [(0, .ref o), (1, .int (nI v)), (2, .int (nI one)), (3, .int (nI other)), (4, .int (nI n)), (5, .int (nI lf))] := hl
  obtain ⟨Q, hQ⟩ : ∃ Q, Q = MQ below (mQi D A (fun (r : Int32) (u : Nat × Nat × (Nat → Nat)) => r = bI ((rwX 1 z g v one other (fun (kk pq : Nat) => decide (nI pq = nI lf - nI (kk * 10))) n).1) ∧ pmC u.1 u.2.1 u.2.2 (rwX 1 z g v one other (fun (kk pq : Nat) => decide (nI pq = nI lf - nI (kk * 10))) n).2) (fun (u : Nat × Nat × (Nat → Nat)) => [(o, .inr (2, [.ref oc, .ref q0, .ref ra, .int (nI ll), .int (nI lo), .int (nI lt)])), (q0, .inr (3, [.ref q1, .int (nI u.1), .int (nI u.2.1)])), (q1, aN cI 26 u.2.2), (ra, aN cI 400 rc), (oc, .inr (0, [.ref a1, .ref a2, .int (nI nl), .int (nI nv)])), (a1, aN cI 640 g), (a2, aN cI 80 z)])) args s 0 0 A := ⟨_, rfl⟩
  rw [← hQ]
  have i_X2 : ∀ w ∈ u_ws RX2 TX2 6, w ∈ wsX2_rowsAlikeBut := by decide +kernel
  have f_12 := hts (.fieldLink RX2 12 "SameAgain$Likeness" "pairing" "LSameAgain$Pairing;") (by decide +kernel)
  refine lv_aload_n hx hb dX2_rowsAlikeBut_0 rfl (lv_at hl 0 rfl) ?_
  refine va_get (D := D) (ci := 2) (v := .ref q0) (C := RX2) (T := TX2) (N := 6) hx hb hts i_X2 hown hK.1 hP 0 rfl rfl 1 (by decide) f_12 (fun _ h9 => h9) rfl dX2_rowsAlikeBut_1 ?_
  refine m_wvV (As := []) (rest := []) (wc := [(q0, .inr (3, [.ref q1, .int (nI n1), .int (nI n2)])), (q1, aN cI 26 pt)]) hcf (k_X3_clear (l := l) (D := D) (cI := cI) (cZ := cZ) (o := q0) (q1 := q1) (n1 := n1) (n2 := n2) (pt := pt) ) (cwV 0 hts gX2_rowsAlikeBut_X3_clear rfl rfl rfl yd_X3_clear ⟨Nat.le_of_ble_eq_true rfl, Nat.le_of_ble_eq_true rfl⟩) hK hP hD hS [1, 2] (by decide) rfl rfl rfl rfl hl.1 rfl (Nat.le_of_ble_eq_true rfl) dX2_rowsAlikeBut_4 ⟨Nat.zero_le _, Nat.zero_le _⟩ (fun _ => rfl) (fun (u : Unit) => [(o, .inr (2, [.ref oc, .ref q0, .ref ra, .int (nI ll), .int (nI lo), .int (nI lt)])), (q0, .inr (3, [.ref q1, .int (nI 0), .int (nI 0)])), (q1, aN cI 26 pt), (ra, aN cI 400 rc), (oc, .inr (0, [.ref a1, .ref a2, .int (nI nl), .int (nI nv)])), (a1, aN cI 640 g), (a2, aN cI 80 z)]) (fun _ => rfl) (fun u H locs hp_4 hP hD hS => ?_)
  have hP : va_P D vwCl [(o, .inr (2, [.ref oc, .ref q0, .ref ra, .int (nI ll), .int (nI lo), .int (nI lt)])), (q0, .inr (3, [.ref q1, .int (nI 0), .int (nI 0)])), (q1, aN cI 26 pt), (ra, aN cI 400 rc), (oc, .inr (0, [.ref a1, .ref a2, .int (nI nl), .int (nI nv)])), (a1, aN cI 640 g), (a2, aN cI 80 z)] H := hP
  have hD : va_D A [(o, .inr (2, [.ref oc, .ref q0, .ref ra, .int (nI ll), .int (nI lo), .int (nI lt)])), (q0, .inr (3, [.ref q1, .int (nI 0), .int (nI 0)])), (q1, aN cI 26 pt), (ra, aN cI 400 rc), (oc, .inr (0, [.ref a1, .ref a2, .int (nI nl), .int (nI nv)])), (a1, aN cI 640 g), (a2, aN cI 80 z)] := hD
  refine lv_iconst (v := nI 0) hx hb dX2_rowsAlikeBut_7 (by decide) ?_
  refine lv_istore (lv' := [(6, .int (nI 0)), (0, .ref o), (1, .int (nI v)), (2, .int (nI one)), (3, .int (nI other)), (4, .int (nI n)), (5, .int (nI lf))]) hx hb dX2_rowsAlikeBut_8 hl (by decide) rfl (fun ls hl => ?_)
  have loop_10 : ∀ (fu : Nat) (k m1 m2 : Nat) (mt : Nat → Nat) (hfu : n - k < fu)  (hk : k ≤ n) (hq : (rwX 1 z g v one other (fun (kk pq : Nat) => decide (nI pq = nI lf - nI (kk * 10))) k).1 = true) (hpm2 : pmC m1 m2 mt (rwX 1 z g v one other (fun (kk pq : Nat) => decide (nI pq = nI lf - nI (kk * 10))) k).2) (H : Heap) (locs : List Loc) (hP : va_P D vwCl [(o, .inr (2, [.ref oc, .ref q0, .ref ra, .int (nI ll), .int (nI lo), .int (nI lt)])), (q0, .inr (3, [.ref q1, .int (nI m1), .int (nI m2)])), (q1, aN cI 26 mt), (ra, aN cI 400 rc), (oc, .inr (0, [.ref a1, .ref a2, .int (nI nl), .int (nI nv)])), (a1, aN cI 640 g), (a2, aN cI 80 z)] H) (hD : va_D A [(o, .inr (2, [.ref oc, .ref q0, .ref ra, .int (nI ll), .int (nI lo), .int (nI lt)])), (q0, .inr (3, [.ref q1, .int (nI m1), .int (nI m2)])), (q1, aN cI 26 mt), (ra, aN cI 400 rc), (oc, .inr (0, [.ref a1, .ref a2, .int (nI nl), .int (nI nv)])), (a1, aN cI 640 g), (a2, aN cI 80 z)]) (hS : va_S A s.heap H locs) (ls : Array Slot) (hl : lv_has ls 8 [(0, .ref o), (1, .int (nI v)), (2, .int (nI one)), (3, .int (nI other)), (4, .int (nI n)), (5, .int (nI lf)), (6, .int (nI k))]), W p l e (headSpec wsX2_rowsAlikeBut { frames := 4, cells := 0, slots := 0, locals := 96 }).room s m args below meth c H locs 0 0 Q (F0 m 10 ls []) := by
    intro fu
    induction fu with
    | zero => intro k m1 m2 mt hfu; exact absurd hfu (Nat.not_lt_zero _)
    | succ fu ih_10 =>
      intro k m1 m2 mt hfu hk hq hpm2 H locs hP hD hS ls hl
      refine lv_iload hx hb dX2_rowsAlikeBut_10 (lv_at hl 6 rfl) ?_
      refine lv_iload hx hb dX2_rowsAlikeBut_12 (lv_at hl 4 rfl) ?_
      refine m_cmp_ge (tgt := 54) hx hb dX2_rowsAlikeBut_14 (by decide) (by omega) (by omega) (fun c_14 => ?_) (fun c_14 => ?_)
      · refine lv_iconst (v := nI 1) hx hb dX2_rowsAlikeBut_54 (by decide) ?_
        rw [hQ]
        have e9 : k = n := by omega
        exact m_zwr hx hb hr hlocks (m1, m2, mt) (nI_01 (by omega)) (⟨by rw [← e9, hq]; rfl, by rw [← e9]; exact hpm2⟩) hP hS dX2_rowsAlikeBut_55
      · refine lv_iload hx hb dX2_rowsAlikeBut_17 (lv_at hl 5 rfl) ?_
        refine lv_iload hx hb dX2_rowsAlikeBut_19 (lv_at hl 6 rfl) ?_
        refine lv_bipush (v := nI 10) hx hb dX2_rowsAlikeBut_21 (by decide) ?_
        refine m_mul hx hb dX2_rowsAlikeBut_23 ?_
        refine lv_isub hx hb dX2_rowsAlikeBut_24 ?_
        refine lv_istore (lv' := [(7, .int ((nI lf) - (nI (k * 10)))), (0, .ref o), (1, .int (nI v)), (2, .int (nI one)), (3, .int (nI other)), (4, .int (nI n)), (5, .int (nI lf)), (6, .int (nI k))]) hx hb dX2_rowsAlikeBut_25 hl (by decide) rfl (fun ls hl => ?_)
        refine lv_aload_n hx hb dX2_rowsAlikeBut_27 rfl (lv_at hl 1 rfl) ?_
        refine lv_iload_n hx hb dX2_rowsAlikeBut_28 rfl (lv_at hl 2 rfl) ?_
        refine lv_iconst (v := nI 1) hx hb dX2_rowsAlikeBut_29 (by decide) ?_
        refine lv_iload_n hx hb dX2_rowsAlikeBut_30 rfl (lv_at hl 3 rfl) ?_
        refine lv_iload hx hb dX2_rowsAlikeBut_31 (lv_at hl 7 rfl) ?_
        refine m_add hx hb dX2_rowsAlikeBut_33 ?_
        refine lv_iload_n hx hb dX2_rowsAlikeBut_34 rfl (lv_at hl 4 rfl) ?_
        refine lv_iload hx hb dX2_rowsAlikeBut_35 (lv_at hl 7 rfl) ?_
        refine m_add hx hb dX2_rowsAlikeBut_37 ?_
        refine lv_iload hx hb dX2_rowsAlikeBut_38 (lv_at hl 0 rfl) ?_
        refine m_wrV (As := [.int (nI v), .int (nI 1), .int (nI (one + k)), .int (nI (other + k)), .int ((nI lf) - (nI (k * 10)))]) (rest := []) (wc := [(o, .inr (2, [.ref oc, .ref q0, .ref ra, .int (nI ll), .int (nI lo), .int (nI lt)])), (q0, .inr (3, [.ref q1, .int (nI m1), .int (nI m2)])), (q1, aN cI 26 mt), (ra, aN cI 400 rc), (oc, .inr (0, [.ref a1, .ref a2, .int (nI nl), .int (nI nv)])), (a1, aN cI 640 g), (a2, aN cI 80 z)]) hcf (k_X2_lineFits (l := l) (D := D) (cI := cI) (cZ := cZ) (v := v) (way := 1) (one := one + k) (other := other + k) (x := (nI lf) - (nI (k * 10))) (o := o) (oc := oc) (q0 := q0) (ra := ra) (ll := ll) (lo := lo) (lt := lt) (q1 := q1) (n1 := m1) (n2 := m2) (pt := mt) (rc := rc) (a1 := a1) (a2 := a2) (nl := nl) (nv := nv) (g := g) (z := z) (L := (rwX 1 z g v one other (fun (kk pq : Nat) => decide (nI pq = nI lf - nI (kk * 10))) k).2) (hnl := hnl) (hnv := hnv) (hz := hz) (hg := hg) (hpm := hpm2) (hw := by omega) (hv := hv) (h1 := by omega) (h2 := by omega)) (cwV 5 hts gX2_rowsAlikeBut_X2_lineFits rfl rfl rfl yd_X2_lineFits ⟨Nat.le_of_ble_eq_true rfl, Nat.le_of_ble_eq_true rfl⟩) hK hP hD hS [0, 1, 2, 3, 4, 5, 6] (by decide) rfl rfl rfl rfl hl.1 rfl (Nat.le_of_ble_eq_true rfl) dX2_rowsAlikeBut_40 ⟨Nat.zero_le _, Nat.zero_le _⟩ (fun _ => rfl) (fun (u : Nat × Nat × (Nat → Nat)) => [(o, .inr (2, [.ref oc, .ref q0, .ref ra, .int (nI ll), .int (nI lo), .int (nI lt)])), (q0, .inr (3, [.ref q1, .int (nI u.1), .int (nI u.2.1)])), (q1, aN cI 26 u.2.2), (ra, aN cI 400 rc), (oc, .inr (0, [.ref a1, .ref a2, .int (nI nl), .int (nI nv)])), (a1, aN cI 640 g), (a2, aN cI 80 z)]) (fun _ => rfl) (fun r u H locs hp_40 hP hD hS => ?_)
        obtain ⟨n1u_40, n2u_40, ptu_40⟩ := u
        have hP : va_P D vwCl [(o, .inr (2, [.ref oc, .ref q0, .ref ra, .int (nI ll), .int (nI lo), .int (nI lt)])), (q0, .inr (3, [.ref q1, .int (nI n1u_40), .int (nI n2u_40)])), (q1, aN cI 26 ptu_40), (ra, aN cI 400 rc), (oc, .inr (0, [.ref a1, .ref a2, .int (nI nl), .int (nI nv)])), (a1, aN cI 640 g), (a2, aN cI 80 z)] H := hP
        have hD : va_D A [(o, .inr (2, [.ref oc, .ref q0, .ref ra, .int (nI ll), .int (nI lo), .int (nI lt)])), (q0, .inr (3, [.ref q1, .int (nI n1u_40), .int (nI n2u_40)])), (q1, aN cI 26 ptu_40), (ra, aN cI 400 rc), (oc, .inr (0, [.ref a1, .ref a2, .int (nI nl), .int (nI nv)])), (a1, aN cI 640 g), (a2, aN cI 80 z)] := hD
        obtain ⟨hr_hp_40, hp_40⟩ := hp_40
        rw [hr_hp_40]
        refine m_ifB_ne (tgt := 48) hx hb dX2_rowsAlikeBut_43 (by decide) (fun c_43 => ?_) (fun c_43 => ?_)
        · refine lv_iinc (v := nI (k + 1)) (lv' := [(6, .int (nI (k + 1))), (7, .int ((nI lf) - (nI (k * 10)))), (0, .ref o), (1, .int (nI v)), (2, .int (nI one)), (3, .int (nI other)), (4, .int (nI n)), (5, .int (nI lf))]) hx hb dX2_rowsAlikeBut_48 hl (k := 7) rfl (by rw [nI_succ]; rfl) (by decide) rfl (fun ls hl => ?_)
          refine lv_goto (tgt := 10) hx hb dX2_rowsAlikeBut_51 (by decide) ?_
          exact ih_10 (k + 1) n1u_40 n2u_40 ptu_40 (by omega) (by omega) (by rw [rwX_s hq]; exact c_43) (by rw [rwX_s hq]; exact hp_40) _ _ hP hD hS ls (lv_sub hl [2, 3, 4, 5, 6, 7, 0] rfl)
        · refine lv_iconst (v := nI 0) hx hb dX2_rowsAlikeBut_46 (by decide) ?_
          rw [hQ]
          have E8 := rwX_s hq
          have E7 : (rwX 1 z g v one other (fun (kk pq : Nat) => decide (nI pq = nI lf - nI (kk * 10))) (k + 1)).1 = false := by rw [E8]; exact c_43
          have E6 : rwX 1 z g v one other (fun (kk pq : Nat) => decide (nI pq = nI lf - nI (kk * 10))) n = rwX 1 z g v one other (fun (kk pq : Nat) => decide (nI pq = nI lf - nI (kk * 10))) (k + 1) := by
            have h9 := rwX_stop E7 (n - (k + 1))
            rwa [show k + 1 + (n - (k + 1)) = n by omega] at h9
          exact m_zwr hx hb hr hlocks (_, _, _) (nI_01 (by omega)) (⟨by rw [E6, E7]; rfl, by rw [E6, E8]; exact hp_40⟩) hP hS dX2_rowsAlikeBut_47
  exact loop_10 (n + 1) 0 0 0 pt (by omega) (by omega) rfl (pmC_nil hpt) _ _ hP hD hS ls (lv_sub hl [1, 2, 3, 4, 5, 6, 0] rfl)

theorem yd_X2_setReach : yX2_setReach.cls = RX2 ∧ yX2_setReach.cls ≠ "java/lang/invoke/MethodHandle" ∧ yX2_setReach.cls ≠ "java/lang/invoke/VarHandle" ∧ (parseMethodDescriptor yX2_setReach.desc).map (fun d => d.parameters.length) = some 3 := by decide +kernel
set_option maxHeartbeats 4000000 in
set_option maxRecDepth 100000 in
theorem k_X2_setReach (l : Launch) (D : va_G) (cI cZ : ClassId) (o q0 q1 ra oc a1 a2 ll lo lt n1 n2 nl nv : Nat) (pt rc z g : Nat → Nat) (one other n : Nat) (hnl : nl ≤ 20) (hnv : nv ≤ 4) (h1 : one < nl) (h2 : other < nl) : Met l yX2_setReach wsX2_setReach ({ frames := 1, cells := 0, slots := 0, locals := 21 }) (mPc [.ref o, .int (nI one), .int (nI other), .int (nI n)] D cI cZ [(o, .inr (2, [.ref oc, .ref q0, .ref ra, .int (nI ll), .int (nI lo), .int (nI lt)])), (q0, .inr (3, [.ref q1, .int (nI n1), .int (nI n2)])), (q1, aN cI 26 pt), (ra, aN cI 400 rc), (oc, .inr (0, [.ref a1, .ref a2, .int (nI nl), .int (nI nv)])), (a1, aN cI 640 g), (a2, aN cI 80 z)]) (mQv D (mA [(o, .inr (2, [.ref oc, .ref q0, .ref ra, .int (nI ll), .int (nI lo), .int (nI lt)])), (q0, .inr (3, [.ref q1, .int (nI n1), .int (nI n2)])), (q1, aN cI 26 pt), (ra, aN cI 400 rc), (oc, .inr (0, [.ref a1, .ref a2, .int (nI nl), .int (nI nv)])), (a1, aN cI 640 g), (a2, aN cI 80 z)]) (fun (u : Unit) => True) (fun (u : Unit) => [(o, .inr (2, [.ref oc, .ref q0, .ref ra, .int (nI ll), .int (nI lo), .int (nI lt)])), (q0, .inr (3, [.ref q1, .int (nI n1), .int (nI n2)])), (q1, aN cI 26 pt), (ra, aN cI 400 (upN rc (one * 20 + other) n)), (oc, .inr (0, [.ref a1, .ref a2, .int (nI nl), .int (nI nv)])), (a1, aN cI 640 g), (a2, aN cI 80 z)])) 0 0 (mA [(o, .inr (2, [.ref oc, .ref q0, .ref ra, .int (nI ll), .int (nI lo), .int (nI lt)])), (q0, .inr (3, [.ref q1, .int (nI n1), .int (nI n2)])), (q1, aN cI 26 pt), (ra, aN cI 400 rc), (oc, .inr (0, [.ref a1, .ref a2, .int (nI nl), .int (nI nv)])), (a1, aN cI 640 g), (a2, aN cI 80 z)]) := by
  refine Met.ofW (cc := cX2_setReach) (maxL := 4) (ret := none) (by decide) rfl ?_
  intro p e s m args below meth c s₁ BB hml hv
  obtain ⟨hargs, hP, hD0, hK⟩ := hv
  have hx := BB.exec
  have hb := BB.bytes
  have hr := BB.returns
  have hts := atoms_spec (ws := wsX2_setReach) BB.pre
  have hown : s.vm.findClass RX2 = some m.cls := findClass_of_methodNamed BB.named
  have hlocks := BB.notSynchronized
  have hcf : CallFix p m c cX2_setReach 4 s args wsX2_setReach RX2 := ⟨hx, hb, hml, hown, hts⟩
  obtain ⟨A, hAe⟩ : ∃ A, A = mA [(o, .inr (2, [.ref oc, .ref q0, .ref ra, .int (nI ll), .int (nI lo), .int (nI lt)])), (q0, .inr (3, [.ref q1, .int (nI n1), .int (nI n2)])), (q1, aN cI 26 pt), (ra, aN cI 400 rc), (oc, .inr (0, [.ref a1, .ref a2, .int (nI nl), .int (nI nv)])), (a1, aN cI 640 g), (a2, aN cI 80 z)] := ⟨_, rfl⟩
  have hD : va_D A [(o, .inr (2, [.ref oc, .ref q0, .ref ra, .int (nI ll), .int (nI lo), .int (nI lt)])), (q0, .inr (3, [.ref q1, .int (nI n1), .int (nI n2)])), (q1, aN cI 26 pt), (ra, aN cI 400 rc), (oc, .inr (0, [.ref a1, .ref a2, .int (nI nl), .int (nI nv)])), (a1, aN cI 640 g), (a2, aN cI 80 z)] := ⟨hD0.1, fun k q h => by rw [hAe]; exact ⟨k, q.2, h⟩⟩
  have hS : va_S A s.heap s.heap [] := va_S.rf
  rw [← hAe]
  rw [hargs, lg_entry_eq, ← hargs]
  have hl := lv_entry ([.ref o, .int (nI one), .int (nI other), .int (nI n)]) (n := 4) (Nat.le_of_ble_eq_true rfl)
  generalize (lg_sl ([.ref o, .int (nI one), .int (nI other), .int (nI n)]) ++ List.replicate (4 - (lg_sl ([.ref o, .int (nI one), .int (nI other), .int (nI n)])).length) Slot.unset).toArray = ls at hl ⊢
  have hl : lv_has ls 4 [(0, .ref o), (1, .int (nI one)), (2, .int (nI other)), (3, .int (nI n))] := hl
  obtain ⟨Q, hQ⟩ : ∃ Q, Q = MQ below (mQv D A (fun (u : Unit) => True) (fun (u : Unit) => [(o, .inr (2, [.ref oc, .ref q0, .ref ra, .int (nI ll), .int (nI lo), .int (nI lt)])), (q0, .inr (3, [.ref q1, .int (nI n1), .int (nI n2)])), (q1, aN cI 26 pt), (ra, aN cI 400 (upN rc (one * 20 + other) n)), (oc, .inr (0, [.ref a1, .ref a2, .int (nI nl), .int (nI nv)])), (a1, aN cI 640 g), (a2, aN cI 80 z)])) args s 0 0 A := ⟨_, rfl⟩
  rw [← hQ]
  have i_X2 : ∀ w ∈ u_ws RX2 TX2 6, w ∈ wsX2_setReach := by decide +kernel
  have f_32 := hts (.fieldLink RX2 32 "SameAgain$Likeness" "code" "LSameAgain$Code;") (by decide +kernel)
  have f_18 := hts (.fieldLink RX2 18 "SameAgain$Likeness" "reach" "[I") (by decide +kernel)
  refine lv_aload_n hx hb dX2_setReach_0 rfl (lv_at hl 0 rfl) ?_
  refine va_get (D := D) (ci := 2) (v := .ref oc) (C := RX2) (T := TX2) (N := 6) hx hb hts i_X2 hown hK.1 hP 0 rfl rfl 0 (by decide) f_32 (fun _ h9 => h9) rfl dX2_setReach_1 ?_
  refine lv_iload_n hx hb dX2_setReach_4 rfl (lv_at hl 1 rfl) ?_
  refine m_rdV (As := [.int (nI one)]) (rest := []) (wc := [(oc, .inr (0, [.ref a1, .ref a2, .int (nI nl), .int (nI nv)])), (a1, aN cI 640 g), (a2, aN cI 80 z)]) hcf (k_X0_hasLine (l := l) (D := D) (cI := cI) (cZ := cZ) (x := nI one) (o := oc) (a1 := a1) (a2 := a2) (nl := nl) (nv := nv) (g := g) (z := z) (hnl := hnl) (hnv := hnv)) (cwV 1 hts gX2_setReach_X0_hasLine rfl rfl rfl yd_X0_hasLine ⟨Nat.le_of_ble_eq_true rfl, Nat.le_of_ble_eq_true rfl⟩) (m_preV hK hP hD [4, 5, 6] (by decide) rfl rfl rfl) rfl hl.1 rfl (Nat.le_of_ble_eq_true rfl) dX2_setReach_5 ⟨Nat.zero_le _, Nat.zero_le _⟩ ?_
  refine m_ifB_eq (tgt := 34) hx hb dX2_setReach_8 (by decide) (fun c_8 => absurd c_8 (fun q => by rw [ixB_nI h1 (by omega)] at q; cases q)) (fun c_8 => ?_)
  refine lv_aload_n hx hb dX2_setReach_11 rfl (lv_at hl 0 rfl) ?_
  refine va_get (D := D) (ci := 2) (v := .ref oc) (C := RX2) (T := TX2) (N := 6) hx hb hts i_X2 hown hK.1 hP 0 rfl rfl 0 (by decide) f_32 (fun _ h9 => h9) rfl dX2_setReach_12 ?_
  refine lv_iload_n hx hb dX2_setReach_15 rfl (lv_at hl 2 rfl) ?_
  refine m_rdV (As := [.int (nI other)]) (rest := []) (wc := [(oc, .inr (0, [.ref a1, .ref a2, .int (nI nl), .int (nI nv)])), (a1, aN cI 640 g), (a2, aN cI 80 z)]) hcf (k_X0_hasLine (l := l) (D := D) (cI := cI) (cZ := cZ) (x := nI other) (o := oc) (a1 := a1) (a2 := a2) (nl := nl) (nv := nv) (g := g) (z := z) (hnl := hnl) (hnv := hnv)) (cwV 1 hts gX2_setReach_X0_hasLine rfl rfl rfl yd_X0_hasLine ⟨Nat.le_of_ble_eq_true rfl, Nat.le_of_ble_eq_true rfl⟩) (m_preV hK hP hD [4, 5, 6] (by decide) rfl rfl rfl) rfl hl.1 rfl (Nat.le_of_ble_eq_true rfl) dX2_setReach_16 ⟨Nat.zero_le _, Nat.zero_le _⟩ ?_
  refine m_ifB_eq (tgt := 34) hx hb dX2_setReach_19 (by decide) (fun c_19 => absurd c_19 (fun q => by rw [ixB_nI h2 (by omega)] at q; cases q)) (fun c_19 => ?_)
  refine lv_aload_n hx hb dX2_setReach_22 rfl (lv_at hl 0 rfl) ?_
  refine va_get (D := D) (ci := 2) (v := .ref ra) (C := RX2) (T := TX2) (N := 6) hx hb hts i_X2 hown hK.1 hP 0 rfl rfl 2 (by decide) f_18 (fun _ h9 => h9) rfl dX2_setReach_23 ?_
  refine lv_iload_n hx hb dX2_setReach_26 rfl (lv_at hl 1 rfl) ?_
  refine lv_bipush (v := nI 20) hx hb dX2_setReach_27 (by decide) ?_
  refine m_mul hx hb dX2_setReach_29 ?_
  refine lv_iload_n hx hb dX2_setReach_30 rfl (lv_at hl 2 rfl) ?_
  refine m_add hx hb dX2_setReach_31 ?_
  refine lv_iload_n hx hb dX2_setReach_32 rfl (lv_at hl 3 rfl) ?_
  refine m_ast hx hb hK hP hD hS 3 rfl (by decide) (by omega) dX2_setReach_33 (ws' := [(o, .inr (2, [.ref oc, .ref q0, .ref ra, .int (nI ll), .int (nI lo), .int (nI lt)])), (q0, .inr (3, [.ref q1, .int (nI n1), .int (nI n2)])), (q1, aN cI 26 pt), (ra, aN cI 400 (upN rc ((one * 20) + other) n)), (oc, .inr (0, [.ref a1, .ref a2, .int (nI nl), .int (nI nv)])), (a1, aN cI 640 g), (a2, aN cI 80 z)]) rfl (fun H locs hP hD hS => ?_)
  rw [hQ]
  exact m_vwr hx hb hr hlocks () (trivial) hP hS dX2_setReach_34

theorem yd_X2_reachOf : yX2_reachOf.cls = RX2 ∧ yX2_reachOf.cls ≠ "java/lang/invoke/MethodHandle" ∧ yX2_reachOf.cls ≠ "java/lang/invoke/VarHandle" ∧ (parseMethodDescriptor yX2_reachOf.desc).map (fun d => d.parameters.length) = some 2 := by decide +kernel
set_option maxHeartbeats 4000000 in
set_option maxRecDepth 100000 in
theorem k_X2_reachOf (l : Launch) (D : va_G) (cI cZ : ClassId) (o q0 q1 ra oc a1 a2 ll lo lt n1 n2 nl nv : Nat) (pt rc z g : Nat → Nat) (one other : Nat) (hnl : nl ≤ 20) (hnv : nv ≤ 4) (h1 : one ≤ 40) (h2 : other ≤ 40) (hrc : ∀ j, rc j ≤ 20) : Met l yX2_reachOf wsX2_reachOf ({ frames := 1, cells := 0, slots := 0, locals := 21 }) (mPc [.ref o, .int (nI one), .int (nI other)] D cI cZ [(o, .inr (2, [.ref oc, .ref q0, .ref ra, .int (nI ll), .int (nI lo), .int (nI lt)])), (q0, .inr (3, [.ref q1, .int (nI n1), .int (nI n2)])), (q1, aN cI 26 pt), (ra, aN cI 400 rc), (oc, .inr (0, [.ref a1, .ref a2, .int (nI nl), .int (nI nv)])), (a1, aN cI 640 g), (a2, aN cI 80 z)]) (QcRead (nI (rcN rc nl one other))) 0 0 (fun _ => False) := by
  refine Met.ofW (cc := cX2_reachOf) (maxL := 3) (ret := (some .int)) (by decide) rfl ?_
  intro p e s m args below meth c s₁ BB hml hv
  obtain ⟨hargs, hP, hD0, hK⟩ := hv
  have hx := BB.exec
  have hb := BB.bytes
  have hr := BB.returns
  have hts := atoms_spec (ws := wsX2_reachOf) BB.pre
  have hown : s.vm.findClass RX2 = some m.cls := findClass_of_methodNamed BB.named
  have hlocks := BB.notSynchronized
  have hcf : CallFix p m c cX2_reachOf 3 s args wsX2_reachOf RX2 := ⟨hx, hb, hml, hown, hts⟩
  have hD := hD0
  rw [hargs, lg_entry_eq, ← hargs]
  have hl := lv_entry ([.ref o, .int (nI one), .int (nI other)]) (n := 3) (Nat.le_of_ble_eq_true rfl)
  generalize (lg_sl ([.ref o, .int (nI one), .int (nI other)]) ++ List.replicate (3 - (lg_sl ([.ref o, .int (nI one), .int (nI other)])).length) Slot.unset).toArray = ls at hl ⊢
  have hl : lv_has ls 3 [(0, .ref o), (1, .int (nI one)), (2, .int (nI other))] := hl
  obtain ⟨Q, hQ⟩ : ∃ Q, Q = MQ below (QcRead (nI (rcN rc nl one other))) args s 0 0 (fun _ => False) := ⟨_, rfl⟩
  rw [← hQ]
  have i_X2 : ∀ w ∈ u_ws RX2 TX2 6, w ∈ wsX2_reachOf := by decide +kernel
  have f_32 := hts (.fieldLink RX2 32 "SameAgain$Likeness" "code" "LSameAgain$Code;") (by decide +kernel)
  have f_18 := hts (.fieldLink RX2 18 "SameAgain$Likeness" "reach" "[I") (by decide +kernel)
  refine lv_aload_n hx hb dX2_reachOf_0 rfl (lv_at hl 0 rfl) ?_
  refine va_get (D := D) (ci := 2) (v := .ref oc) (C := RX2) (T := TX2) (N := 6) hx hb hts i_X2 hown hK.1 hP 0 rfl rfl 0 (by decide) f_32 (fun _ h9 => h9) rfl dX2_reachOf_1 ?_
  refine lv_iload_n hx hb dX2_reachOf_4 rfl (lv_at hl 1 rfl) ?_
  refine m_rdV (As := [.int (nI one)]) (rest := []) (wc := [(oc, .inr (0, [.ref a1, .ref a2, .int (nI nl), .int (nI nv)])), (a1, aN cI 640 g), (a2, aN cI 80 z)]) hcf (k_X0_hasLine (l := l) (D := D) (cI := cI) (cZ := cZ) (x := nI one) (o := oc) (a1 := a1) (a2 := a2) (nl := nl) (nv := nv) (g := g) (z := z) (hnl := hnl) (hnv := hnv)) (cwV 1 hts gX2_reachOf_X0_hasLine rfl rfl rfl yd_X0_hasLine ⟨Nat.le_of_ble_eq_true rfl, Nat.le_of_ble_eq_true rfl⟩) (m_preV hK hP hD [4, 5, 6] (by decide) rfl rfl rfl) rfl hl.1 rfl (Nat.le_of_ble_eq_true rfl) dX2_reachOf_5 ⟨Nat.zero_le _, Nat.zero_le _⟩ ?_
  refine m_top (y := bI (decide (one < nl))) (congrArg bI (ixB_d (by omega))) ?_
  refine m_ifB_eq (tgt := 36) hx hb dX2_reachOf_8 (by decide) (fun c_8 => ?_) (fun c_8 => ?_)
  · have i1 := of_decide_eq_false c_8
    have X9 : ¬ (one < nl ∧ other < nl) := fun q => i1 q.1
    refine lv_iconst (v := nI 0) hx hb dX2_reachOf_36 (by decide) ?_
    rw [hQ]
    exact m_ird hx hb hr hlocks (by unfold rcN; rw [if_neg X9]) dX2_reachOf_37
  · have i1 := of_decide_eq_true c_8
    refine lv_aload_n hx hb dX2_reachOf_11 rfl (lv_at hl 0 rfl) ?_
    refine va_get (D := D) (ci := 2) (v := .ref oc) (C := RX2) (T := TX2) (N := 6) hx hb hts i_X2 hown hK.1 hP 0 rfl rfl 0 (by decide) f_32 (fun _ h9 => h9) rfl dX2_reachOf_12 ?_
    refine lv_iload_n hx hb dX2_reachOf_15 rfl (lv_at hl 2 rfl) ?_
    refine m_rdV (As := [.int (nI other)]) (rest := []) (wc := [(oc, .inr (0, [.ref a1, .ref a2, .int (nI nl), .int (nI nv)])), (a1, aN cI 640 g), (a2, aN cI 80 z)]) hcf (k_X0_hasLine (l := l) (D := D) (cI := cI) (cZ := cZ) (x := nI other) (o := oc) (a1 := a1) (a2 := a2) (nl := nl) (nv := nv) (g := g) (z := z) (hnl := hnl) (hnv := hnv)) (cwV 1 hts gX2_reachOf_X0_hasLine rfl rfl rfl yd_X0_hasLine ⟨Nat.le_of_ble_eq_true rfl, Nat.le_of_ble_eq_true rfl⟩) (m_preV hK hP hD [4, 5, 6] (by decide) rfl rfl rfl) rfl hl.1 rfl (Nat.le_of_ble_eq_true rfl) dX2_reachOf_16 ⟨Nat.zero_le _, Nat.zero_le _⟩ ?_
    refine m_top (y := bI (decide (other < nl))) (congrArg bI (ixB_d (by omega))) ?_
    refine m_ifB_eq (tgt := 36) hx hb dX2_reachOf_19 (by decide) (fun c_19 => ?_) (fun c_19 => ?_)
    · have i2 := of_decide_eq_false c_19
      have X9 : ¬ (one < nl ∧ other < nl) := fun q => i2 q.2
      refine lv_iconst (v := nI 0) hx hb dX2_reachOf_36 (by decide) ?_
      rw [hQ]
      exact m_ird hx hb hr hlocks (by unfold rcN; rw [if_neg X9]) dX2_reachOf_37
    · have i2 := of_decide_eq_true c_19
      refine lv_aload_n hx hb dX2_reachOf_22 rfl (lv_at hl 0 rfl) ?_
      refine va_get (D := D) (ci := 2) (v := .ref ra) (C := RX2) (T := TX2) (N := 6) hx hb hts i_X2 hown hK.1 hP 0 rfl rfl 2 (by decide) f_18 (fun _ h9 => h9) rfl dX2_reachOf_23 ?_
      refine lv_iload_n hx hb dX2_reachOf_26 rfl (lv_at hl 1 rfl) ?_
      refine lv_bipush (v := nI 20) hx hb dX2_reachOf_27 (by decide) ?_
      refine m_mul hx hb dX2_reachOf_29 ?_
      refine lv_iload_n hx hb dX2_reachOf_30 rfl (lv_at hl 2 rfl) ?_
      refine m_add hx hb dX2_reachOf_31 ?_
      refine m_ald hx hb hK hP 3 rfl (by decide) (by omega) dX2_reachOf_32 ?_
      have hv_32 := hrc ((one * 20) + other)
      refine lv_goto (tgt := 37) hx hb dX2_reachOf_33 (by decide) ?_
      rw [hQ]
      exact m_ird hx hb hr hlocks (by unfold rcN; rw [if_pos ⟨i1, i2⟩]) dX2_reachOf_37
end
section
theorem inj20 {a b i j : Nat} (hb : b < 20) (hj : j < 20) (h : a * 20 + b = i * 20 + j) : a = i ∧ b = j := by omega
theorem rT_up {way : Nat} {z g : Nat → Nat} {v nl i j : Nat} (h : i < j) : rT way z g v nl i j = rlN way z g v i j (nl - j) := by
  unfold rT; rw [if_neg (by omega), if_pos h]
theorem rT_dn {way : Nat} {z g : Nat → Nat} {v nl i j : Nat} (h : i < j) : rT way z g v nl j i = rlN way z g v i j (nl - j) := by
  unfold rT; rw [if_neg (by omega), if_neg (by omega)]
theorem cA_in {way : Nat} {z g : Nat → Nat} {v nl i : Nat} {rt : Nat → Nat} (hnl : nl ≤ 20) (hi : i < nl) (hT : ∀ a b, a < nl → b < nl → min a b < i → rt (a * 20 + b) = rT way z g v nl a b) :
    ∀ a b, a < nl → b < nl → (min a b < i ∨ (min a b = i ∧ max a b < i + 1)) → upN rt (i * 20 + i) (nl - i) (a * 20 + b) = rT way z g v nl a b := by
  intro a b ha hb h
  by_cases e : a = i ∧ b = i
  · obtain ⟨rfl, rfl⟩ := e
    rw [upN_s]; unfold rT; rw [if_pos rfl]
  · rw [upN_ne (by omega)]
    exact hT a b ha hb (by omega)
theorem cA_step {way : Nat} {z g : Nat → Nat} {v nl i j : Nat} {ru : Nat → Nat} (hnl : nl ≤ 20) (hij : i < j) (hj : j < nl) (hU : ∀ a b, a < nl → b < nl → (min a b < i ∨ (min a b = i ∧ max a b < j)) → ru (a * 20 + b) = rT way z g v nl a b) :
    ∀ a b, a < nl → b < nl → (min a b < i ∨ (min a b = i ∧ max a b < j + 1)) → upN (upN ru (i * 20 + j) (rlN way z g v i j (nl - j))) (j * 20 + i) (rlN way z g v i j (nl - j)) (a * 20 + b) = rT way z g v nl a b := by
  intro a b ha hb h
  by_cases e : a = j ∧ b = i
  · obtain ⟨rfl, rfl⟩ := e
    rw [upN_s, rT_dn hij]
  · rw [upN_ne (by omega)]
    by_cases e2 : a = i ∧ b = j
    · obtain ⟨rfl, rfl⟩ := e2
      rw [upN_s, rT_up hij]
    · rw [upN_ne (by omega)]
      exact hU a b ha hb (by omega)

theorem yd_X2_compareAll : yX2_compareAll.cls = RX2 ∧ yX2_compareAll.cls ≠ "java/lang/invoke/MethodHandle" ∧ yX2_compareAll.cls ≠ "java/lang/invoke/VarHandle" ∧ (parseMethodDescriptor yX2_compareAll.desc).map (fun d => d.parameters.length) = some 2 := by decide +kernel
set_option maxHeartbeats 4000000 in
set_option maxRecDepth 100000 in
theorem k_X2_compareAll (l : Launch) (D : va_G) (cI cZ : ClassId) (o q0 q1 ra oc a1 a2 ll lo lt n1 n2 nl nv : Nat) (pt rc z g : Nat → Nat) (v way : Nat) (hnl : nl ≤ 20) (hnv : nv ≤ 4) (hz : ∀ j, z j ≤ 8) (hg : ∀ j, g j ≤ 126) (hpt : ∀ j, pt j ≤ 126) (hrc : ∀ j, rc j ≤ 20) (hw : way ≤ 2) (hv : v < nv) : Met l yX2_compareAll wsX2_compareAll ({ frames := 5, cells := 0, slots := 0, locals := 122 }) (mPc [.ref o, .int (nI v), .int (nI way)] D cI cZ [(o, .inr (2, [.ref oc, .ref q0, .ref ra, .int (nI ll), .int (nI lo), .int (nI lt)])), (q0, .inr (3, [.ref q1, .int (nI n1), .int (nI n2)])), (q1, aN cI 26 pt), (ra, aN cI 400 rc), (oc, .inr (0, [.ref a1, .ref a2, .int (nI nl), .int (nI nv)])), (a1, aN cI 640 g), (a2, aN cI 80 z)]) (mQv D (mA [(o, .inr (2, [.ref oc, .ref q0, .ref ra, .int (nI ll), .int (nI lo), .int (nI lt)])), (q0, .inr (3, [.ref q1, .int (nI n1), .int (nI n2)])), (q1, aN cI 26 pt), (ra, aN cI 400 rc), (oc, .inr (0, [.ref a1, .ref a2, .int (nI nl), .int (nI nv)])), (a1, aN cI 640 g), (a2, aN cI 80 z)]) (fun (u : Nat × Nat × (Nat → Nat) × (Nat → Nat)) => rcOK way z g v nl u.2.2.2 ∧ (∀ j, u.2.2.2 j ≤ 20) ∧ (∀ j, u.2.2.1 j ≤ 126)) (fun (u : Nat × Nat × (Nat → Nat) × (Nat → Nat)) => [(o, .inr (2, [.ref oc, .ref q0, .ref ra, .int (nI ll), .int (nI lo), .int (nI lt)])), (q0, .inr (3, [.ref q1, .int (nI u.1), .int (nI u.2.1)])), (q1, aN cI 26 u.2.2.1), (ra, aN cI 400 u.2.2.2), (oc, .inr (0, [.ref a1, .ref a2, .int (nI nl), .int (nI nv)])), (a1, aN cI 640 g), (a2, aN cI 80 z)])) 0 0 (mA [(o, .inr (2, [.ref oc, .ref q0, .ref ra, .int (nI ll), .int (nI lo), .int (nI lt)])), (q0, .inr (3, [.ref q1, .int (nI n1), .int (nI n2)])), (q1, aN cI 26 pt), (ra, aN cI 400 rc), (oc, .inr (0, [.ref a1, .ref a2, .int (nI nl), .int (nI nv)])), (a1, aN cI 640 g), (a2, aN cI 80 z)]) := by
  refine Met.ofW (cc := cX2_compareAll) (maxL := 7) (ret := none) (by decide) rfl ?_
  intro p e s m args below meth c s₁ BB hml hv
  obtain ⟨hargs, hP, hD0, hK⟩ := hv
  have hx := BB.exec
  have hb := BB.bytes
  have hr := BB.returns
  have hts := atoms_spec (ws := wsX2_compareAll) BB.pre
  have hown : s.vm.findClass RX2 = some m.cls := findClass_of_methodNamed BB.named
  have hlocks := BB.notSynchronized
  have hcf : CallFix p m c cX2_compareAll 7 s args wsX2_compareAll RX2 := ⟨hx, hb, hml, hown, hts⟩
  obtain ⟨A, hAe⟩ : ∃ A, A = mA [(o, .inr (2, [.ref oc, .ref q0, .ref ra, .int (nI ll), .int (nI lo), .int (nI lt)])), (q0, .inr (3, [.ref q1, .int (nI n1), .int (nI n2)])), (q1, aN cI 26 pt), (ra, aN cI 400 rc), (oc, .inr (0, [.ref a1, .ref a2, .int (nI nl), .int (nI nv)])), (a1, aN cI 640 g), (a2, aN cI 80 z)] := ⟨_, rfl⟩
  have hD : va_D A [(o, .inr (2, [.ref oc, .ref q0, .ref ra, .int (nI ll), .int (nI lo), .int (nI lt)])), (q0, .inr (3, [.ref q1, .int (nI n1), .int (nI n2)])), (q1, aN cI 26 pt), (ra, aN cI 400 rc), (oc, .inr (0, [.ref a1, .ref a2, .int (nI nl), .int (nI nv)])), (a1, aN cI 640 g), (a2, aN cI 80 z)] := ⟨hD0.1, fun k q h => by rw [hAe]; exact ⟨k, q.2, h⟩⟩
  have hS : va_S A s.heap s.heap [] := va_S.rf
  rw [← hAe]
  rw [hargs, lg_entry_eq, ← hargs]
  have hl := lv_entry ([.ref o, .int (nI v), .int (nI way)]) (n := 7) (Nat.le_of_ble_eq_true rfl)
  generalize (lg_sl ([.ref o, .int (nI v), .int (nI way)]) ++ List.replicate (7 - (lg_sl ([.ref o, .int (nI v), .int (nI way)])).length) Slot.unset).toArray = ls at hl ⊢
  have hl : lv_has ls 7 [(0, .ref o), (1, .int (nI v)), (2, .int (nI way))] := hl
  obtain ⟨Q, hQ⟩ : ∃ Q, Q = MQ below (mQv D A (fun (u : Nat × Nat × (Nat → Nat) × (Nat → Nat)) => rcOK way z g v nl u.2.2.2 ∧ (∀ j, u.2.2.2 j ≤ 20) ∧ (∀ j, u.2.2.1 j ≤ 126)) (fun (u : Nat × Nat × (Nat → Nat) × (Nat → Nat)) => [(o, .inr (2, [.ref oc, .ref q0, .ref ra, .int (nI ll), .int (nI lo), .int (nI lt)])), (q0, .inr (3, [.ref q1, .int (nI u.1), .int (nI u.2.1)])), (q1, aN cI 26 u.2.2.1), (ra, aN cI 400 u.2.2.2), (oc, .inr (0, [.ref a1, .ref a2, .int (nI nl), .int (nI nv)])), (a1, aN cI 640 g), (a2, aN cI 80 z)])) args s 0 0 A := ⟨_, rfl⟩
  rw [← hQ]
  have i_X2 : ∀ w ∈ u_ws RX2 TX2 6, w ∈ wsX2_compareAll := by decide +kernel
  have f_32 := hts (.fieldLink RX2 32 "SameAgain$Likeness" "code" "LSameAgain$Code;") (by decide +kernel)
  refine lv_aload_n hx hb dX2_compareAll_0 rfl (lv_at hl 0 rfl) ?_
  refine va_get (D := D) (ci := 2) (v := .ref oc) (C := RX2) (T := TX2) (N := 6) hx hb hts i_X2 hown hK.1 hP 0 rfl rfl 0 (by decide) f_32 (fun _ h9 => h9) rfl dX2_compareAll_1 ?_
  refine m_rdV (As := []) (rest := []) (wc := [(oc, .inr (0, [.ref a1, .ref a2, .int (nI nl), .int (nI nv)])), (a1, aN cI 640 g), (a2, aN cI 80 z)]) hcf (k_X0_lines (l := l) (D := D) (cI := cI) (cZ := cZ) (o := oc) (a1 := a1) (a2 := a2) (nl := nl) (nv := nv) (g := g) (z := z) ) (cwV 0 hts gX2_compareAll_X0_lines rfl rfl rfl yd_X0_lines ⟨Nat.le_of_ble_eq_true rfl, Nat.le_of_ble_eq_true rfl⟩) (m_preV hK hP hD [4, 5, 6] (by decide) rfl rfl rfl) rfl hl.1 rfl (Nat.le_of_ble_eq_true rfl) dX2_compareAll_4 ⟨Nat.zero_le _, Nat.zero_le _⟩ ?_
  refine lv_istore_n (lv' := [(3, .int (nI nl)), (0, .ref o), (1, .int (nI v)), (2, .int (nI way))]) hx hb dX2_compareAll_7 rfl hl (by decide) rfl (fun ls hl => ?_)
  refine lv_iconst (v := nI 0) hx hb dX2_compareAll_8 (by decide) ?_
  refine lv_istore (lv' := [(4, .int (nI 0)), (3, .int (nI nl)), (0, .ref o), (1, .int (nI v)), (2, .int (nI way))]) hx hb dX2_compareAll_9 hl (by decide) rfl (fun ls hl => ?_)
  have loop_11 : ∀ (fu : Nat) (i m1 m2 : Nat) (mt rt : Nat → Nat) (hfu : nl - i < fu)  (hi : i ≤ nl) (hmt : ∀ j, mt j ≤ 126) (hrt : ∀ j, rt j ≤ 20) (hT : ∀ a b, a < nl → b < nl → min a b < i → rt (a * 20 + b) = rT way z g v nl a b) (H : Heap) (locs : List Loc) (hP : va_P D vwCl [(o, .inr (2, [.ref oc, .ref q0, .ref ra, .int (nI ll), .int (nI lo), .int (nI lt)])), (q0, .inr (3, [.ref q1, .int (nI m1), .int (nI m2)])), (q1, aN cI 26 mt), (ra, aN cI 400 rt), (oc, .inr (0, [.ref a1, .ref a2, .int (nI nl), .int (nI nv)])), (a1, aN cI 640 g), (a2, aN cI 80 z)] H) (hD : va_D A [(o, .inr (2, [.ref oc, .ref q0, .ref ra, .int (nI ll), .int (nI lo), .int (nI lt)])), (q0, .inr (3, [.ref q1, .int (nI m1), .int (nI m2)])), (q1, aN cI 26 mt), (ra, aN cI 400 rt), (oc, .inr (0, [.ref a1, .ref a2, .int (nI nl), .int (nI nv)])), (a1, aN cI 640 g), (a2, aN cI 80 z)]) (hS : va_S A s.heap H locs) (ls : Array Slot) (hl : lv_has ls 7 [(0, .ref o), (1, .int (nI v)), (2, .int (nI way)), (3, .int (nI nl)), (4, .int (nI i))]), W p l e (headSpec wsX2_compareAll { frames := 5, cells := 0, slots := 0, locals := 122 }).room s m args below meth c H locs 0 0 Q (F0 m 11 ls []) := by
    intro fu
    induction fu with
    | zero => intro i m1 m2 mt rt hfu; exact absurd hfu (Nat.not_lt_zero _)
    | succ fu ih_11 =>
      intro i m1 m2 mt rt hfu hi hmt hrt hT H locs hP hD hS ls hl
      refine lv_iload hx hb dX2_compareAll_11 (lv_at hl 4 rfl) ?_
      refine lv_iload_n hx hb dX2_compareAll_13 rfl (lv_at hl 3 rfl) ?_
      refine m_cmp_ge (tgt := 89) hx hb dX2_compareAll_14 (by decide) (by omega) (by omega) (fun c_14 => ?_) (fun c_14 => ?_)
      · rw [hQ]
        exact m_vwr hx hb hr hlocks (m1, m2, mt, rt) (⟨fun a b ha hb => hT a b ha hb (by omega), hrt, hmt⟩) hP hS dX2_compareAll_89
      · refine lv_aload_n hx hb dX2_compareAll_17 rfl (lv_at hl 0 rfl) ?_
        refine lv_iload hx hb dX2_compareAll_18 (lv_at hl 4 rfl) ?_
        refine lv_iload hx hb dX2_compareAll_20 (lv_at hl 4 rfl) ?_
        refine lv_iload_n hx hb dX2_compareAll_22 rfl (lv_at hl 3 rfl) ?_
        refine lv_iload hx hb dX2_compareAll_23 (lv_at hl 4 rfl) ?_
        refine m_sub hx hb (by omega) dX2_compareAll_25 ?_
        refine m_wvV (As := [.int (nI i), .int (nI i), .int (nI (nl - i))]) (rest := []) (wc := [(o, .inr (2, [.ref oc, .ref q0, .ref ra, .int (nI ll), .int (nI lo), .int (nI lt)])), (q0, .inr (3, [.ref q1, .int (nI m1), .int (nI m2)])), (q1, aN cI 26 mt), (ra, aN cI 400 rt), (oc, .inr (0, [.ref a1, .ref a2, .int (nI nl), .int (nI nv)])), (a1, aN cI 640 g), (a2, aN cI 80 z)]) hcf (k_X2_setReach (l := l) (D := D) (cI := cI) (cZ := cZ) (one := i) (other := i) (n := nl - i) (o := o) (oc := oc) (q0 := q0) (ra := ra) (ll := ll) (lo := lo) (lt := lt) (q1 := q1) (n1 := m1) (n2 := m2) (pt := mt) (rc := rt) (a1 := a1) (a2 := a2) (nl := nl) (nv := nv) (g := g) (z := z) (hnl := hnl) (hnv := hnv) (h1 := by omega) (h2 := by omega)) (cwV 3 hts gX2_compareAll_X2_setReach rfl rfl rfl yd_X2_setReach ⟨Nat.le_of_ble_eq_true rfl, Nat.le_of_ble_eq_true rfl⟩) hK hP hD hS [0, 1, 2, 3, 4, 5, 6] (by decide) rfl rfl rfl rfl hl.1 rfl (Nat.le_of_ble_eq_true rfl) dX2_compareAll_26 ⟨Nat.zero_le _, Nat.zero_le _⟩ (fun _ => rfl) (fun (u : Unit) => [(o, .inr (2, [.ref oc, .ref q0, .ref ra, .int (nI ll), .int (nI lo), .int (nI lt)])), (q0, .inr (3, [.ref q1, .int (nI m1), .int (nI m2)])), (q1, aN cI 26 mt), (ra, aN cI 400 (upN rt (i * 20 + i) (nl - i))), (oc, .inr (0, [.ref a1, .ref a2, .int (nI nl), .int (nI nv)])), (a1, aN cI 640 g), (a2, aN cI 80 z)]) (fun _ => rfl) (fun u H locs hp_26 hP hD hS => ?_)
        have hP : va_P D vwCl [(o, .inr (2, [.ref oc, .ref q0, .ref ra, .int (nI ll), .int (nI lo), .int (nI lt)])), (q0, .inr (3, [.ref q1, .int (nI m1), .int (nI m2)])), (q1, aN cI 26 mt), (ra, aN cI 400 (upN rt (i * 20 + i) (nl - i))), (oc, .inr (0, [.ref a1, .ref a2, .int (nI nl), .int (nI nv)])), (a1, aN cI 640 g), (a2, aN cI 80 z)] H := hP
        have hD : va_D A [(o, .inr (2, [.ref oc, .ref q0, .ref ra, .int (nI ll), .int (nI lo), .int (nI lt)])), (q0, .inr (3, [.ref q1, .int (nI m1), .int (nI m2)])), (q1, aN cI 26 mt), (ra, aN cI 400 (upN rt (i * 20 + i) (nl - i))), (oc, .inr (0, [.ref a1, .ref a2, .int (nI nl), .int (nI nv)])), (a1, aN cI 640 g), (a2, aN cI 80 z)] := hD
        refine lv_iload hx hb dX2_compareAll_29 (lv_at hl 4 rfl) ?_
        refine lv_iconst (v := nI 1) hx hb dX2_compareAll_31 (by decide) ?_
        refine m_add hx hb dX2_compareAll_32 ?_
        refine lv_istore (lv' := [(5, .int (nI (i + 1))), (0, .ref o), (1, .int (nI v)), (2, .int (nI way)), (3, .int (nI nl)), (4, .int (nI i))]) hx hb dX2_compareAll_33 hl (by decide) rfl (fun ls hl => ?_)
        have loop_35 : ∀ (fu : Nat) (j k1 k2 : Nat) (kt ru : Nat → Nat) (hfu : nl - j < fu)  (hj : i + 1 ≤ j) (hj2 : j ≤ nl) (hkt : ∀ q, kt q ≤ 126) (hru : ∀ q, ru q ≤ 20) (hU : ∀ a b, a < nl → b < nl → (min a b < i ∨ (min a b = i ∧ max a b < j)) → ru (a * 20 + b) = rT way z g v nl a b) (H : Heap) (locs : List Loc) (hP : va_P D vwCl [(o, .inr (2, [.ref oc, .ref q0, .ref ra, .int (nI ll), .int (nI lo), .int (nI lt)])), (q0, .inr (3, [.ref q1, .int (nI k1), .int (nI k2)])), (q1, aN cI 26 kt), (ra, aN cI 400 ru), (oc, .inr (0, [.ref a1, .ref a2, .int (nI nl), .int (nI nv)])), (a1, aN cI 640 g), (a2, aN cI 80 z)] H) (hD : va_D A [(o, .inr (2, [.ref oc, .ref q0, .ref ra, .int (nI ll), .int (nI lo), .int (nI lt)])), (q0, .inr (3, [.ref q1, .int (nI k1), .int (nI k2)])), (q1, aN cI 26 kt), (ra, aN cI 400 ru), (oc, .inr (0, [.ref a1, .ref a2, .int (nI nl), .int (nI nv)])), (a1, aN cI 640 g), (a2, aN cI 80 z)]) (hS : va_S A s.heap H locs) (ls : Array Slot) (hl : lv_has ls 7 [(0, .ref o), (1, .int (nI v)), (2, .int (nI way)), (3, .int (nI nl)), (4, .int (nI i)), (5, .int (nI j))]), W p l e (headSpec wsX2_compareAll { frames := 5, cells := 0, slots := 0, locals := 122 }).room s m args below meth c H locs 0 0 Q (F0 m 35 ls []) := by
          intro fu
          induction fu with
          | zero => intro j k1 k2 kt ru hfu; exact absurd hfu (Nat.not_lt_zero _)
          | succ fu ih_35 =>
            intro j k1 k2 kt ru hfu hj hj2 hkt hru hU H locs hP hD hS ls hl
            refine lv_iload hx hb dX2_compareAll_35 (lv_at hl 5 rfl) ?_
            refine lv_iload_n hx hb dX2_compareAll_37 rfl (lv_at hl 3 rfl) ?_
            refine m_cmp_ge (tgt := 83) hx hb dX2_compareAll_38 (by decide) (by omega) (by omega) (fun c_38 => ?_) (fun c_38 => ?_)
            · refine lv_iinc (v := nI (i + 1)) (lv' := [(4, .int (nI (i + 1))), (0, .ref o), (1, .int (nI v)), (2, .int (nI way)), (3, .int (nI nl)), (5, .int (nI j))]) hx hb dX2_compareAll_83 hl (k := 4) rfl (by rw [nI_succ]; rfl) (by decide) rfl (fun ls hl => ?_)
              refine lv_goto (tgt := 11) hx hb dX2_compareAll_86 (by decide) ?_
              exact ih_11 (i + 1) k1 k2 kt ru (by omega) (by omega) hkt hru (fun a b ha hb h => hU a b ha hb (by omega)) _ _ hP hD hS ls (lv_sub hl [1, 2, 3, 4, 0] rfl)
            · refine lv_aload_n hx hb dX2_compareAll_41 rfl (lv_at hl 0 rfl) ?_
              refine lv_iload_n hx hb dX2_compareAll_42 rfl (lv_at hl 1 rfl) ?_
              refine lv_iload_n hx hb dX2_compareAll_43 rfl (lv_at hl 2 rfl) ?_
              refine lv_iload hx hb dX2_compareAll_44 (lv_at hl 4 rfl) ?_
              refine lv_iload hx hb dX2_compareAll_46 (lv_at hl 5 rfl) ?_
              refine lv_iload_n hx hb dX2_compareAll_48 rfl (lv_at hl 3 rfl) ?_
              refine lv_iload hx hb dX2_compareAll_49 (lv_at hl 5 rfl) ?_
              refine m_sub hx hb (by omega) dX2_compareAll_51 ?_
              refine m_wrV (As := [.int (nI v), .int (nI way), .int (nI i), .int (nI j), .int (nI (nl - j))]) (rest := []) (wc := [(o, .inr (2, [.ref oc, .ref q0, .ref ra, .int (nI ll), .int (nI lo), .int (nI lt)])), (q0, .inr (3, [.ref q1, .int (nI k1), .int (nI k2)])), (q1, aN cI 26 kt), (ra, aN cI 400 ru), (oc, .inr (0, [.ref a1, .ref a2, .int (nI nl), .int (nI nv)])), (a1, aN cI 640 g), (a2, aN cI 80 z)]) hcf (k_X2_linesAlike (l := l) (D := D) (cI := cI) (cZ := cZ) (v := v) (way := way) (one := i) (other := j) (most := nl - j) (o := o) (oc := oc) (q0 := q0) (ra := ra) (ll := ll) (lo := lo) (lt := lt) (q1 := q1) (n1 := k1) (n2 := k2) (pt := kt) (rc := ru) (a1 := a1) (a2 := a2) (nl := nl) (nv := nv) (g := g) (z := z) (hnl := hnl) (hnv := hnv) (hz := hz) (hg := hg) (hpt := hkt) (hw := hw) (hv := hv) (h1 := by omega) (h2 := by omega)) (cwV 5 hts gX2_compareAll_X2_linesAlike rfl rfl rfl yd_X2_linesAlike ⟨Nat.le_of_ble_eq_true rfl, Nat.le_of_ble_eq_true rfl⟩) hK hP hD hS [0, 1, 2, 3, 4, 5, 6] (by decide) rfl rfl rfl rfl hl.1 rfl (Nat.le_of_ble_eq_true rfl) dX2_compareAll_52 ⟨Nat.zero_le _, Nat.zero_le _⟩ (fun _ => rfl) (fun (u : Nat × Nat × (Nat → Nat)) => [(o, .inr (2, [.ref oc, .ref q0, .ref ra, .int (nI ll), .int (nI lo), .int (nI lt)])), (q0, .inr (3, [.ref q1, .int (nI u.1), .int (nI u.2.1)])), (q1, aN cI 26 u.2.2), (ra, aN cI 400 ru), (oc, .inr (0, [.ref a1, .ref a2, .int (nI nl), .int (nI nv)])), (a1, aN cI 640 g), (a2, aN cI 80 z)]) (fun _ => rfl) (fun r u H locs hp_52 hP hD hS => ?_)
              obtain ⟨n1u_52, n2u_52, ptu_52⟩ := u
              have hP : va_P D vwCl [(o, .inr (2, [.ref oc, .ref q0, .ref ra, .int (nI ll), .int (nI lo), .int (nI lt)])), (q0, .inr (3, [.ref q1, .int (nI n1u_52), .int (nI n2u_52)])), (q1, aN cI 26 ptu_52), (ra, aN cI 400 ru), (oc, .inr (0, [.ref a1, .ref a2, .int (nI nl), .int (nI nv)])), (a1, aN cI 640 g), (a2, aN cI 80 z)] H := hP
              have hD : va_D A [(o, .inr (2, [.ref oc, .ref q0, .ref ra, .int (nI ll), .int (nI lo), .int (nI lt)])), (q0, .inr (3, [.ref q1, .int (nI n1u_52), .int (nI n2u_52)])), (q1, aN cI 26 ptu_52), (ra, aN cI 400 ru), (oc, .inr (0, [.ref a1, .ref a2, .int (nI nl), .int (nI nv)])), (a1, aN cI 640 g), (a2, aN cI 80 z)] := hD
              obtain ⟨hr_hp_52, hp_52⟩ := hp_52
              rw [hr_hp_52]
              refine lv_istore (lv' := [(6, .int (nI (rlN way z g v i j (nl - j)))), (0, .ref o), (1, .int (nI v)), (2, .int (nI way)), (3, .int (nI nl)), (4, .int (nI i)), (5, .int (nI j))]) hx hb dX2_compareAll_55 hl (by decide) rfl (fun ls hl => ?_)
              refine lv_aload_n hx hb dX2_compareAll_57 rfl (lv_at hl 1 rfl) ?_
              refine lv_iload hx hb dX2_compareAll_58 (lv_at hl 5 rfl) ?_
              refine lv_iload hx hb dX2_compareAll_60 (lv_at hl 6 rfl) ?_
              refine lv_iload hx hb dX2_compareAll_62 (lv_at hl 0 rfl) ?_
              refine m_wvV (As := [.int (nI i), .int (nI j), .int (nI (rlN way z g v i j (nl - j)))]) (rest := []) (wc := [(o, .inr (2, [.ref oc, .ref q0, .ref ra, .int (nI ll), .int (nI lo), .int (nI lt)])), (q0, .inr (3, [.ref q1, .int (nI n1u_52), .int (nI n2u_52)])), (q1, aN cI 26 ptu_52), (ra, aN cI 400 ru), (oc, .inr (0, [.ref a1, .ref a2, .int (nI nl), .int (nI nv)])), (a1, aN cI 640 g), (a2, aN cI 80 z)]) hcf (k_X2_setReach (l := l) (D := D) (cI := cI) (cZ := cZ) (one := i) (other := j) (n := rlN way z g v i j (nl - j)) (o := o) (oc := oc) (q0 := q0) (ra := ra) (ll := ll) (lo := lo) (lt := lt) (q1 := q1) (n1 := n1u_52) (n2 := n2u_52) (pt := ptu_52) (rc := ru) (a1 := a1) (a2 := a2) (nl := nl) (nv := nv) (g := g) (z := z) (hnl := hnl) (hnv := hnv) (h1 := by omega) (h2 := by omega)) (cwV 3 hts gX2_compareAll_X2_setReach rfl rfl rfl yd_X2_setReach ⟨Nat.le_of_ble_eq_true rfl, Nat.le_of_ble_eq_true rfl⟩) hK hP hD hS [0, 1, 2, 3, 4, 5, 6] (by decide) rfl rfl rfl rfl hl.1 rfl (Nat.le_of_ble_eq_true rfl) dX2_compareAll_64 ⟨Nat.zero_le _, Nat.zero_le _⟩ (fun _ => rfl) (fun (u : Unit) => [(o, .inr (2, [.ref oc, .ref q0, .ref ra, .int (nI ll), .int (nI lo), .int (nI lt)])), (q0, .inr (3, [.ref q1, .int (nI n1u_52), .int (nI n2u_52)])), (q1, aN cI 26 ptu_52), (ra, aN cI 400 (upN ru (i * 20 + j) (rlN way z g v i j (nl - j)))), (oc, .inr (0, [.ref a1, .ref a2, .int (nI nl), .int (nI nv)])), (a1, aN cI 640 g), (a2, aN cI 80 z)]) (fun _ => rfl) (fun u H locs hp_64 hP hD hS => ?_)
              have hP : va_P D vwCl [(o, .inr (2, [.ref oc, .ref q0, .ref ra, .int (nI ll), .int (nI lo), .int (nI lt)])), (q0, .inr (3, [.ref q1, .int (nI n1u_52), .int (nI n2u_52)])), (q1, aN cI 26 ptu_52), (ra, aN cI 400 (upN ru (i * 20 + j) (rlN way z g v i j (nl - j)))), (oc, .inr (0, [.ref a1, .ref a2, .int (nI nl), .int (nI nv)])), (a1, aN cI 640 g), (a2, aN cI 80 z)] H := hP
              have hD : va_D A [(o, .inr (2, [.ref oc, .ref q0, .ref ra, .int (nI ll), .int (nI lo), .int (nI lt)])), (q0, .inr (3, [.ref q1, .int (nI n1u_52), .int (nI n2u_52)])), (q1, aN cI 26 ptu_52), (ra, aN cI 400 (upN ru (i * 20 + j) (rlN way z g v i j (nl - j)))), (oc, .inr (0, [.ref a1, .ref a2, .int (nI nl), .int (nI nv)])), (a1, aN cI 640 g), (a2, aN cI 80 z)] := hD
              refine lv_aload_n hx hb dX2_compareAll_67 rfl (lv_at hl 1 rfl) ?_
              refine lv_iload hx hb dX2_compareAll_68 (lv_at hl 6 rfl) ?_
              refine lv_iload hx hb dX2_compareAll_70 (lv_at hl 5 rfl) ?_
              refine lv_iload hx hb dX2_compareAll_72 (lv_at hl 0 rfl) ?_
              refine m_wvV (As := [.int (nI j), .int (nI i), .int (nI (rlN way z g v i j (nl - j)))]) (rest := []) (wc := [(o, .inr (2, [.ref oc, .ref q0, .ref ra, .int (nI ll), .int (nI lo), .int (nI lt)])), (q0, .inr (3, [.ref q1, .int (nI n1u_52), .int (nI n2u_52)])), (q1, aN cI 26 ptu_52), (ra, aN cI 400 (upN ru (i * 20 + j) (rlN way z g v i j (nl - j)))), (oc, .inr (0, [.ref a1, .ref a2, .int (nI nl), .int (nI nv)])), (a1, aN cI 640 g), (a2, aN cI 80 z)]) hcf (k_X2_setReach (l := l) (D := D) (cI := cI) (cZ := cZ) (one := j) (other := i) (n := rlN way z g v i j (nl - j)) (o := o) (oc := oc) (q0 := q0) (ra := ra) (ll := ll) (lo := lo) (lt := lt) (q1 := q1) (n1 := n1u_52) (n2 := n2u_52) (pt := ptu_52) (rc := upN ru (i * 20 + j) (rlN way z g v i j (nl - j))) (a1 := a1) (a2 := a2) (nl := nl) (nv := nv) (g := g) (z := z) (hnl := hnl) (hnv := hnv) (h1 := by omega) (h2 := by omega)) (cwV 3 hts gX2_compareAll_X2_setReach rfl rfl rfl yd_X2_setReach ⟨Nat.le_of_ble_eq_true rfl, Nat.le_of_ble_eq_true rfl⟩) hK hP hD hS [0, 1, 2, 3, 4, 5, 6] (by decide) rfl rfl rfl rfl hl.1 rfl (Nat.le_of_ble_eq_true rfl) dX2_compareAll_74 ⟨Nat.zero_le _, Nat.zero_le _⟩ (fun _ => rfl) (fun (u : Unit) => [(o, .inr (2, [.ref oc, .ref q0, .ref ra, .int (nI ll), .int (nI lo), .int (nI lt)])), (q0, .inr (3, [.ref q1, .int (nI n1u_52), .int (nI n2u_52)])), (q1, aN cI 26 ptu_52), (ra, aN cI 400 (upN (upN ru (i * 20 + j) (rlN way z g v i j (nl - j))) (j * 20 + i) (rlN way z g v i j (nl - j)))), (oc, .inr (0, [.ref a1, .ref a2, .int (nI nl), .int (nI nv)])), (a1, aN cI 640 g), (a2, aN cI 80 z)]) (fun _ => rfl) (fun u H locs hp_74 hP hD hS => ?_)
              have hP : va_P D vwCl [(o, .inr (2, [.ref oc, .ref q0, .ref ra, .int (nI ll), .int (nI lo), .int (nI lt)])), (q0, .inr (3, [.ref q1, .int (nI n1u_52), .int (nI n2u_52)])), (q1, aN cI 26 ptu_52), (ra, aN cI 400 (upN (upN ru (i * 20 + j) (rlN way z g v i j (nl - j))) (j * 20 + i) (rlN way z g v i j (nl - j)))), (oc, .inr (0, [.ref a1, .ref a2, .int (nI nl), .int (nI nv)])), (a1, aN cI 640 g), (a2, aN cI 80 z)] H := hP
              have hD : va_D A [(o, .inr (2, [.ref oc, .ref q0, .ref ra, .int (nI ll), .int (nI lo), .int (nI lt)])), (q0, .inr (3, [.ref q1, .int (nI n1u_52), .int (nI n2u_52)])), (q1, aN cI 26 ptu_52), (ra, aN cI 400 (upN (upN ru (i * 20 + j) (rlN way z g v i j (nl - j))) (j * 20 + i) (rlN way z g v i j (nl - j)))), (oc, .inr (0, [.ref a1, .ref a2, .int (nI nl), .int (nI nv)])), (a1, aN cI 640 g), (a2, aN cI 80 z)] := hD
              refine lv_iinc (v := nI (j + 1)) (lv' := [(5, .int (nI (j + 1))), (6, .int (nI (rlN way z g v i j (nl - j)))), (0, .ref o), (1, .int (nI v)), (2, .int (nI way)), (3, .int (nI nl)), (4, .int (nI i))]) hx hb dX2_compareAll_77 hl (k := 6) rfl (by rw [nI_succ]; rfl) (by decide) rfl (fun ls hl => ?_)
              refine lv_goto (tgt := 35) hx hb dX2_compareAll_80 (by decide) ?_
              have h9 := rlN_le way z g v i j (nl - j)
              exact ih_35 (j + 1) n1u_52 n2u_52 ptu_52 _ (by omega) (by omega) (by omega) hp_52.2.2.2.2.2.2 (upN_le (upN_le hru (by omega)) (by omega)) (cA_step hnl hj c_38 hU) _ _ hP hD hS ls (lv_sub hl [2, 3, 4, 5, 6, 0] rfl)
        exact loop_35 (nl + 1) (i + 1) m1 m2 mt _ (by omega) (by omega) (by omega) hmt (upN_le hrt (by omega)) (cA_in hnl c_14 hT) _ _ hP hD hS ls (lv_sub hl [1, 2, 3, 4, 5, 0] rfl)
  exact loop_11 (nl + 1) 0 n1 n2 pt rc (by omega) (by omega) hpt hrc (fun a b _ _ h => absurd h (Nat.not_lt_zero _)) _ _ hP hD hS ls (lv_sub hl [2, 3, 4, 1, 0] rfl)

theorem lgI_next {rc : Nat → Nat} {nl i j ll lo lt : Nat} (h : lgI rc nl i j ll lo lt) (hj : nl ≤ j) : lgI rc nl (i + 1) 0 ll lo lt := ⟨fun a b h1 h2 h3 => h.1 a b h1 h2 (by omega), h.2⟩
theorem lgI_in {rc : Nat → Nat} {nl i ll lo lt : Nat} (h : lgI rc nl i 0 ll lo lt) : lgI rc nl i (i + 1) ll lo lt := ⟨fun a b h1 h2 h3 => h.1 a b h1 h2 (by omega), h.2⟩
theorem lgV_le {rc : Nat → Nat} {nl i j : Nat} (h : ∀ q, rc q ≤ 20) : lgV rc nl i j ≤ 20 := Nat.le_trans (Nat.min_le_left _ _) (rcN_le h _ _ _)

theorem yd_X2_seekLongest : yX2_seekLongest.cls = RX2 ∧ yX2_seekLongest.cls ≠ "java/lang/invoke/MethodHandle" ∧ yX2_seekLongest.cls ≠ "java/lang/invoke/VarHandle" ∧ (parseMethodDescriptor yX2_seekLongest.desc).map (fun d => d.parameters.length) = some 0 := by decide +kernel
set_option maxHeartbeats 4000000 in
set_option maxRecDepth 100000 in
theorem k_X2_seekLongest (l : Launch) (D : va_G) (cI cZ : ClassId) (o q0 q1 ra oc a1 a2 ll lo lt n1 n2 nl nv : Nat) (pt rc z g : Nat → Nat) (hnl : nl ≤ 20) (hnv : nv ≤ 4) (hrc : ∀ j, rc j ≤ 20) : Met l yX2_seekLongest wsX2_seekLongest ({ frames := 2, cells := 0, slots := 0, locals := 43 }) (mPc [.ref o] D cI cZ [(o, .inr (2, [.ref oc, .ref q0, .ref ra, .int (nI ll), .int (nI lo), .int (nI lt)])), (q0, .inr (3, [.ref q1, .int (nI n1), .int (nI n2)])), (q1, aN cI 26 pt), (ra, aN cI 400 rc), (oc, .inr (0, [.ref a1, .ref a2, .int (nI nl), .int (nI nv)])), (a1, aN cI 640 g), (a2, aN cI 80 z)]) (mQv D (mA [(o, .inr (2, [.ref oc, .ref q0, .ref ra, .int (nI ll), .int (nI lo), .int (nI lt)])), (q0, .inr (3, [.ref q1, .int (nI n1), .int (nI n2)])), (q1, aN cI 26 pt), (ra, aN cI 400 rc), (oc, .inr (0, [.ref a1, .ref a2, .int (nI nl), .int (nI nv)])), (a1, aN cI 640 g), (a2, aN cI 80 z)]) (fun (u : Nat × Nat × Nat) => lgI rc nl nl 0 u.1 u.2.1 u.2.2 ∧ u.1 ≤ 20) (fun (u : Nat × Nat × Nat) => [(o, .inr (2, [.ref oc, .ref q0, .ref ra, .int (nI u.1), .int (nI u.2.1), .int (nI u.2.2)])), (q0, .inr (3, [.ref q1, .int (nI n1), .int (nI n2)])), (q1, aN cI 26 pt), (ra, aN cI 400 rc), (oc, .inr (0, [.ref a1, .ref a2, .int (nI nl), .int (nI nv)])), (a1, aN cI 640 g), (a2, aN cI 80 z)])) 0 0 (mA [(o, .inr (2, [.ref oc, .ref q0, .ref ra, .int (nI ll), .int (nI lo), .int (nI lt)])), (q0, .inr (3, [.ref q1, .int (nI n1), .int (nI n2)])), (q1, aN cI 26 pt), (ra, aN cI 400 rc), (oc, .inr (0, [.ref a1, .ref a2, .int (nI nl), .int (nI nv)])), (a1, aN cI 640 g), (a2, aN cI 80 z)]) := by
  refine Met.ofW (cc := cX2_seekLongest) (maxL := 4) (ret := none) (by decide) rfl ?_
  intro p e s m args below meth c s₁ BB hml hv
  obtain ⟨hargs, hP, hD0, hK⟩ := hv
  have hx := BB.exec
  have hb := BB.bytes
  have hr := BB.returns
  have hts := atoms_spec (ws := wsX2_seekLongest) BB.pre
  have hown : s.vm.findClass RX2 = some m.cls := findClass_of_methodNamed BB.named
  have hlocks := BB.notSynchronized
  have hcf : CallFix p m c cX2_seekLongest 4 s args wsX2_seekLongest RX2 := ⟨hx, hb, hml, hown, hts⟩
  obtain ⟨A, hAe⟩ : ∃ A, A = mA [(o, .inr (2, [.ref oc, .ref q0, .ref ra, .int (nI ll), .int (nI lo), .int (nI lt)])), (q0, .inr (3, [.ref q1, .int (nI n1), .int (nI n2)])), (q1, aN cI 26 pt), (ra, aN cI 400 rc), (oc, .inr (0, [.ref a1, .ref a2, .int (nI nl), .int (nI nv)])), (a1, aN cI 640 g), (a2, aN cI 80 z)] := ⟨_, rfl⟩
  have hD : va_D A [(o, .inr (2, [.ref oc, .ref q0, .ref ra, .int (nI ll), .int (nI lo), .int (nI lt)])), (q0, .inr (3, [.ref q1, .int (nI n1), .int (nI n2)])), (q1, aN cI 26 pt), (ra, aN cI 400 rc), (oc, .inr (0, [.ref a1, .ref a2, .int (nI nl), .int (nI nv)])), (a1, aN cI 640 g), (a2, aN cI 80 z)] := ⟨hD0.1, fun k q h => by rw [hAe]; exact ⟨k, q.2, h⟩⟩
  have hS : va_S A s.heap s.heap [] := va_S.rf
  rw [← hAe]
  rw [hargs, lg_entry_eq, ← hargs]
  have hl := lv_entry ([.ref o]) (n := 4) (Nat.le_of_ble_eq_true rfl)
  generalize (lg_sl ([.ref o]) ++ List.replicate (4 - (lg_sl ([.ref o])).length) Slot.unset).toArray = ls at hl ⊢
  have hl : lv_has ls 4 [(0, .ref o)] := hl
  obtain ⟨Q, hQ⟩ : ∃ Q, Q = MQ below (mQv D A (fun (u : Nat × Nat × Nat) => lgI rc nl nl 0 u.1 u.2.1 u.2.2 ∧ u.1 ≤ 20) (fun (u : Nat × Nat × Nat) => [(o, .inr (2, [.ref oc, .ref q0, .ref ra, .int (nI u.1), .int (nI u.2.1), .int (nI u.2.2)])), (q0, .inr (3, [.ref q1, .int (nI n1), .int (nI n2)])), (q1, aN cI 26 pt), (ra, aN cI 400 rc), (oc, .inr (0, [.ref a1, .ref a2, .int (nI nl), .int (nI nv)])), (a1, aN cI 640 g), (a2, aN cI 80 z)])) args s 0 0 A := ⟨_, rfl⟩
  rw [← hQ]
  have i_X2 : ∀ w ∈ u_ws RX2 TX2 6, w ∈ wsX2_seekLongest := by decide +kernel
  have f_22 := hts (.fieldLink RX2 22 "SameAgain$Likeness" "longestLength" "I") (by decide +kernel)
  have f_32 := hts (.fieldLink RX2 32 "SameAgain$Likeness" "code" "LSameAgain$Code;") (by decide +kernel)
  have l_94 := hts (.methodLink RX2 94 Lib.Math.min.name) (by decide +kernel)
  have ls_min := hts (.static Lib.Math.min.name) (by decide +kernel)
  have l_math := hts (.initialized "java/lang/Math") (by decide +kernel)
  have lc_min := hts (.code Lib.Math.min.name Lib.Math.min.code 2 (some .int)) (by decide +kernel)
  have f_26 := hts (.fieldLink RX2 26 "SameAgain$Likeness" "longestOne" "I") (by decide +kernel)
  have f_29 := hts (.fieldLink RX2 29 "SameAgain$Likeness" "longestOther" "I") (by decide +kernel)
  refine lv_aload_n hx hb dX2_seekLongest_0 rfl (lv_at hl 0 rfl) ?_
  refine lv_iconst (v := nI 0) hx hb dX2_seekLongest_1 (by decide) ?_
  refine va_put (D := D) (ci := 2) (v := .int (nI 0)) (ty := .int) (C := RX2) (T := TX2) (N := 6) hx hb hts i_X2 tyX2 tyX2_ok nmX2 hown hK.1 hP hD hS 0 rfl rfl 3 (by decide) f_22 (fun _ h9 => h9) rfl (by decide +kernel) rfl rfl (Nat.le_of_ble_eq_true rfl) dX2_seekLongest_2 (fun H locs hP hD hS => ?_)
  have hP : va_P D vwCl [(o, .inr (2, [.ref oc, .ref q0, .ref ra, .int (nI 0), .int (nI lo), .int (nI lt)])), (q0, .inr (3, [.ref q1, .int (nI n1), .int (nI n2)])), (q1, aN cI 26 pt), (ra, aN cI 400 rc), (oc, .inr (0, [.ref a1, .ref a2, .int (nI nl), .int (nI nv)])), (a1, aN cI 640 g), (a2, aN cI 80 z)] H := hP
  have hD : va_D A [(o, .inr (2, [.ref oc, .ref q0, .ref ra, .int (nI 0), .int (nI lo), .int (nI lt)])), (q0, .inr (3, [.ref q1, .int (nI n1), .int (nI n2)])), (q1, aN cI 26 pt), (ra, aN cI 400 rc), (oc, .inr (0, [.ref a1, .ref a2, .int (nI nl), .int (nI nv)])), (a1, aN cI 640 g), (a2, aN cI 80 z)] := hD
  refine lv_iconst (v := nI 0) hx hb dX2_seekLongest_5 (by decide) ?_
  refine lv_istore_n (lv' := [(1, .int (nI 0)), (0, .ref o)]) hx hb dX2_seekLongest_6 rfl hl (by decide) rfl (fun ls hl => ?_)
  have loop_7 : ∀ (fu : Nat) (i w1 w2 w3 : Nat) (hfu : nl - i < fu)  (hi : i ≤ nl) (hw1 : w1 ≤ 20) (hI : lgI rc nl i 0 w1 w2 w3) (H : Heap) (locs : List Loc) (hP : va_P D vwCl [(o, .inr (2, [.ref oc, .ref q0, .ref ra, .int (nI w1), .int (nI w2), .int (nI w3)])), (q0, .inr (3, [.ref q1, .int (nI n1), .int (nI n2)])), (q1, aN cI 26 pt), (ra, aN cI 400 rc), (oc, .inr (0, [.ref a1, .ref a2, .int (nI nl), .int (nI nv)])), (a1, aN cI 640 g), (a2, aN cI 80 z)] H) (hD : va_D A [(o, .inr (2, [.ref oc, .ref q0, .ref ra, .int (nI w1), .int (nI w2), .int (nI w3)])), (q0, .inr (3, [.ref q1, .int (nI n1), .int (nI n2)])), (q1, aN cI 26 pt), (ra, aN cI 400 rc), (oc, .inr (0, [.ref a1, .ref a2, .int (nI nl), .int (nI nv)])), (a1, aN cI 640 g), (a2, aN cI 80 z)]) (hS : va_S A s.heap H locs) (ls : Array Slot) (hl : lv_has ls 4 [(0, .ref o), (1, .int (nI i))]), W p l e (headSpec wsX2_seekLongest { frames := 2, cells := 0, slots := 0, locals := 43 }).room s m args below meth c H locs 0 0 Q (F0 m 7 ls []) := by
    intro fu
    induction fu with
    | zero => intro i w1 w2 w3 hfu; exact absurd hfu (Nat.not_lt_zero _)
    | succ fu ih_7 =>
      intro i w1 w2 w3 hfu hi hw1 hI H locs hP hD hS ls hl
      refine lv_iload_n hx hb dX2_seekLongest_7 rfl (lv_at hl 1 rfl) ?_
      refine lv_aload_n hx hb dX2_seekLongest_8 rfl (lv_at hl 0 rfl) ?_
      refine va_get (D := D) (ci := 2) (v := .ref oc) (C := RX2) (T := TX2) (N := 6) hx hb hts i_X2 hown hK.1 hP 0 rfl rfl 0 (by decide) f_32 (fun _ h9 => h9) rfl dX2_seekLongest_9 ?_
      refine m_rdV (As := []) (rest := [.int (nI i)]) (wc := [(oc, .inr (0, [.ref a1, .ref a2, .int (nI nl), .int (nI nv)])), (a1, aN cI 640 g), (a2, aN cI 80 z)]) hcf (k_X0_lines (l := l) (D := D) (cI := cI) (cZ := cZ) (o := oc) (a1 := a1) (a2 := a2) (nl := nl) (nv := nv) (g := g) (z := z) ) (cwV 0 hts gX2_seekLongest_X0_lines rfl rfl rfl yd_X0_lines ⟨Nat.le_of_ble_eq_true rfl, Nat.le_of_ble_eq_true rfl⟩) (m_preV hK hP hD [4, 5, 6] (by decide) rfl rfl rfl) rfl hl.1 rfl (Nat.le_of_ble_eq_true rfl) dX2_seekLongest_12 ⟨Nat.zero_le _, Nat.zero_le _⟩ ?_
      refine m_cmp_ge (tgt := 81) hx hb dX2_seekLongest_15 (by decide) (by omega) (by omega) (fun c_15 => ?_) (fun c_15 => ?_)
      · rw [hQ]
        have e9 : i = nl := by omega
        exact m_vwr hx hb hr hlocks (w1, w2, w3) (⟨by rw [e9] at hI; exact hI, hw1⟩) hP hS dX2_seekLongest_81
      · refine lv_iload_n hx hb dX2_seekLongest_18 rfl (lv_at hl 1 rfl) ?_
        refine lv_iconst (v := nI 1) hx hb dX2_seekLongest_19 (by decide) ?_
        refine m_add hx hb dX2_seekLongest_20 ?_
        refine lv_istore_n (lv' := [(2, .int (nI (i + 1))), (0, .ref o), (1, .int (nI i))]) hx hb dX2_seekLongest_21 rfl hl (by decide) rfl (fun ls hl => ?_)
        have loop_22 : ∀ (fu : Nat) (j y1 y2 y3 : Nat) (hfu : nl - j < fu)  (hj : i + 1 ≤ j) (hj2 : j ≤ nl) (hy1 : y1 ≤ 20) (hJ : lgI rc nl i j y1 y2 y3) (H : Heap) (locs : List Loc) (hP : va_P D vwCl [(o, .inr (2, [.ref oc, .ref q0, .ref ra, .int (nI y1), .int (nI y2), .int (nI y3)])), (q0, .inr (3, [.ref q1, .int (nI n1), .int (nI n2)])), (q1, aN cI 26 pt), (ra, aN cI 400 rc), (oc, .inr (0, [.ref a1, .ref a2, .int (nI nl), .int (nI nv)])), (a1, aN cI 640 g), (a2, aN cI 80 z)] H) (hD : va_D A [(o, .inr (2, [.ref oc, .ref q0, .ref ra, .int (nI y1), .int (nI y2), .int (nI y3)])), (q0, .inr (3, [.ref q1, .int (nI n1), .int (nI n2)])), (q1, aN cI 26 pt), (ra, aN cI 400 rc), (oc, .inr (0, [.ref a1, .ref a2, .int (nI nl), .int (nI nv)])), (a1, aN cI 640 g), (a2, aN cI 80 z)]) (hS : va_S A s.heap H locs) (ls : Array Slot) (hl : lv_has ls 4 [(0, .ref o), (1, .int (nI i)), (2, .int (nI j))]), W p l e (headSpec wsX2_seekLongest { frames := 2, cells := 0, slots := 0, locals := 43 }).room s m args below meth c H locs 0 0 Q (F0 m 22 ls []) := by
          intro fu
          induction fu with
          | zero => intro j y1 y2 y3 hfu; exact absurd hfu (Nat.not_lt_zero _)
          | succ fu ih_22 =>
            intro j y1 y2 y3 hfu hj hj2 hy1 hJ H locs hP hD hS ls hl
            refine lv_iload_n hx hb dX2_seekLongest_22 rfl (lv_at hl 2 rfl) ?_
            refine lv_aload_n hx hb dX2_seekLongest_23 rfl (lv_at hl 0 rfl) ?_
            refine va_get (D := D) (ci := 2) (v := .ref oc) (C := RX2) (T := TX2) (N := 6) hx hb hts i_X2 hown hK.1 hP 0 rfl rfl 0 (by decide) f_32 (fun _ h9 => h9) rfl dX2_seekLongest_24 ?_
            refine m_rdV (As := []) (rest := [.int (nI j)]) (wc := [(oc, .inr (0, [.ref a1, .ref a2, .int (nI nl), .int (nI nv)])), (a1, aN cI 640 g), (a2, aN cI 80 z)]) hcf (k_X0_lines (l := l) (D := D) (cI := cI) (cZ := cZ) (o := oc) (a1 := a1) (a2 := a2) (nl := nl) (nv := nv) (g := g) (z := z) ) (cwV 0 hts gX2_seekLongest_X0_lines rfl rfl rfl yd_X0_lines ⟨Nat.le_of_ble_eq_true rfl, Nat.le_of_ble_eq_true rfl⟩) (m_preV hK hP hD [4, 5, 6] (by decide) rfl rfl rfl) rfl hl.1 rfl (Nat.le_of_ble_eq_true rfl) dX2_seekLongest_27 ⟨Nat.zero_le _, Nat.zero_le _⟩ ?_
            refine m_cmp_ge (tgt := 75) hx hb dX2_seekLongest_30 (by decide) (by omega) (by omega) (fun c_30 => ?_) (fun c_30 => ?_)
            · refine lv_iinc (v := nI (i + 1)) (lv' := [(1, .int (nI (i + 1))), (0, .ref o), (2, .int (nI j))]) hx hb dX2_seekLongest_75 hl (k := 1) rfl (by rw [nI_succ]; rfl) (by decide) rfl (fun ls hl => ?_)
              refine lv_goto (tgt := 7) hx hb dX2_seekLongest_78 (by decide) ?_
              exact ih_7 (i + 1) y1 y2 y3 (by omega) (by omega) hy1 (lgI_next hJ c_30) _ _ hP hD hS ls (lv_sub hl [1, 0] rfl)
            · refine lv_aload_n hx hb dX2_seekLongest_33 rfl (lv_at hl 0 rfl) ?_
              refine lv_iload_n hx hb dX2_seekLongest_34 rfl (lv_at hl 1 rfl) ?_
              refine lv_iload_n hx hb dX2_seekLongest_35 rfl (lv_at hl 2 rfl) ?_
              refine m_rdV (As := [.int (nI i), .int (nI j)]) (rest := []) (wc := [(o, .inr (2, [.ref oc, .ref q0, .ref ra, .int (nI y1), .int (nI y2), .int (nI y3)])), (q0, .inr (3, [.ref q1, .int (nI n1), .int (nI n2)])), (q1, aN cI 26 pt), (ra, aN cI 400 rc), (oc, .inr (0, [.ref a1, .ref a2, .int (nI nl), .int (nI nv)])), (a1, aN cI 640 g), (a2, aN cI 80 z)]) hcf (k_X2_reachOf (l := l) (D := D) (cI := cI) (cZ := cZ) (one := i) (other := j) (o := o) (oc := oc) (q0 := q0) (ra := ra) (ll := y1) (lo := y2) (lt := y3) (q1 := q1) (n1 := n1) (n2 := n2) (pt := pt) (rc := rc) (a1 := a1) (a2 := a2) (nl := nl) (nv := nv) (g := g) (z := z) (hnl := hnl) (hnv := hnv) (h1 := by omega) (h2 := by omega) (hrc := hrc)) (cwV 2 hts gX2_seekLongest_X2_reachOf rfl rfl rfl yd_X2_reachOf ⟨Nat.le_of_ble_eq_true rfl, Nat.le_of_ble_eq_true rfl⟩) (m_preV hK hP hD [0, 1, 2, 3, 4, 5, 6] (by decide) rfl rfl rfl) rfl hl.1 rfl (Nat.le_of_ble_eq_true rfl) dX2_seekLongest_36 ⟨Nat.zero_le _, Nat.zero_le _⟩ ?_
              refine lv_iload_n hx hb dX2_seekLongest_39 rfl (lv_at hl 2 rfl) ?_
              refine lv_iload_n hx hb dX2_seekLongest_40 rfl (lv_at hl 1 rfl) ?_
              refine m_sub hx hb (by omega) dX2_seekLongest_41 ?_
              refine va_mmin hx hb (hml.trans hl.1.symm) hown l_94 ls_min l_math lc_min (Nat.le_of_ble_eq_true rfl) (Nat.le_of_ble_eq_true rfl) (Nat.zero_le _) (Nat.zero_le _) dX2_seekLongest_42 ?_
              refine m_top (y := nI (min (rcN rc nl i j) (j - i))) (m_minE (Nat.lt_of_le_of_lt (rcN_le hrc _ _ _) (by decide)) (by omega)) ?_
              have hv9 : lgV rc nl i j ≤ 20 := lgV_le hrc
              refine lv_istore_n (lv' := [(3, .int (nI (min (rcN rc nl i j) (j - i)))), (0, .ref o), (1, .int (nI i)), (2, .int (nI j))]) hx hb dX2_seekLongest_45 rfl hl (by decide) rfl (fun ls hl => ?_)
              refine lv_iload_n hx hb dX2_seekLongest_46 rfl (lv_at hl 0 rfl) ?_
              refine lv_aload_n hx hb dX2_seekLongest_47 rfl (lv_at hl 1 rfl) ?_
              refine va_get (D := D) (ci := 2) (v := .int (nI y1)) (C := RX2) (T := TX2) (N := 6) hx hb hts i_X2 hown hK.1 hP 0 rfl rfl 3 (by decide) f_22 (fun _ h9 => h9) rfl dX2_seekLongest_48 ?_
              refine m_cmp_le (tgt := 69) hx hb dX2_seekLongest_51 (by decide) (Nat.lt_of_le_of_lt hv9 (by decide)) (by omega) (fun c_51 => ?_) (fun c_51 => ?_)
              · refine lv_iinc (v := nI (j + 1)) (lv' := [(2, .int (nI (j + 1))), (3, .int (nI (min (rcN rc nl i j) (j - i)))), (0, .ref o), (1, .int (nI i))]) hx hb dX2_seekLongest_69 hl (k := 3) rfl (by rw [nI_succ]; rfl) (by decide) rfl (fun ls hl => ?_)
                refine lv_goto (tgt := 22) hx hb dX2_seekLongest_72 (by decide) ?_
                exact ih_22 (j + 1) y1 y2 y3 (by omega) (by omega) (by omega) hy1 (lgI_keep hJ c_51) _ _ hP hD hS ls (lv_sub hl [2, 3, 0] rfl)
              · refine lv_aload_n hx hb dX2_seekLongest_54 rfl (lv_at hl 1 rfl) ?_
                refine lv_iload_n hx hb dX2_seekLongest_55 rfl (lv_at hl 0 rfl) ?_
                refine va_put (D := D) (ci := 2) (v := .int (nI (min (rcN rc nl i j) (j - i)))) (ty := .int) (C := RX2) (T := TX2) (N := 6) hx hb hts i_X2 tyX2 tyX2_ok nmX2 hown hK.1 hP hD hS 0 rfl rfl 3 (by decide) f_22 (fun _ h9 => h9) rfl (by decide +kernel) rfl rfl (Nat.le_of_ble_eq_true rfl) dX2_seekLongest_56 (fun H locs hP hD hS => ?_)
                have hP : va_P D vwCl [(o, .inr (2, [.ref oc, .ref q0, .ref ra, .int (nI (min (rcN rc nl i j) (j - i))), .int (nI y2), .int (nI y3)])), (q0, .inr (3, [.ref q1, .int (nI n1), .int (nI n2)])), (q1, aN cI 26 pt), (ra, aN cI 400 rc), (oc, .inr (0, [.ref a1, .ref a2, .int (nI nl), .int (nI nv)])), (a1, aN cI 640 g), (a2, aN cI 80 z)] H := hP
                have hD : va_D A [(o, .inr (2, [.ref oc, .ref q0, .ref ra, .int (nI (min (rcN rc nl i j) (j - i))), .int (nI y2), .int (nI y3)])), (q0, .inr (3, [.ref q1, .int (nI n1), .int (nI n2)])), (q1, aN cI 26 pt), (ra, aN cI 400 rc), (oc, .inr (0, [.ref a1, .ref a2, .int (nI nl), .int (nI nv)])), (a1, aN cI 640 g), (a2, aN cI 80 z)] := hD
                refine lv_aload_n hx hb dX2_seekLongest_59 rfl (lv_at hl 1 rfl) ?_
                refine lv_iload_n hx hb dX2_seekLongest_60 rfl (lv_at hl 2 rfl) ?_
                refine va_put (D := D) (ci := 2) (v := .int (nI i)) (ty := .int) (C := RX2) (T := TX2) (N := 6) hx hb hts i_X2 tyX2 tyX2_ok nmX2 hown hK.1 hP hD hS 0 rfl rfl 4 (by decide) f_26 (fun _ h9 => h9) rfl (by decide +kernel) rfl rfl (Nat.le_of_ble_eq_true rfl) dX2_seekLongest_61 (fun H locs hP hD hS => ?_)
                have hP : va_P D vwCl [(o, .inr (2, [.ref oc, .ref q0, .ref ra, .int (nI (min (rcN rc nl i j) (j - i))), .int (nI i), .int (nI y3)])), (q0, .inr (3, [.ref q1, .int (nI n1), .int (nI n2)])), (q1, aN cI 26 pt), (ra, aN cI 400 rc), (oc, .inr (0, [.ref a1, .ref a2, .int (nI nl), .int (nI nv)])), (a1, aN cI 640 g), (a2, aN cI 80 z)] H := hP
                have hD : va_D A [(o, .inr (2, [.ref oc, .ref q0, .ref ra, .int (nI (min (rcN rc nl i j) (j - i))), .int (nI i), .int (nI y3)])), (q0, .inr (3, [.ref q1, .int (nI n1), .int (nI n2)])), (q1, aN cI 26 pt), (ra, aN cI 400 rc), (oc, .inr (0, [.ref a1, .ref a2, .int (nI nl), .int (nI nv)])), (a1, aN cI 640 g), (a2, aN cI 80 z)] := hD
                refine lv_aload_n hx hb dX2_seekLongest_64 rfl (lv_at hl 1 rfl) ?_
                refine lv_iload_n hx hb dX2_seekLongest_65 rfl (lv_at hl 3 rfl) ?_
                refine va_put (D := D) (ci := 2) (v := .int (nI j)) (ty := .int) (C := RX2) (T := TX2) (N := 6) hx hb hts i_X2 tyX2 tyX2_ok nmX2 hown hK.1 hP hD hS 0 rfl rfl 5 (by decide) f_29 (fun _ h9 => h9) rfl (by decide +kernel) rfl rfl (Nat.le_of_ble_eq_true rfl) dX2_seekLongest_66 (fun H locs hP hD hS => ?_)
                have hP : va_P D vwCl [(o, .inr (2, [.ref oc, .ref q0, .ref ra, .int (nI (min (rcN rc nl i j) (j - i))), .int (nI i), .int (nI j)])), (q0, .inr (3, [.ref q1, .int (nI n1), .int (nI n2)])), (q1, aN cI 26 pt), (ra, aN cI 400 rc), (oc, .inr (0, [.ref a1, .ref a2, .int (nI nl), .int (nI nv)])), (a1, aN cI 640 g), (a2, aN cI 80 z)] H := hP
                have hD : va_D A [(o, .inr (2, [.ref oc, .ref q0, .ref ra, .int (nI (min (rcN rc nl i j) (j - i))), .int (nI i), .int (nI j)])), (q0, .inr (3, [.ref q1, .int (nI n1), .int (nI n2)])), (q1, aN cI 26 pt), (ra, aN cI 400 rc), (oc, .inr (0, [.ref a1, .ref a2, .int (nI nl), .int (nI nv)])), (a1, aN cI 640 g), (a2, aN cI 80 z)] := hD
                refine lv_iinc (v := nI (j + 1)) (lv' := [(2, .int (nI (j + 1))), (3, .int (nI (min (rcN rc nl i j) (j - i)))), (0, .ref o), (1, .int (nI i))]) hx hb dX2_seekLongest_69 hl (k := 3) rfl (by rw [nI_succ]; rfl) (by decide) rfl (fun ls hl => ?_)
                refine lv_goto (tgt := 22) hx hb dX2_seekLongest_72 (by decide) ?_
                exact ih_22 (j + 1) _ _ _ (by omega) (by omega) (by omega) hv9 (lgI_new hJ (by omega) c_30 c_51) _ _ hP hD hS ls (lv_sub hl [2, 3, 0] rfl)
        exact loop_22 (nl + 1) (i + 1) w1 w2 w3 (by omega) (by omega) (by omega) hw1 (lgI_in hI) _ _ hP hD hS ls (lv_sub hl [1, 2, 0] rfl)
  exact loop_7 (nl + 1) 0 0 lo lt (by omega) (by omega) (by omega) (lgI_0 _ _ _ _) _ _ hP hD hS ls (lv_sub hl [1, 0] rfl)

theorem yd_X2_startsLike : yX2_startsLike.cls = RX2 ∧ yX2_startsLike.cls ≠ "java/lang/invoke/MethodHandle" ∧ yX2_startsLike.cls ≠ "java/lang/invoke/VarHandle" ∧ (parseMethodDescriptor yX2_startsLike.desc).map (fun d => d.parameters.length) = some 2 := by decide +kernel
set_option maxHeartbeats 4000000 in
set_option maxRecDepth 100000 in
theorem k_X2_startsLike (l : Launch) (D : va_G) (cI cZ : ClassId) (o q0 q1 ra oc a1 a2 ll lo lt n1 n2 nl nv : Nat) (pt rc z g : Nat → Nat) (start n : Nat) (hnl : nl ≤ 20) (hnv : nv ≤ 4) (hrc : ∀ j, rc j ≤ 20) (h1 : start ≤ 20) (hn : n ≤ 21) : Met l yX2_startsLike wsX2_startsLike ({ frames := 2, cells := 0, slots := 0, locals := 43 }) (mPc [.ref o, .int (nI start), .int (nI n)] D cI cZ [(o, .inr (2, [.ref oc, .ref q0, .ref ra, .int (nI ll), .int (nI lo), .int (nI lt)])), (q0, .inr (3, [.ref q1, .int (nI n1), .int (nI n2)])), (q1, aN cI 26 pt), (ra, aN cI 400 rc), (oc, .inr (0, [.ref a1, .ref a2, .int (nI nl), .int (nI nv)])), (a1, aN cI 640 g), (a2, aN cI 80 z)]) (QcRead (nI (slN rc nl start n))) 0 0 (fun _ => False) := by
  refine Met.ofW (cc := cX2_startsLike) (maxL := 5) (ret := (some .int)) (by decide) rfl ?_
  intro p e s m args below meth c s₁ BB hml hv
  obtain ⟨hargs, hP, hD0, hK⟩ := hv
  have hx := BB.exec
  have hb := BB.bytes
  have hr := BB.returns
  have hts := atoms_spec (ws := wsX2_startsLike) BB.pre
  have hown : s.vm.findClass RX2 = some m.cls := findClass_of_methodNamed BB.named
  have hlocks := BB.notSynchronized
  have hcf : CallFix p m c cX2_startsLike 5 s args wsX2_startsLike RX2 := ⟨hx, hb, hml, hown, hts⟩
  have hD := hD0
  rw [hargs, lg_entry_eq, ← hargs]
  have hl := lv_entry ([.ref o, .int (nI start), .int (nI n)]) (n := 5) (Nat.le_of_ble_eq_true rfl)
  generalize (lg_sl ([.ref o, .int (nI start), .int (nI n)]) ++ List.replicate (5 - (lg_sl ([.ref o, .int (nI start), .int (nI n)])).length) Slot.unset).toArray = ls at hl ⊢
  have hl : lv_has ls 5 [(0, .ref o), (1, .int (nI start)), (2, .int (nI n))] := hl
  obtain ⟨Q, hQ⟩ : ∃ Q, Q = MQ below (QcRead (nI (slN rc nl start n))) args s 0 0 (fun _ => False) := ⟨_, rfl⟩
  rw [← hQ]
  have i_X2 : ∀ w ∈ u_ws RX2 TX2 6, w ∈ wsX2_startsLike := by decide +kernel
  have f_32 := hts (.fieldLink RX2 32 "SameAgain$Likeness" "code" "LSameAgain$Code;") (by decide +kernel)
  refine lv_iconst (v := nI 0) hx hb dX2_startsLike_0 (by decide) ?_
  refine lv_istore_n (lv' := [(3, .int (nI 0)), (0, .ref o), (1, .int (nI start)), (2, .int (nI n))]) hx hb dX2_startsLike_1 rfl hl (by decide) rfl (fun ls hl => ?_)
  refine lv_iconst (v := nI 0) hx hb dX2_startsLike_2 (by decide) ?_
  refine lv_istore (lv' := [(4, .int (nI 0)), (3, .int (nI 0)), (0, .ref o), (1, .int (nI start)), (2, .int (nI n))]) hx hb dX2_startsLike_3 hl (by decide) rfl (fun ls hl => ?_)
  have loop_5 : ∀ (fu : Nat) (k f : Nat) (hfu : nl - k < fu)  (hk : k ≤ nl) (hf : f = mkN (fun oo => decide (n ≤ rcN rc nl start oo)) k) (ls : Array Slot) (hl : lv_has ls 5 [(0, .ref o), (1, .int (nI start)), (2, .int (nI n)), (3, .int (nI f)), (4, .int (nI k))]), W p l e (headSpec wsX2_startsLike { frames := 2, cells := 0, slots := 0, locals := 43 }).room s m args below meth c s.heap [] 0 0 Q (F0 m 5 ls []) := by
    intro fu
    induction fu with
    | zero => intro k f hfu; exact absurd hfu (Nat.not_lt_zero _)
    | succ fu ih_5 =>
      intro k f hfu hk hf ls hl
      refine lv_iload hx hb dX2_startsLike_5 (lv_at hl 4 rfl) ?_
      refine lv_aload_n hx hb dX2_startsLike_7 rfl (lv_at hl 0 rfl) ?_
      refine va_get (D := D) (ci := 2) (v := .ref oc) (C := RX2) (T := TX2) (N := 6) hx hb hts i_X2 hown hK.1 hP 0 rfl rfl 0 (by decide) f_32 (fun _ h9 => h9) rfl dX2_startsLike_8 ?_
      refine m_rdV (As := []) (rest := [.int (nI k)]) (wc := [(oc, .inr (0, [.ref a1, .ref a2, .int (nI nl), .int (nI nv)])), (a1, aN cI 640 g), (a2, aN cI 80 z)]) hcf (k_X0_lines (l := l) (D := D) (cI := cI) (cZ := cZ) (o := oc) (a1 := a1) (a2 := a2) (nl := nl) (nv := nv) (g := g) (z := z) ) (cwV 0 hts gX2_startsLike_X0_lines rfl rfl rfl yd_X0_lines ⟨Nat.le_of_ble_eq_true rfl, Nat.le_of_ble_eq_true rfl⟩) (m_preV hK hP hD [4, 5, 6] (by decide) rfl rfl rfl) rfl hl.1 rfl (Nat.le_of_ble_eq_true rfl) dX2_startsLike_11 ⟨Nat.zero_le _, Nat.zero_le _⟩ ?_
      refine m_cmp_ge (tgt := 41) hx hb dX2_startsLike_14 (by decide) (by omega) (by omega) (fun c_14 => ?_) (fun c_14 => ?_)
      · refine lv_iload_n hx hb dX2_startsLike_41 rfl (lv_at hl 3 rfl) ?_
        rw [hQ]
        have e9 : k = nl := by omega
        exact m_ird hx hb hr hlocks (by rw [hf, e9]; rfl) dX2_startsLike_42
      · refine lv_aload_n hx hb dX2_startsLike_17 rfl (lv_at hl 0 rfl) ?_
        refine lv_iload_n hx hb dX2_startsLike_18 rfl (lv_at hl 1 rfl) ?_
        refine lv_iload hx hb dX2_startsLike_19 (lv_at hl 4 rfl) ?_
        refine m_rdV (As := [.int (nI start), .int (nI k)]) (rest := []) (wc := [(o, .inr (2, [.ref oc, .ref q0, .ref ra, .int (nI ll), .int (nI lo), .int (nI lt)])), (q0, .inr (3, [.ref q1, .int (nI n1), .int (nI n2)])), (q1, aN cI 26 pt), (ra, aN cI 400 rc), (oc, .inr (0, [.ref a1, .ref a2, .int (nI nl), .int (nI nv)])), (a1, aN cI 640 g), (a2, aN cI 80 z)]) hcf (k_X2_reachOf (l := l) (D := D) (cI := cI) (cZ := cZ) (one := start) (other := k) (o := o) (oc := oc) (q0 := q0) (ra := ra) (ll := ll) (lo := lo) (lt := lt) (q1 := q1) (n1 := n1) (n2 := n2) (pt := pt) (rc := rc) (a1 := a1) (a2 := a2) (nl := nl) (nv := nv) (g := g) (z := z) (hnl := hnl) (hnv := hnv) (h1 := by omega) (h2 := by omega) (hrc := hrc)) (cwV 2 hts gX2_startsLike_X2_reachOf rfl rfl rfl yd_X2_reachOf ⟨Nat.le_of_ble_eq_true rfl, Nat.le_of_ble_eq_true rfl⟩) (m_preV hK hP hD [0, 1, 2, 3, 4, 5, 6] (by decide) rfl rfl rfl) rfl hl.1 rfl (Nat.le_of_ble_eq_true rfl) dX2_startsLike_21 ⟨Nat.zero_le _, Nat.zero_le _⟩ ?_
        refine lv_iload_n hx hb dX2_startsLike_24 rfl (lv_at hl 2 rfl) ?_
        refine m_cmp_lt (tgt := 35) hx hb dX2_startsLike_25 (by decide) (Nat.lt_of_le_of_lt (rcN_le hrc _ _ _) (by decide)) (by omega) (fun c_25 => ?_) (fun c_25 => ?_)
        · refine lv_iinc (v := nI (k + 1)) (lv' := [(4, .int (nI (k + 1))), (0, .ref o), (1, .int (nI start)), (2, .int (nI n)), (3, .int (nI f))]) hx hb dX2_startsLike_35 hl (k := 4) rfl (by rw [nI_succ]; rfl) (by decide) rfl (fun ls hl => ?_)
          refine lv_goto (tgt := 5) hx hb dX2_startsLike_38 (by decide) ?_
          exact ih_5 (k + 1) _ (by omega) (by omega) (by rw [hf]; exact mkN_f (decide_eq_false (by omega)))  ls (lv_sub hl [1, 2, 3, 4, 0] rfl)
        · refine lv_iload_n hx hb dX2_startsLike_28 rfl (lv_at hl 3 rfl) ?_
          refine lv_iconst (v := nI 1) hx hb dX2_startsLike_29 (by decide) ?_
          refine lv_iload hx hb dX2_startsLike_30 (lv_at hl 4 rfl) ?_
          refine m_shl1 hx hb (by omega) dX2_startsLike_32 ?_
          refine m_or hx hb dX2_startsLike_33 ?_
          refine lv_istore_n (lv' := [(3, .int (nI (f ||| (2 ^ k)))), (0, .ref o), (1, .int (nI start)), (2, .int (nI n)), (4, .int (nI k))]) hx hb dX2_startsLike_34 rfl hl (by decide) rfl (fun ls hl => ?_)
          refine lv_iinc (v := nI (k + 1)) (lv' := [(4, .int (nI (k + 1))), (3, .int (nI (f ||| (2 ^ k)))), (0, .ref o), (1, .int (nI start)), (2, .int (nI n))]) hx hb dX2_startsLike_35 hl (k := 4) rfl (by rw [nI_succ]; rfl) (by decide) rfl (fun ls hl => ?_)
          refine lv_goto (tgt := 5) hx hb dX2_startsLike_38 (by decide) ?_
          exact ih_5 (k + 1) _ (by omega) (by omega) (by rw [hf]; exact mkN_t (decide_eq_true c_25))  ls (lv_sub hl [2, 3, 4, 1, 0] rfl)
  exact loop_5 (nl + 1) 0 0 (by omega) (by omega) rfl  ls (lv_sub hl [2, 3, 4, 1, 0] rfl)

theorem yd_X2_leastOf : yX2_leastOf.cls = RX2 ∧ yX2_leastOf.cls ≠ "java/lang/invoke/MethodHandle" ∧ yX2_leastOf.cls ≠ "java/lang/invoke/VarHandle" ∧ (parseMethodDescriptor yX2_leastOf.desc).map (fun d => d.parameters.length) = some 1 := by decide +kernel
set_option maxHeartbeats 4000000 in
set_option maxRecDepth 100000 in
theorem k_X2_leastOf (l : Launch) (D : va_G) (cI cZ : ClassId) (x : Nat) (hx2 : x < 2 ^ 20) : Met l yX2_leastOf wsX2_leastOf ({ frames := 0, cells := 0, slots := 0, locals := 0 }) (mPc [.int (nI x)] D cI cZ []) (QcRead (nI (lsN x))) 0 0 (fun _ => False) := by
  refine Met.ofW (cc := cX2_leastOf) (maxL := 2) (ret := (some .int)) (by decide) rfl ?_
  intro p e s m args below meth c s₁ BB hml hv
  obtain ⟨hargs, hP, hD0, hK⟩ := hv
  have hx := BB.exec
  have hb := BB.bytes
  have hr := BB.returns
  have hts := atoms_spec (ws := wsX2_leastOf) BB.pre
  have hown : s.vm.findClass RX2 = some m.cls := findClass_of_methodNamed BB.named
  have hlocks := BB.notSynchronized
  have hcf : CallFix p m c cX2_leastOf 2 s args wsX2_leastOf RX2 := ⟨hx, hb, hml, hown, hts⟩
  have hD := hD0
  rw [hargs, lg_entry_eq, ← hargs]
  have hl := lv_entry ([.int (nI x)]) (n := 2) (Nat.le_of_ble_eq_true rfl)
  generalize (lg_sl ([.int (nI x)]) ++ List.replicate (2 - (lg_sl ([.int (nI x)])).length) Slot.unset).toArray = ls at hl ⊢
  have hl : lv_has ls 2 [(0, .int (nI x))] := hl
  obtain ⟨Q, hQ⟩ : ∃ Q, Q = MQ below (QcRead (nI (lsN x))) args s 0 0 (fun _ => False) := ⟨_, rfl⟩
  rw [← hQ]
  refine lv_iconst (v := nI 0) hx hb dX2_leastOf_0 (by decide) ?_
  refine lv_istore_n (lv' := [(1, .int (nI 0)), (0, .int (nI x))]) hx hb dX2_leastOf_1 rfl hl (by decide) rfl (fun ls hl => ?_)
  have loop_2 : ∀ (fu : Nat) (k : Nat) (hfu : 20 - k < fu)  (hk : k ≤ 20) (hall : ∀ j, j < k → x.testBit j = false) (ls : Array Slot) (hl : lv_has ls 2 [(0, .int (nI x)), (1, .int (nI k))]), W p l e (headSpec wsX2_leastOf { frames := 0, cells := 0, slots := 0, locals := 0 }).room s m args below meth c s.heap [] 0 0 Q (F0 m 2 ls []) := by
    intro fu
    induction fu with
    | zero => intro k hfu; exact absurd hfu (Nat.not_lt_zero _)
    | succ fu ih_2 =>
      intro k hfu hk hall ls hl
      refine lv_iload_n hx hb dX2_leastOf_2 rfl (lv_at hl 1 rfl) ?_
      refine lv_bipush (v := nI 20) hx hb dX2_leastOf_3 (by decide) ?_
      refine m_cmp_ge (tgt := 22) hx hb dX2_leastOf_5 (by decide) (by omega) (by omega) (fun c_5 => ?_) (fun c_5 => ?_)
      · refine lv_iload_n hx hb dX2_leastOf_22 rfl (lv_at hl 1 rfl) ?_
        rw [hQ]
        exact m_ird hx hb hr hlocks (by rw [show lsN x = k from first_eq hk hall (fun h9 => by first | (exact absurd c_5 (by omega)) | exact and_pow_ne.mp c_13)]) dX2_leastOf_23
      · refine lv_iload_n hx hb dX2_leastOf_8 rfl (lv_at hl 0 rfl) ?_
        refine lv_iconst (v := nI 1) hx hb dX2_leastOf_9 (by decide) ?_
        refine lv_iload_n hx hb dX2_leastOf_10 rfl (lv_at hl 1 rfl) ?_
        refine m_shl1 hx hb (by omega) dX2_leastOf_11 ?_
        refine m_and hx hb dX2_leastOf_12 ?_
        refine m_if_ne (tgt := 22) hx hb dX2_leastOf_13 (by decide) (and_pow_lt _ (by omega)) (fun c_13 => ?_) (fun c_13 => ?_)
        · refine lv_iload_n hx hb dX2_leastOf_22 rfl (lv_at hl 1 rfl) ?_
          rw [hQ]
          exact m_ird hx hb hr hlocks (by rw [show lsN x = k from first_eq hk hall (fun h9 => by first | (exact absurd c_5 (by omega)) | exact and_pow_ne.mp c_13)]) dX2_leastOf_23
        · refine lv_iinc (v := nI (k + 1)) (lv' := [(1, .int (nI (k + 1))), (0, .int (nI x))]) hx hb dX2_leastOf_16 hl (k := 1) rfl (by rw [nI_succ]; rfl) (by decide) rfl (fun ls hl => ?_)
          refine lv_goto (tgt := 2) hx hb dX2_leastOf_19 (by decide) ?_
          exact ih_2 (k + 1) (by omega) (by omega) (lt_s hall ((fb_bit_nat _ _).mp c_13))  ls (lv_sub hl [1, 0] rfl)
  exact loop_2 21 0 (by omega) (by omega) (fun j hj => absurd hj (Nat.not_lt_zero j))  ls (lv_sub hl [1, 0] rfl)

theorem shr_le (n k : Nat) : n >>> k ≤ n := by rw [Nat.shiftRight_eq_div_pow]; exact Nat.div_le_self _ _

theorem yd_J6_bitCount_0f7a4 : yJ6_bitCount_0f7a4.cls = RJ6 ∧ yJ6_bitCount_0f7a4.cls ≠ "java/lang/invoke/MethodHandle" ∧ yJ6_bitCount_0f7a4.cls ≠ "java/lang/invoke/VarHandle" ∧ (parseMethodDescriptor yJ6_bitCount_0f7a4.desc).map (fun d => d.parameters.length) = some 1 := by decide +kernel
set_option maxHeartbeats 4000000 in
set_option maxRecDepth 100000 in
theorem k_J6_bitCount_0f7a4 (l : Launch) (D : va_G) (cI cZ : ClassId) (x : Nat) (hx2 : x < 2 ^ 20) : Met l yJ6_bitCount_0f7a4 wsJ6_bitCount_0f7a4 ({ frames := 0, cells := 0, slots := 0, locals := 0 }) (mPc [.int (nI x)] D cI cZ []) (QcRead (nI (bcN x))) 0 0 (fun _ => False) := by
  refine Met.ofW (cc := cJ6_bitCount_0f7a4) (maxL := 1) (ret := (some .int)) (by decide) rfl ?_
  intro p e s m args below meth c s₁ BB hml hv
  obtain ⟨hargs, hP, hD0, hK⟩ := hv
  have hx := BB.exec
  have hb := BB.bytes
  have hr := BB.returns
  have hts := atoms_spec (ws := wsJ6_bitCount_0f7a4) BB.pre
  have hown : s.vm.findClass RJ6 = some m.cls := findClass_of_methodNamed BB.named
  have hlocks := BB.notSynchronized
  have hcf : CallFix p m c cJ6_bitCount_0f7a4 1 s args wsJ6_bitCount_0f7a4 RJ6 := ⟨hx, hb, hml, hown, hts⟩
  have hD := hD0
  rw [hargs, lg_entry_eq, ← hargs]
  have hl := lv_entry ([.int (nI x)]) (n := 1) (Nat.le_of_ble_eq_true rfl)
  generalize (lg_sl ([.int (nI x)]) ++ List.replicate (1 - (lg_sl ([.int (nI x)])).length) Slot.unset).toArray = ls at hl ⊢
  have hl : lv_has ls 1 [(0, .int (nI x))] := hl
  obtain ⟨Q, hQ⟩ : ∃ Q, Q = MQ below (QcRead (nI (bcN x))) args s 0 0 (fun _ => False) := ⟨_, rfl⟩
  rw [← hQ]
  have k_265 := hts (.constant RJ6 265 (1431655765)) (by decide +kernel)
  have k_266 := hts (.constant RJ6 266 (858993459)) (by decide +kernel)
  have k_267 := hts (.constant RJ6 267 (252645135)) (by decide +kernel)
  have b1 : (x - ((x >>> 1) &&& 1431655765)) ≤ x := Nat.sub_le _ _
  have b2 : (((x - ((x >>> 1) &&& 1431655765)) &&& 858993459) + (((x - ((x >>> 1) &&& 1431655765)) >>> 2) &&& 858993459)) ≤ x + x := Nat.add_le_add (Nat.le_trans Nat.and_le_left b1) (Nat.le_trans Nat.and_le_left (Nat.le_trans (shr_le _ _) b1))
  have b3 : (((((x - ((x >>> 1) &&& 1431655765)) &&& 858993459) + (((x - ((x >>> 1) &&& 1431655765)) >>> 2) &&& 858993459)) + ((((x - ((x >>> 1) &&& 1431655765)) &&& 858993459) + (((x - ((x >>> 1) &&& 1431655765)) >>> 2) &&& 858993459)) >>> 4)) &&& 252645135) ≤ 252645135 := Nat.and_le_right
  have b4 : ((((((x - ((x >>> 1) &&& 1431655765)) &&& 858993459) + (((x - ((x >>> 1) &&& 1431655765)) >>> 2) &&& 858993459)) + ((((x - ((x >>> 1) &&& 1431655765)) &&& 858993459) + (((x - ((x >>> 1) &&& 1431655765)) >>> 2) &&& 858993459)) >>> 4)) &&& 252645135) + ((((((x - ((x >>> 1) &&& 1431655765)) &&& 858993459) + (((x - ((x >>> 1) &&& 1431655765)) >>> 2) &&& 858993459)) + ((((x - ((x >>> 1) &&& 1431655765)) &&& 858993459) + (((x - ((x >>> 1) &&& 1431655765)) >>> 2) &&& 858993459)) >>> 4)) &&& 252645135) >>> 8)) ≤ 252645135 + 252645135 := Nat.add_le_add b3 (Nat.le_trans (shr_le _ _) b3)
  have e9 := pc_ok hx2
  unfold pcR pcT at e9
  refine lv_iload_n hx hb dJ6_bitCount_0f7a4_0 rfl (lv_at hl 0 rfl) ?_
  refine lv_iload_n hx hb dJ6_bitCount_0f7a4_1 rfl (lv_at hl 0 rfl) ?_
  refine lv_iconst (v := nI 1) hx hb dJ6_bitCount_0f7a4_2 (by decide) ?_
  refine lv_iushr (v := nI (x >>> 1)) hx hb dJ6_bitCount_0f7a4_3 (m_ushrE (by omega) (by omega)) ?_
  refine lv_ldcw (v := nI 1431655765) hx hb hown k_265 dJ6_bitCount_0f7a4_4 ?_
  refine m_and hx hb dJ6_bitCount_0f7a4_7 ?_
  refine m_sub hx hb (Nat.le_trans Nat.and_le_left (shr_le _ _)) dJ6_bitCount_0f7a4_8 ?_
  refine lv_istore_n (lv' := [(0, .int (nI (x - ((x >>> 1) &&& 1431655765))))]) hx hb dJ6_bitCount_0f7a4_9 rfl hl (by decide) rfl (fun ls hl => ?_)
  refine lv_iload_n hx hb dJ6_bitCount_0f7a4_10 rfl (lv_at hl 0 rfl) ?_
  refine lv_ldcw (v := nI 858993459) hx hb hown k_266 dJ6_bitCount_0f7a4_11 ?_
  refine m_and hx hb dJ6_bitCount_0f7a4_14 ?_
  refine lv_iload_n hx hb dJ6_bitCount_0f7a4_15 rfl (lv_at hl 0 rfl) ?_
  refine lv_iconst (v := nI 2) hx hb dJ6_bitCount_0f7a4_16 (by decide) ?_
  refine lv_iushr (v := nI ((x - ((x >>> 1) &&& 1431655765)) >>> 2)) hx hb dJ6_bitCount_0f7a4_17 (m_ushrE (by omega) (by omega)) ?_
  refine lv_ldcw (v := nI 858993459) hx hb hown k_266 dJ6_bitCount_0f7a4_18 ?_
  refine m_and hx hb dJ6_bitCount_0f7a4_21 ?_
  refine m_add hx hb dJ6_bitCount_0f7a4_22 ?_
  refine lv_istore_n (lv' := [(0, .int (nI (((x - ((x >>> 1) &&& 1431655765)) &&& 858993459) + (((x - ((x >>> 1) &&& 1431655765)) >>> 2) &&& 858993459))))]) hx hb dJ6_bitCount_0f7a4_23 rfl hl (by decide) rfl (fun ls hl => ?_)
  refine lv_iload_n hx hb dJ6_bitCount_0f7a4_24 rfl (lv_at hl 0 rfl) ?_
  refine lv_iload_n hx hb dJ6_bitCount_0f7a4_25 rfl (lv_at hl 0 rfl) ?_
  refine lv_iconst (v := nI 4) hx hb dJ6_bitCount_0f7a4_26 (by decide) ?_
  refine lv_iushr (v := nI ((((x - ((x >>> 1) &&& 1431655765)) &&& 858993459) + (((x - ((x >>> 1) &&& 1431655765)) >>> 2) &&& 858993459)) >>> 4)) hx hb dJ6_bitCount_0f7a4_27 (m_ushrE (by omega) (by omega)) ?_
  refine m_add hx hb dJ6_bitCount_0f7a4_28 ?_
  refine lv_ldcw (v := nI 252645135) hx hb hown k_267 dJ6_bitCount_0f7a4_29 ?_
  refine m_and hx hb dJ6_bitCount_0f7a4_32 ?_
  refine lv_istore_n (lv' := [(0, .int (nI (((((x - ((x >>> 1) &&& 1431655765)) &&& 858993459) + (((x - ((x >>> 1) &&& 1431655765)) >>> 2) &&& 858993459)) + ((((x - ((x >>> 1) &&& 1431655765)) &&& 858993459) + (((x - ((x >>> 1) &&& 1431655765)) >>> 2) &&& 858993459)) >>> 4)) &&& 252645135)))]) hx hb dJ6_bitCount_0f7a4_33 rfl hl (by decide) rfl (fun ls hl => ?_)
  refine lv_iload_n hx hb dJ6_bitCount_0f7a4_34 rfl (lv_at hl 0 rfl) ?_
  refine lv_iload_n hx hb dJ6_bitCount_0f7a4_35 rfl (lv_at hl 0 rfl) ?_
  refine lv_bipush (v := nI 8) hx hb dJ6_bitCount_0f7a4_36 (by decide) ?_
  refine lv_iushr (v := nI ((((((x - ((x >>> 1) &&& 1431655765)) &&& 858993459) + (((x - ((x >>> 1) &&& 1431655765)) >>> 2) &&& 858993459)) + ((((x - ((x >>> 1) &&& 1431655765)) &&& 858993459) + (((x - ((x >>> 1) &&& 1431655765)) >>> 2) &&& 858993459)) >>> 4)) &&& 252645135) >>> 8)) hx hb dJ6_bitCount_0f7a4_38 (m_ushrE (by omega) (by omega)) ?_
  refine m_add hx hb dJ6_bitCount_0f7a4_39 ?_
  refine lv_istore_n (lv' := [(0, .int (nI ((((((x - ((x >>> 1) &&& 1431655765)) &&& 858993459) + (((x - ((x >>> 1) &&& 1431655765)) >>> 2) &&& 858993459)) + ((((x - ((x >>> 1) &&& 1431655765)) &&& 858993459) + (((x - ((x >>> 1) &&& 1431655765)) >>> 2) &&& 858993459)) >>> 4)) &&& 252645135) + ((((((x - ((x >>> 1) &&& 1431655765)) &&& 858993459) + (((x - ((x >>> 1) &&& 1431655765)) >>> 2) &&& 858993459)) + ((((x - ((x >>> 1) &&& 1431655765)) &&& 858993459) + (((x - ((x >>> 1) &&& 1431655765)) >>> 2) &&& 858993459)) >>> 4)) &&& 252645135) >>> 8))))]) hx hb dJ6_bitCount_0f7a4_40 rfl hl (by decide) rfl (fun ls hl => ?_)
  refine lv_iload_n hx hb dJ6_bitCount_0f7a4_41 rfl (lv_at hl 0 rfl) ?_
  refine lv_iload_n hx hb dJ6_bitCount_0f7a4_42 rfl (lv_at hl 0 rfl) ?_
  refine lv_bipush (v := nI 16) hx hb dJ6_bitCount_0f7a4_43 (by decide) ?_
  refine lv_iushr (v := nI (((((((x - ((x >>> 1) &&& 1431655765)) &&& 858993459) + (((x - ((x >>> 1) &&& 1431655765)) >>> 2) &&& 858993459)) + ((((x - ((x >>> 1) &&& 1431655765)) &&& 858993459) + (((x - ((x >>> 1) &&& 1431655765)) >>> 2) &&& 858993459)) >>> 4)) &&& 252645135) + ((((((x - ((x >>> 1) &&& 1431655765)) &&& 858993459) + (((x - ((x >>> 1) &&& 1431655765)) >>> 2) &&& 858993459)) + ((((x - ((x >>> 1) &&& 1431655765)) &&& 858993459) + (((x - ((x >>> 1) &&& 1431655765)) >>> 2) &&& 858993459)) >>> 4)) &&& 252645135) >>> 8)) >>> 16)) hx hb dJ6_bitCount_0f7a4_45 (m_ushrE (by omega) (by omega)) ?_
  refine m_add hx hb dJ6_bitCount_0f7a4_46 ?_
  refine lv_istore_n (lv' := [(0, .int (nI (((((((x - ((x >>> 1) &&& 1431655765)) &&& 858993459) + (((x - ((x >>> 1) &&& 1431655765)) >>> 2) &&& 858993459)) + ((((x - ((x >>> 1) &&& 1431655765)) &&& 858993459) + (((x - ((x >>> 1) &&& 1431655765)) >>> 2) &&& 858993459)) >>> 4)) &&& 252645135) + ((((((x - ((x >>> 1) &&& 1431655765)) &&& 858993459) + (((x - ((x >>> 1) &&& 1431655765)) >>> 2) &&& 858993459)) + ((((x - ((x >>> 1) &&& 1431655765)) &&& 858993459) + (((x - ((x >>> 1) &&& 1431655765)) >>> 2) &&& 858993459)) >>> 4)) &&& 252645135) >>> 8)) + (((((((x - ((x >>> 1) &&& 1431655765)) &&& 858993459) + (((x - ((x >>> 1) &&& 1431655765)) >>> 2) &&& 858993459)) + ((((x - ((x >>> 1) &&& 1431655765)) &&& 858993459) + (((x - ((x >>> 1) &&& 1431655765)) >>> 2) &&& 858993459)) >>> 4)) &&& 252645135) + ((((((x - ((x >>> 1) &&& 1431655765)) &&& 858993459) + (((x - ((x >>> 1) &&& 1431655765)) >>> 2) &&& 858993459)) + ((((x - ((x >>> 1) &&& 1431655765)) &&& 858993459) + (((x - ((x >>> 1) &&& 1431655765)) >>> 2) &&& 858993459)) >>> 4)) &&& 252645135) >>> 8)) >>> 16))))]) hx hb dJ6_bitCount_0f7a4_47 rfl hl (by decide) rfl (fun ls hl => ?_)
  refine lv_iload_n hx hb dJ6_bitCount_0f7a4_48 rfl (lv_at hl 0 rfl) ?_
  refine lv_bipush (v := nI 63) hx hb dJ6_bitCount_0f7a4_49 (by decide) ?_
  refine m_and hx hb dJ6_bitCount_0f7a4_51 ?_
  rw [hQ]
  exact m_ird hx hb hr hlocks (by rw [← e9]) dJ6_bitCount_0f7a4_52

theorem yd_X2_isLeastOfGroup : yX2_isLeastOfGroup.cls = RX2 ∧ yX2_isLeastOfGroup.cls ≠ "java/lang/invoke/MethodHandle" ∧ yX2_isLeastOfGroup.cls ≠ "java/lang/invoke/VarHandle" ∧ (parseMethodDescriptor yX2_isLeastOfGroup.desc).map (fun d => d.parameters.length) = some 2 := by decide +kernel
set_option maxHeartbeats 4000000 in
set_option maxRecDepth 100000 in
theorem k_X2_isLeastOfGroup (l : Launch) (D : va_G) (cI cZ : ClassId) (o q0 q1 ra oc a1 a2 ll lo lt n1 n2 nl nv : Nat) (pt rc z g : Nat → Nat) (start n : Nat) (hnl : nl ≤ 20) (hnv : nv ≤ 4) (hrc : ∀ j, rc j ≤ 20) (h1 : start ≤ 20) (hn : n ≤ 21) : Met l yX2_isLeastOfGroup wsX2_isLeastOfGroup ({ frames := 3, cells := 0, slots := 0, locals := 67 }) (mPc [.ref o, .int (nI start), .int (nI n)] D cI cZ [(o, .inr (2, [.ref oc, .ref q0, .ref ra, .int (nI ll), .int (nI lo), .int (nI lt)])), (q0, .inr (3, [.ref q1, .int (nI n1), .int (nI n2)])), (q1, aN cI 26 pt), (ra, aN cI 400 rc), (oc, .inr (0, [.ref a1, .ref a2, .int (nI nl), .int (nI nv)])), (a1, aN cI 640 g), (a2, aN cI 80 z)]) (QcRead (bI (lgB rc nl start n))) 0 0 (fun _ => False) := by
  refine Met.ofW (cc := cX2_isLeastOfGroup) (maxL := 4) (ret := (some .boolean)) (by decide) rfl ?_
  intro p e s m args below meth c s₁ BB hml hv
  obtain ⟨hargs, hP, hD0, hK⟩ := hv
  have hx := BB.exec
  have hb := BB.bytes
  have hr := BB.returns
  have hts := atoms_spec (ws := wsX2_isLeastOfGroup) BB.pre
  have hown : s.vm.findClass RX2 = some m.cls := findClass_of_methodNamed BB.named
  have hlocks := BB.notSynchronized
  have hcf : CallFix p m c cX2_isLeastOfGroup 4 s args wsX2_isLeastOfGroup RX2 := ⟨hx, hb, hml, hown, hts⟩
  have hD := hD0
  rw [hargs, lg_entry_eq, ← hargs]
  have hl := lv_entry ([.ref o, .int (nI start), .int (nI n)]) (n := 4) (Nat.le_of_ble_eq_true rfl)
  generalize (lg_sl ([.ref o, .int (nI start), .int (nI n)]) ++ List.replicate (4 - (lg_sl ([.ref o, .int (nI start), .int (nI n)])).length) Slot.unset).toArray = ls at hl ⊢
  have hl : lv_has ls 4 [(0, .ref o), (1, .int (nI start)), (2, .int (nI n))] := hl
  obtain ⟨Q, hQ⟩ : ∃ Q, Q = MQ below (QcRead (bI (lgB rc nl start n))) args s 0 0 (fun _ => False) := ⟨_, rfl⟩
  rw [← hQ]
  have hs9 : slN rc nl start n < 2 ^ 20 := slN_lt hnl
  have hb9 := bcN_le (slN rc nl start n)
  have hl9 := lsN_le (slN rc nl start n)
  refine lv_aload_n hx hb dX2_isLeastOfGroup_0 rfl (lv_at hl 0 rfl) ?_
  refine lv_iload_n hx hb dX2_isLeastOfGroup_1 rfl (lv_at hl 1 rfl) ?_
  refine lv_iload_n hx hb dX2_isLeastOfGroup_2 rfl (lv_at hl 2 rfl) ?_
  refine m_rdV (As := [.int (nI start), .int (nI n)]) (rest := []) (wc := [(o, .inr (2, [.ref oc, .ref q0, .ref ra, .int (nI ll), .int (nI lo), .int (nI lt)])), (q0, .inr (3, [.ref q1, .int (nI n1), .int (nI n2)])), (q1, aN cI 26 pt), (ra, aN cI 400 rc), (oc, .inr (0, [.ref a1, .ref a2, .int (nI nl), .int (nI nv)])), (a1, aN cI 640 g), (a2, aN cI 80 z)]) hcf (k_X2_startsLike (l := l) (D := D) (cI := cI) (cZ := cZ) (start := start) (n := n) (o := o) (oc := oc) (q0 := q0) (ra := ra) (ll := ll) (lo := lo) (lt := lt) (q1 := q1) (n1 := n1) (n2 := n2) (pt := pt) (rc := rc) (a1 := a1) (a2 := a2) (nl := nl) (nv := nv) (g := g) (z := z) (hnl := hnl) (hnv := hnv) (hrc := hrc) (h1 := h1) (hn := hn)) (cwV 2 hts gX2_isLeastOfGroup_X2_startsLike rfl rfl rfl yd_X2_startsLike ⟨Nat.le_of_ble_eq_true rfl, Nat.le_of_ble_eq_true rfl⟩) (m_preV hK hP hD [0, 1, 2, 3, 4, 5, 6] (by decide) rfl rfl rfl) rfl hl.1 rfl (Nat.le_of_ble_eq_true rfl) dX2_isLeastOfGroup_3 ⟨Nat.zero_le _, Nat.zero_le _⟩ ?_
  refine lv_istore_n (lv' := [(3, .int (nI (slN rc nl start n))), (0, .ref o), (1, .int (nI start)), (2, .int (nI n))]) hx hb dX2_isLeastOfGroup_6 rfl hl (by decide) rfl (fun ls hl => ?_)
  refine lv_iload_n hx hb dX2_isLeastOfGroup_7 rfl (lv_at hl 0 rfl) ?_
  refine m_rdS (As := [.int (nI (slN rc nl start n))]) (rest := []) (wc := []) hcf (k_J6_bitCount_0f7a4 (l := l) (D := D) (cI := cI) (cZ := cZ) (x := slN rc nl start n) (hx2 := hs9)) (va_cwS 1 hts gX2_isLeastOfGroup_J6_bitCount_0f7a4 rfl rfl rfl yd_J6_bitCount_0f7a4.2 ⟨Nat.le_of_ble_eq_true rfl, Nat.le_of_ble_eq_true rfl⟩) (m_preS hK hP hD [] (by decide) rfl) rfl hl.1 rfl (Nat.le_of_ble_eq_true rfl) dX2_isLeastOfGroup_8 ⟨Nat.zero_le _, Nat.zero_le _⟩ ?_
  refine lv_iconst (v := nI 2) hx hb dX2_isLeastOfGroup_11 (by decide) ?_
  refine m_cmp_lt (tgt := 27) hx hb dX2_isLeastOfGroup_12 (by decide) (by omega) (by omega) (fun c_12 => ?_) (fun c_12 => ?_)
  · refine lv_iconst (v := nI 0) hx hb dX2_isLeastOfGroup_27 (by decide) ?_
    rw [hQ]
    exact m_zrd hx hb hr hlocks (b_zero (by omega)) dX2_isLeastOfGroup_28
  · refine lv_iload_n hx hb dX2_isLeastOfGroup_15 rfl (lv_at hl 0 rfl) ?_
    refine m_rdS (As := [.int (nI (slN rc nl start n))]) (rest := []) (wc := []) hcf (k_X2_leastOf (l := l) (D := D) (cI := cI) (cZ := cZ) (x := slN rc nl start n) (hx2 := hs9)) (va_cwS 1 hts gX2_isLeastOfGroup_X2_leastOf rfl rfl rfl yd_X2_leastOf.2 ⟨Nat.le_of_ble_eq_true rfl, Nat.le_of_ble_eq_true rfl⟩) (m_preS hK hP hD [] (by decide) rfl) rfl hl.1 rfl (Nat.le_of_ble_eq_true rfl) dX2_isLeastOfGroup_16 ⟨Nat.zero_le _, Nat.zero_le _⟩ ?_
    refine lv_iload_n hx hb dX2_isLeastOfGroup_19 rfl (lv_at hl 2 rfl) ?_
    refine m_cmp_ne (tgt := 27) hx hb dX2_isLeastOfGroup_20 (by decide) (by omega) (by omega) (fun c_20 => ?_) (fun c_20 => ?_)
    · refine lv_iconst (v := nI 0) hx hb dX2_isLeastOfGroup_27 (by decide) ?_
      rw [hQ]
      exact m_zrd hx hb hr hlocks (b_zero (by omega)) dX2_isLeastOfGroup_28
    · refine lv_iconst (v := nI 1) hx hb dX2_isLeastOfGroup_23 (by decide) ?_
      refine lv_goto (tgt := 28) hx hb dX2_isLeastOfGroup_24 (by decide) ?_
      rw [hQ]
      exact m_zrd hx hb hr hlocks (b_one (by omega)) dX2_isLeastOfGroup_28

theorem yd_X2_isWithinLonger : yX2_isWithinLonger.cls = RX2 ∧ yX2_isWithinLonger.cls ≠ "java/lang/invoke/MethodHandle" ∧ yX2_isWithinLonger.cls ≠ "java/lang/invoke/VarHandle" ∧ (parseMethodDescriptor yX2_isWithinLonger.desc).map (fun d => d.parameters.length) = some 2 := by decide +kernel
set_option maxHeartbeats 4000000 in
set_option maxRecDepth 100000 in
theorem k_X2_isWithinLonger (l : Launch) (D : va_G) (cI cZ : ClassId) (o q0 q1 ra oc a1 a2 ll lo lt n1 n2 nl nv : Nat) (pt rc z g : Nat → Nat) (gr n : Nat) (hnl : nl ≤ 20) (hnv : nv ≤ 4) (hrc : ∀ j, rc j ≤ 20) (hgr : gr < 2 ^ 20) (hn : n ≤ 20) : Met l yX2_isWithinLonger wsX2_isWithinLonger ({ frames := 3, cells := 0, slots := 0, locals := 67 }) (mPc [.ref o, .int (nI gr), .int (nI n)] D cI cZ [(o, .inr (2, [.ref oc, .ref q0, .ref ra, .int (nI ll), .int (nI lo), .int (nI lt)])), (q0, .inr (3, [.ref q1, .int (nI n1), .int (nI n2)])), (q1, aN cI 26 pt), (ra, aN cI 400 rc), (oc, .inr (0, [.ref a1, .ref a2, .int (nI nl), .int (nI nv)])), (a1, aN cI 640 g), (a2, aN cI 80 z)]) (QcRead (bI (wlB rc nl gr n))) 0 0 (fun _ => False) := by
  refine Met.ofW (cc := cX2_isWithinLonger) (maxL := 4) (ret := (some .boolean)) (by decide) rfl ?_
  intro p e s m args below meth c s₁ BB hml hv
  obtain ⟨hargs, hP, hD0, hK⟩ := hv
  have hx := BB.exec
  have hb := BB.bytes
  have hr := BB.returns
  have hts := atoms_spec (ws := wsX2_isWithinLonger) BB.pre
  have hown : s.vm.findClass RX2 = some m.cls := findClass_of_methodNamed BB.named
  have hlocks := BB.notSynchronized
  have hcf : CallFix p m c cX2_isWithinLonger 4 s args wsX2_isWithinLonger RX2 := ⟨hx, hb, hml, hown, hts⟩
  have hD := hD0
  rw [hargs, lg_entry_eq, ← hargs]
  have hl := lv_entry ([.ref o, .int (nI gr), .int (nI n)]) (n := 4) (Nat.le_of_ble_eq_true rfl)
  generalize (lg_sl ([.ref o, .int (nI gr), .int (nI n)]) ++ List.replicate (4 - (lg_sl ([.ref o, .int (nI gr), .int (nI n)])).length) Slot.unset).toArray = ls at hl ⊢
  have hl : lv_has ls 4 [(0, .ref o), (1, .int (nI gr)), (2, .int (nI n))] := hl
  obtain ⟨Q, hQ⟩ : ∃ Q, Q = MQ below (QcRead (bI (wlB rc nl gr n))) args s 0 0 (fun _ => False) := ⟨_, rfl⟩
  rw [← hQ]
  have hl9 := lsN_le gr
  have hg9 := shr_le gr 1
  refine lv_iload_n hx hb dX2_isWithinLonger_0 rfl (lv_at hl 1 rfl) ?_
  refine m_rdS (As := [.int (nI gr)]) (rest := []) (wc := []) hcf (k_X2_leastOf (l := l) (D := D) (cI := cI) (cZ := cZ) (x := gr) (hx2 := hgr)) (va_cwS 1 hts gX2_isWithinLonger_X2_leastOf rfl rfl rfl yd_X2_leastOf.2 ⟨Nat.le_of_ble_eq_true rfl, Nat.le_of_ble_eq_true rfl⟩) (m_preS hK hP hD [] (by decide) rfl) rfl hl.1 rfl (Nat.le_of_ble_eq_true rfl) dX2_isWithinLonger_1 ⟨Nat.zero_le _, Nat.zero_le _⟩ ?_
  refine lv_istore_n (lv' := [(3, .int (nI (lsN gr))), (0, .ref o), (1, .int (nI gr)), (2, .int (nI n))]) hx hb dX2_isWithinLonger_4 rfl hl (by decide) rfl (fun ls hl => ?_)
  refine lv_aload_n hx hb dX2_isWithinLonger_5 rfl (lv_at hl 1 rfl) ?_
  refine lv_iload_n hx hb dX2_isWithinLonger_6 rfl (lv_at hl 0 rfl) ?_
  refine lv_iload_n hx hb dX2_isWithinLonger_7 rfl (lv_at hl 3 rfl) ?_
  refine lv_iconst (v := nI 1) hx hb dX2_isWithinLonger_8 (by decide) ?_
  refine m_add hx hb dX2_isWithinLonger_9 ?_
  refine m_rdV (As := [.int (nI (lsN gr)), .int (nI (n + 1))]) (rest := []) (wc := [(o, .inr (2, [.ref oc, .ref q0, .ref ra, .int (nI ll), .int (nI lo), .int (nI lt)])), (q0, .inr (3, [.ref q1, .int (nI n1), .int (nI n2)])), (q1, aN cI 26 pt), (ra, aN cI 400 rc), (oc, .inr (0, [.ref a1, .ref a2, .int (nI nl), .int (nI nv)])), (a1, aN cI 640 g), (a2, aN cI 80 z)]) hcf (k_X2_startsLike (l := l) (D := D) (cI := cI) (cZ := cZ) (start := lsN gr) (n := n + 1) (o := o) (oc := oc) (q0 := q0) (ra := ra) (ll := ll) (lo := lo) (lt := lt) (q1 := q1) (n1 := n1) (n2 := n2) (pt := pt) (rc := rc) (a1 := a1) (a2 := a2) (nl := nl) (nv := nv) (g := g) (z := z) (hnl := hnl) (hnv := hnv) (hrc := hrc) (h1 := by omega) (hn := by omega)) (cwV 2 hts gX2_isWithinLonger_X2_startsLike rfl rfl rfl yd_X2_startsLike ⟨Nat.le_of_ble_eq_true rfl, Nat.le_of_ble_eq_true rfl⟩) (m_preV hK hP hD [0, 1, 2, 3, 4, 5, 6] (by decide) rfl rfl rfl) rfl hl.1 rfl (Nat.le_of_ble_eq_true rfl) dX2_isWithinLonger_10 ⟨Nat.zero_le _, Nat.zero_le _⟩ ?_
  refine lv_iload_n hx hb dX2_isWithinLonger_13 rfl (lv_at hl 2 rfl) ?_
  refine m_cmp_ne (tgt := 19) hx hb dX2_isWithinLonger_14 (by decide) (Nat.lt_trans (slN_lt hnl) (by decide)) (by omega) (fun c_14 => ?_) (fun c_14 => ?_)
  · refine lv_iload_n hx hb dX2_isWithinLonger_19 rfl (lv_at hl 0 rfl) ?_
    refine m_if_le (tgt := 43) hx hb dX2_isWithinLonger_20 (by decide) (by omega) (fun c_20 => ?_) (fun c_20 => ?_)
    · refine lv_iconst (v := nI 0) hx hb dX2_isWithinLonger_43 (by decide) ?_
      rw [hQ]
      exact m_zrd hx hb hr hlocks (b_zero (by first | (rintro (h | h); exact c_14 h; exact c_36 h.2) | (rintro (h | h); exact c_14 h; omega))) dX2_isWithinLonger_44
    · refine lv_aload_n hx hb dX2_isWithinLonger_23 rfl (lv_at hl 1 rfl) ?_
      refine lv_iload_n hx hb dX2_isWithinLonger_24 rfl (lv_at hl 0 rfl) ?_
      refine lv_iconst (v := nI 1) hx hb dX2_isWithinLonger_25 (by decide) ?_
      refine m_sub hx hb (by omega) dX2_isWithinLonger_26 ?_
      refine lv_iload_n hx hb dX2_isWithinLonger_27 rfl (lv_at hl 3 rfl) ?_
      refine lv_iconst (v := nI 1) hx hb dX2_isWithinLonger_28 (by decide) ?_
      refine m_add hx hb dX2_isWithinLonger_29 ?_
      refine m_rdV (As := [.int (nI ((lsN gr) - 1)), .int (nI (n + 1))]) (rest := []) (wc := [(o, .inr (2, [.ref oc, .ref q0, .ref ra, .int (nI ll), .int (nI lo), .int (nI lt)])), (q0, .inr (3, [.ref q1, .int (nI n1), .int (nI n2)])), (q1, aN cI 26 pt), (ra, aN cI 400 rc), (oc, .inr (0, [.ref a1, .ref a2, .int (nI nl), .int (nI nv)])), (a1, aN cI 640 g), (a2, aN cI 80 z)]) hcf (k_X2_startsLike (l := l) (D := D) (cI := cI) (cZ := cZ) (start := (lsN gr) - 1) (n := n + 1) (o := o) (oc := oc) (q0 := q0) (ra := ra) (ll := ll) (lo := lo) (lt := lt) (q1 := q1) (n1 := n1) (n2 := n2) (pt := pt) (rc := rc) (a1 := a1) (a2 := a2) (nl := nl) (nv := nv) (g := g) (z := z) (hnl := hnl) (hnv := hnv) (hrc := hrc) (h1 := by omega) (hn := by omega)) (cwV 2 hts gX2_isWithinLonger_X2_startsLike rfl rfl rfl yd_X2_startsLike ⟨Nat.le_of_ble_eq_true rfl, Nat.le_of_ble_eq_true rfl⟩) (m_preV hK hP hD [0, 1, 2, 3, 4, 5, 6] (by decide) rfl rfl rfl) rfl hl.1 rfl (Nat.le_of_ble_eq_true rfl) dX2_isWithinLonger_30 ⟨Nat.zero_le _, Nat.zero_le _⟩ ?_
      refine lv_iload_n hx hb dX2_isWithinLonger_33 rfl (lv_at hl 2 rfl) ?_
      refine lv_iconst (v := nI 1) hx hb dX2_isWithinLonger_34 (by decide) ?_
      refine m_shr hx hb (by omega) (by omega) dX2_isWithinLonger_35 ?_
      refine m_cmp_ne (tgt := 43) hx hb dX2_isWithinLonger_36 (by decide) (Nat.lt_trans (slN_lt hnl) (by decide)) (by omega) (fun c_36 => ?_) (fun c_36 => ?_)
      · refine lv_iconst (v := nI 0) hx hb dX2_isWithinLonger_43 (by decide) ?_
        rw [hQ]
        exact m_zrd hx hb hr hlocks (b_zero (by first | (rintro (h | h); exact c_14 h; exact c_36 h.2) | (rintro (h | h); exact c_14 h; omega))) dX2_isWithinLonger_44
      · refine lv_iconst (v := nI 1) hx hb dX2_isWithinLonger_39 (by decide) ?_
        refine lv_goto (tgt := 44) hx hb dX2_isWithinLonger_40 (by decide) ?_
        rw [hQ]
        exact m_zrd hx hb hr hlocks (b_one (Or.inr ⟨c_20, c_36⟩)) dX2_isWithinLonger_44
  · refine lv_iconst (v := nI 1) hx hb dX2_isWithinLonger_17 (by decide) ?_
    rw [hQ]
    exact m_zrd hx hb hr hlocks (b_one (Or.inl c_14)) dX2_isWithinLonger_18
end
section
theorem zz_end : True := trivial
end
