section
-- ===== PART A: goes FIRST, ahead of the names: the tables' words, and 'selects' of the private methods out of them =====
/-- a private method of a class that the tables say can be made, by its rows of tables_1 -/
def lw_okq (q : MethodName × Nat) : Prop := (q.1.cls ≠ "java/lang/invoke/MethodHandle" ∧ q.1.cls ≠ "java/lang/invoke/VarHandle") ∧ Cond.instantiable q.1.cls q.2 ∈ tables_1 ∧ Cond.privateMethod q.1 ∈ tables_1 ∧ Cond.instanceMethod q.1 ∈ tables_1
theorem lw_p0 : lw_okq (⟨"LikelyWalks", "recordNow", "()V"⟩, 7) := ⟨⟨by decide +kernel, by decide +kernel⟩, List.mem_of_getElem? (i := 14) (by decide +kernel), List.mem_of_getElem? (i := 187) (by decide +kernel), List.mem_of_getElem? (i := 188) (by decide +kernel)⟩
theorem lw_p1 : lw_okq (⟨"LikelyWalks", "dropOldest", "()V"⟩, 7) := ⟨⟨by decide +kernel, by decide +kernel⟩, List.mem_of_getElem? (i := 14) (by decide +kernel), List.mem_of_getElem? (i := 191) (by decide +kernel), List.mem_of_getElem? (i := 192) (by decide +kernel)⟩
theorem lw_p2 : lw_okq (⟨"LikelyWalks", "isOnLine", "(I)Z"⟩, 7) := ⟨⟨by decide +kernel, by decide +kernel⟩, List.mem_of_getElem? (i := 14) (by decide +kernel), List.mem_of_getElem? (i := 261) (by decide +kernel), List.mem_of_getElem? (i := 262) (by decide +kernel)⟩
theorem lw_p3 : lw_okq (⟨"LikelyWalks", "lineLength", "()I"⟩, 7) := ⟨⟨by decide +kernel, by decide +kernel⟩, List.mem_of_getElem? (i := 14) (by decide +kernel), List.mem_of_getElem? (i := 265) (by decide +kernel), List.mem_of_getElem? (i := 266) (by decide +kernel)⟩
theorem lw_p4 : lw_okq (⟨"LikelyWalks", "isTaken", "(I)Z"⟩, 7) := ⟨⟨by decide +kernel, by decide +kernel⟩, List.mem_of_getElem? (i := 14) (by decide +kernel), List.mem_of_getElem? (i := 269) (by decide +kernel), List.mem_of_getElem? (i := 270) (by decide +kernel)⟩
theorem lw_p5 : lw_okq (⟨"LikelyWalks$Reader", "metricOver", "(LLikelyWalks$Code;II[II)I"⟩, 8) := ⟨⟨by decide +kernel, by decide +kernel⟩, List.mem_of_getElem? (i := 84) (by decide +kernel), List.mem_of_getElem? (i := 298) (by decide +kernel), List.mem_of_getElem? (i := 299) (by decide +kernel)⟩
theorem lw_p6 : lw_okq (⟨"LikelyWalks$Reader", "stateBefore", "(LLikelyWalks$Code;II)I"⟩, 8) := ⟨⟨by decide +kernel, by decide +kernel⟩, List.mem_of_getElem? (i := 84) (by decide +kernel), List.mem_of_getElem? (i := 315) (by decide +kernel), List.mem_of_getElem? (i := 316) (by decide +kernel)⟩
theorem lw_p7 : lw_okq (⟨"LikelyWalks$Reader", "reached", "(LLikelyWalks$Code;)J"⟩, 8) := ⟨⟨by decide +kernel, by decide +kernel⟩, List.mem_of_getElem? (i := 84) (by decide +kernel), List.mem_of_getElem? (i := 405) (by decide +kernel), List.mem_of_getElem? (i := 406) (by decide +kernel)⟩
theorem lw_p8 : lw_okq (⟨"LikelyWalks$Code", "lowerAfter", "(I[I)V"⟩, 3) := ⟨⟨by decide +kernel, by decide +kernel⟩, List.mem_of_getElem? (i := 28) (by decide +kernel), List.mem_of_getElem? (i := 424) (by decide +kernel), List.mem_of_getElem? (i := 425) (by decide +kernel)⟩
theorem lw_p9 : lw_okq (⟨"LikelyWalks$Code", "leadsOnByZeros", "(IJ)Z"⟩, 3) := ⟨⟨by decide +kernel, by decide +kernel⟩, List.mem_of_getElem? (i := 28) (by decide +kernel), List.mem_of_getElem? (i := 437) (by decide +kernel), List.mem_of_getElem? (i := 438) (by decide +kernel)⟩
theorem lw_p10 : lw_okq (⟨"LikelyWalks", "erasedSymbols", "()I"⟩, 7) := ⟨⟨by decide +kernel, by decide +kernel⟩, List.mem_of_getElem? (i := 14) (by decide +kernel), List.mem_of_getElem? (i := 452) (by decide +kernel), List.mem_of_getElem? (i := 453) (by decide +kernel)⟩
theorem lw_p11 : lw_okq (⟨"LikelyWalks", "flippedSymbols", "()I"⟩, 7) := ⟨⟨by decide +kernel, by decide +kernel⟩, List.mem_of_getElem? (i := 14) (by decide +kernel), List.mem_of_getElem? (i := 456) (by decide +kernel), List.mem_of_getElem? (i := 457) (by decide +kernel)⟩
theorem lw_p12 : lw_okq (⟨"LikelyWalksModel", "clearReader", "()V"⟩, 11) := ⟨⟨by decide +kernel, by decide +kernel⟩, List.mem_of_getElem? (i := 470) (by decide +kernel), List.mem_of_getElem? (i := 476) (by decide +kernel), List.mem_of_getElem? (i := 477) (by decide +kernel)⟩
theorem lw_p13 : lw_okq (⟨"LikelyWalksModel", "record", "()V"⟩, 11) := ⟨⟨by decide +kernel, by decide +kernel⟩, List.mem_of_getElem? (i := 470) (by decide +kernel), List.mem_of_getElem? (i := 521) (by decide +kernel), List.mem_of_getElem? (i := 522) (by decide +kernel)⟩
theorem lw_p14 : lw_okq (⟨"LikelyWalksModel", "fault", "(Z)I"⟩, 11) := ⟨⟨by decide +kernel, by decide +kernel⟩, List.mem_of_getElem? (i := 470) (by decide +kernel), List.mem_of_getElem? (i := 541) (by decide +kernel), List.mem_of_getElem? (i := 542) (by decide +kernel)⟩
theorem lw_p15 : lw_okq (⟨"LikelyWalksModel", "sendBit", "(I)V"⟩, 11) := ⟨⟨by decide +kernel, by decide +kernel⟩, List.mem_of_getElem? (i := 470) (by decide +kernel), List.mem_of_getElem? (i := 545) (by decide +kernel), List.mem_of_getElem? (i := 546) (by decide +kernel)⟩
def lw_privs_1 : List (MethodName × Nat) := [(⟨"LikelyWalks", "recordNow", "()V"⟩, 7), (⟨"LikelyWalks", "dropOldest", "()V"⟩, 7), (⟨"LikelyWalks", "isOnLine", "(I)Z"⟩, 7), (⟨"LikelyWalks", "lineLength", "()I"⟩, 7), (⟨"LikelyWalks", "isTaken", "(I)Z"⟩, 7), (⟨"LikelyWalks$Reader", "metricOver", "(LLikelyWalks$Code;II[II)I"⟩, 8), (⟨"LikelyWalks$Reader", "stateBefore", "(LLikelyWalks$Code;II)I"⟩, 8), (⟨"LikelyWalks$Reader", "reached", "(LLikelyWalks$Code;)J"⟩, 8), (⟨"LikelyWalks$Code", "lowerAfter", "(I[I)V"⟩, 3), (⟨"LikelyWalks$Code", "leadsOnByZeros", "(IJ)Z"⟩, 3), (⟨"LikelyWalks", "erasedSymbols", "()I"⟩, 7), (⟨"LikelyWalks", "flippedSymbols", "()I"⟩, 7), (⟨"LikelyWalksModel", "clearReader", "()V"⟩, 11), (⟨"LikelyWalksModel", "record", "()V"⟩, 11), (⟨"LikelyWalksModel", "fault", "(Z)I"⟩, 11), (⟨"LikelyWalksModel", "sendBit", "(I)V"⟩, 11)]
theorem lw_r1 : ∀ q ∈ lw_privs_1, lw_okq q := List.forall_mem_cons.mpr ⟨lw_p0, List.forall_mem_cons.mpr ⟨lw_p1, List.forall_mem_cons.mpr ⟨lw_p2, List.forall_mem_cons.mpr ⟨lw_p3, List.forall_mem_cons.mpr ⟨lw_p4, List.forall_mem_cons.mpr ⟨lw_p5, List.forall_mem_cons.mpr ⟨lw_p6, List.forall_mem_cons.mpr ⟨lw_p7, List.forall_mem_cons.mpr ⟨lw_p8, List.forall_mem_cons.mpr ⟨lw_p9, List.forall_mem_cons.mpr ⟨lw_p10, List.forall_mem_cons.mpr ⟨lw_p11, List.forall_mem_cons.mpr ⟨lw_p12, List.forall_mem_cons.mpr ⟨lw_p13, List.forall_mem_cons.mpr ⟨lw_p14, List.forall_mem_cons.mpr ⟨lw_p15, fun _ h => absurd h List.not_mem_nil⟩⟩⟩⟩⟩⟩⟩⟩⟩⟩⟩⟩⟩⟩⟩⟩
theorem lw_p16 : lw_okq (⟨"LikelyWalksModel", "window", "(II)I"⟩, 11) := ⟨⟨by decide +kernel, by decide +kernel⟩, List.mem_of_getElem? (i := 470) (by decide +kernel), List.mem_of_getElem? (i := 549) (by decide +kernel), List.mem_of_getElem? (i := 550) (by decide +kernel)⟩
theorem lw_p17 : lw_okq (⟨"LikelyWalksModel", "registers", "()I"⟩, 11) := ⟨⟨by decide +kernel, by decide +kernel⟩, List.mem_of_getElem? (i := 470) (by decide +kernel), List.mem_of_getElem? (i := 553) (by decide +kernel), List.mem_of_getElem? (i := 554) (by decide +kernel)⟩
theorem lw_p18 : lw_okq (⟨"LikelyWalksModel", "symbols", "()I"⟩, 11) := ⟨⟨by decide +kernel, by decide +kernel⟩, List.mem_of_getElem? (i := 470) (by decide +kernel), List.mem_of_getElem? (i := 557) (by decide +kernel), List.mem_of_getElem? (i := 558) (by decide +kernel)⟩
theorem lw_p19 : lw_okq (⟨"LikelyWalksModel", "symbol", "(II)I"⟩, 11) := ⟨⟨by decide +kernel, by decide +kernel⟩, List.mem_of_getElem? (i := 470) (by decide +kernel), List.mem_of_getElem? (i := 561) (by decide +kernel), List.mem_of_getElem? (i := 562) (by decide +kernel)⟩
theorem lw_p20 : lw_okq (⟨"LikelyWalksModel", "go", "()V"⟩, 11) := ⟨⟨by decide +kernel, by decide +kernel⟩, List.mem_of_getElem? (i := 470) (by decide +kernel), List.mem_of_getElem? (i := 581) (by decide +kernel), List.mem_of_getElem? (i := 582) (by decide +kernel)⟩
theorem lw_p21 : lw_okq (⟨"LikelyWalksModel", "lay", "(I)V"⟩, 11) := ⟨⟨by decide +kernel, by decide +kernel⟩, List.mem_of_getElem? (i := 470) (by decide +kernel), List.mem_of_getElem? (i := 585) (by decide +kernel), List.mem_of_getElem? (i := 586) (by decide +kernel)⟩
theorem lw_p22 : lw_okq (⟨"LikelyWalksModel", "price", "(I)I"⟩, 11) := ⟨⟨by decide +kernel, by decide +kernel⟩, List.mem_of_getElem? (i := 470) (by decide +kernel), List.mem_of_getElem? (i := 589) (by decide +kernel), List.mem_of_getElem? (i := 590) (by decide +kernel)⟩
theorem lw_p23 : lw_okq (⟨"LikelyWalksModel", "bestState", "()I"⟩, 11) := ⟨⟨by decide +kernel, by decide +kernel⟩, List.mem_of_getElem? (i := 470) (by decide +kernel), List.mem_of_getElem? (i := 593) (by decide +kernel), List.mem_of_getElem? (i := 594) (by decide +kernel)⟩
theorem lw_p24 : lw_okq (⟨"LikelyWalksModel", "release", "(I)V"⟩, 11) := ⟨⟨by decide +kernel, by decide +kernel⟩, List.mem_of_getElem? (i := 470) (by decide +kernel), List.mem_of_getElem? (i := 597) (by decide +kernel), List.mem_of_getElem? (i := 598) (by decide +kernel)⟩
theorem lw_p25 : lw_okq (⟨"LikelyWalksModel", "walkBit", "(II)I"⟩, 11) := ⟨⟨by decide +kernel, by decide +kernel⟩, List.mem_of_getElem? (i := 470) (by decide +kernel), List.mem_of_getElem? (i := 601) (by decide +kernel), List.mem_of_getElem? (i := 602) (by decide +kernel)⟩
theorem lw_p26 : lw_okq (⟨"LikelyWalksModel", "isState", "(I)Z"⟩, 11) := ⟨⟨by decide +kernel, by decide +kernel⟩, List.mem_of_getElem? (i := 470) (by decide +kernel), List.mem_of_getElem? (i := 633) (by decide +kernel), List.mem_of_getElem? (i := 634) (by decide +kernel)⟩
theorem lw_p27 : lw_okq (⟨"LikelyWalksModel", "areAlikeAt", "(I)Z"⟩, 11) := ⟨⟨by decide +kernel, by decide +kernel⟩, List.mem_of_getElem? (i := 470) (by decide +kernel), List.mem_of_getElem? (i := 661) (by decide +kernel), List.mem_of_getElem? (i := 662) (by decide +kernel)⟩
theorem lw_p28 : lw_okq (⟨"LikelyWalksModel", "layFar", "()V"⟩, 11) := ⟨⟨by decide +kernel, by decide +kernel⟩, List.mem_of_getElem? (i := 470) (by decide +kernel), List.mem_of_getElem? (i := 669) (by decide +kernel), List.mem_of_getElem? (i := 670) (by decide +kernel)⟩
theorem lw_p29 : lw_okq (⟨"LikelyWalksModel", "ones", "(I)I"⟩, 11) := ⟨⟨by decide +kernel, by decide +kernel⟩, List.mem_of_getElem? (i := 470) (by decide +kernel), List.mem_of_getElem? (i := 673) (by decide +kernel), List.mem_of_getElem? (i := 674) (by decide +kernel)⟩
theorem lw_p30 : lw_okq (⟨"LikelyWalksModel", "goesOn", "(II)Z"⟩, 11) := ⟨⟨by decide +kernel, by decide +kernel⟩, List.mem_of_getElem? (i := 470) (by decide +kernel), List.mem_of_getElem? (i := 681) (by decide +kernel), List.mem_of_getElem? (i := 682) (by decide +kernel)⟩
theorem lw_p31 : lw_okq (⟨"LikelyWalksModel", "changedSymbols", "(Z)I"⟩, 11) := ⟨⟨by decide +kernel, by decide +kernel⟩, List.mem_of_getElem? (i := 470) (by decide +kernel), List.mem_of_getElem? (i := 693) (by decide +kernel), List.mem_of_getElem? (i := 694) (by decide +kernel)⟩
def lw_privs_2 : List (MethodName × Nat) := [(⟨"LikelyWalksModel", "window", "(II)I"⟩, 11), (⟨"LikelyWalksModel", "registers", "()I"⟩, 11), (⟨"LikelyWalksModel", "symbols", "()I"⟩, 11), (⟨"LikelyWalksModel", "symbol", "(II)I"⟩, 11), (⟨"LikelyWalksModel", "go", "()V"⟩, 11), (⟨"LikelyWalksModel", "lay", "(I)V"⟩, 11), (⟨"LikelyWalksModel", "price", "(I)I"⟩, 11), (⟨"LikelyWalksModel", "bestState", "()I"⟩, 11), (⟨"LikelyWalksModel", "release", "(I)V"⟩, 11), (⟨"LikelyWalksModel", "walkBit", "(II)I"⟩, 11), (⟨"LikelyWalksModel", "isState", "(I)Z"⟩, 11), (⟨"LikelyWalksModel", "areAlikeAt", "(I)Z"⟩, 11), (⟨"LikelyWalksModel", "layFar", "()V"⟩, 11), (⟨"LikelyWalksModel", "ones", "(I)I"⟩, 11), (⟨"LikelyWalksModel", "goesOn", "(II)Z"⟩, 11), (⟨"LikelyWalksModel", "changedSymbols", "(Z)I"⟩, 11)]
theorem lw_r2 : ∀ q ∈ lw_privs_2, lw_okq q := List.forall_mem_cons.mpr ⟨lw_p16, List.forall_mem_cons.mpr ⟨lw_p17, List.forall_mem_cons.mpr ⟨lw_p18, List.forall_mem_cons.mpr ⟨lw_p19, List.forall_mem_cons.mpr ⟨lw_p20, List.forall_mem_cons.mpr ⟨lw_p21, List.forall_mem_cons.mpr ⟨lw_p22, List.forall_mem_cons.mpr ⟨lw_p23, List.forall_mem_cons.mpr ⟨lw_p24, List.forall_mem_cons.mpr ⟨lw_p25, List.forall_mem_cons.mpr ⟨lw_p26, List.forall_mem_cons.mpr ⟨lw_p27, List.forall_mem_cons.mpr ⟨lw_p28, List.forall_mem_cons.mpr ⟨lw_p29, List.forall_mem_cons.mpr ⟨lw_p30, List.forall_mem_cons.mpr ⟨lw_p31, fun _ h => absurd h List.not_mem_nil⟩⟩⟩⟩⟩⟩⟩⟩⟩⟩⟩⟩⟩⟩⟩⟩
theorem lw_p32 : lw_okq (⟨"LikelyWalksModel", "reached", "()I"⟩, 11) := ⟨⟨by decide +kernel, by decide +kernel⟩, List.mem_of_getElem? (i := 470) (by decide +kernel), List.mem_of_getElem? (i := 697) (by decide +kernel), List.mem_of_getElem? (i := 698) (by decide +kernel)⟩
def lw_privs_3 : List (MethodName × Nat) := [(⟨"LikelyWalksModel", "reached", "()I"⟩, 11)]
theorem lw_r3 : ∀ q ∈ lw_privs_3, lw_okq q := List.forall_mem_cons.mpr ⟨lw_p32, fun _ h => absurd h List.not_mem_nil⟩
def lw_privs : List (MethodName × Nat) := lw_privs_1 ++ (lw_privs_2 ++ (lw_privs_3))
def lw_tbl : List Cond := k2_sels lw_privs ++ tables_1
theorem lw_privs_ok : ∀ q ∈ lw_privs, lw_okq q := by
  show ∀ q ∈ lw_privs_1 ++ (lw_privs_2 ++ (lw_privs_3)), lw_okq q
  exact List.forall_mem_append.mpr ⟨lw_r1, List.forall_mem_append.mpr ⟨lw_r2, lw_r3⟩⟩
-- ===== end of PART A; then your names; then what follows =====
/-! ===== BEGIN words of one list among another's, by their places ===== -/
theorem goodIn_r {big : List Cond} (ws : List Cond) (ps : List Nat) (hp : ws = ps.filterMap (fun i => big[i]?)) (h : ws.all goodWord = true) : GoodIn big ws := by
  intro w hw
  have h1 := List.all_eq_true.mp h w hw
  rw [hp] at hw
  obtain ⟨i, -, hi⟩ := List.mem_filterMap.mp hw
  have hm : w ∈ big := by first | exact List.mem_of_getElem? hi | exact List.getElem?_mem hi
  exact ⟨hm, good_of_word h1⟩
theorem goodIn_app {big a b : List Cond} (ha : GoodIn big a) (hb : GoodIn big b) : GoodIn big (a ++ b) := fun w h => (List.mem_append.mp h).elim (ha w) (hb w)
theorem goodIn_ca {big a b : List Cond} {c : Cond} (ha : GoodIn big (c :: a)) (hb : GoodIn big b) : GoodIn big (c :: (a ++ b)) := fun w h => (List.mem_cons.mp h).elim (fun e => ha w (List.mem_cons.mpr (Or.inl e))) (fun h => (List.mem_append.mp h).elim (fun h => ha w (List.mem_cons.mpr (Or.inr h))) (hb w))
theorem goodIn_sub {big ws : List Cond} (hm : ∀ w ∈ ws, w ∈ big) (h : ws.all goodWord = true) : GoodIn big ws := fun w hw => ⟨hm w hw, good_of_word (List.all_eq_true.mp h w hw)⟩
/-! ===== END ===== -/

/-! ===== BEGIN printed: names, fields, word lists, decode rows ===== -/
def RX0 : String := "LikelyWalks$Code"
def TX0 : u_T := fun k => match k with
  | 0 => ("LikelyWalks$Code", "memory", "I", false)
  | 1 => ("LikelyWalks$Code", "outputs", "I", false)
  | _ => ("LikelyWalks$Code", "taps", "[I", true)
def tyX0 : Nat → FieldType := fun k => match k with
  | 0 => .int
  | 1 => .int
  | _ => .array .int
abbrev wsX00 : List Cond := u_ws RX0 TX0 3
theorem nmX0 : ∀ a, a < 3 → ∀ b, b < 3 → a ≠ b → (TX0 a).2.1 ≠ (TX0 b).2.1 := by decide +kernel
theorem tyX0_ok : ∀ k, k < 3 → parseFieldDescriptor (TX0 k).2.2.1 = some (tyX0 k) := by decide +kernel
abbrev cX0_init : ByteArray := prog_2_method_1_code
def yX0_init : MethodName := ⟨RX0, "<init>", "()V"⟩
abbrev cX0_choose : ByteArray := prog_2_method_2_code
def yX0_choose : MethodName := ⟨RX0, "choose", "(IIII)V"⟩
abbrev cX0_copyFrom : ByteArray := prog_2_method_3_code
def yX0_copyFrom : MethodName := ⟨RX0, "copyFrom", "(LLikelyWalks$Code;)V"⟩
abbrev cX0_states : ByteArray := prog_2_method_4_code
def yX0_states : MethodName := ⟨RX0, "states", "()I"⟩
abbrev cX0_hasState : ByteArray := prog_2_method_5_code
def yX0_hasState : MethodName := ⟨RX0, "hasState", "(I)Z"⟩
abbrev cX0_windowOf : ByteArray := prog_2_method_6_code
def yX0_windowOf : MethodName := ⟨RX0, "windowOf", "(II)I"⟩
abbrev cX0_stateAfter : ByteArray := prog_2_method_7_code
def yX0_stateAfter : MethodName := ⟨RX0, "stateAfter", "(II)I"⟩
abbrev cX0_bitInto : ByteArray := prog_2_method_8_code
def yX0_bitInto : MethodName := ⟨RX0, "bitInto", "(I)I"⟩
abbrev cX0_lowerBefore : ByteArray := prog_2_method_9_code
def yX0_lowerBefore : MethodName := ⟨RX0, "lowerBefore", "(I)I"⟩
abbrev cX0_symbolOf : ByteArray := prog_2_method_10_code
def yX0_symbolOf : MethodName := ⟨RX0, "symbolOf", "(II)I"⟩
abbrev cX0_symbolsOf : ByteArray := prog_2_method_11_code
def yX0_symbolsOf : MethodName := ⟨RX0, "symbolsOf", "(II)I"⟩
abbrev cX0_onesOf : ByteArray := prog_2_method_12_code
def yX0_onesOf : MethodName := ⟨RX0, "onesOf", "(II)I"⟩
abbrev cX0_priceOf : ByteArray := prog_2_method_13_code
def yX0_priceOf : MethodName := ⟨RX0, "priceOf", "(II[II)I"⟩
abbrev cX0_leastReturn : ByteArray := prog_2_method_14_code
def yX0_leastReturn : MethodName := ⟨RX0, "leastReturn", "([I)I"⟩
abbrev cX0_lowerAfter : ByteArray := prog_2_method_15_code
def yX0_lowerAfter : MethodName := ⟨RX0, "lowerAfter", "(I[I)V"⟩
abbrev cX0_hasRingOfZeros : ByteArray := prog_2_method_16_code
def yX0_hasRingOfZeros : MethodName := ⟨RX0, "hasRingOfZeros", "()Z"⟩
abbrev cX0_leadsOnByZeros : ByteArray := prog_2_method_17_code
def yX0_leadsOnByZeros : MethodName := ⟨RX0, "leadsOnByZeros", "(IJ)Z"⟩
def RX1 : String := "LikelyWalks$Reader"
def TX1 : u_T := fun k => match k with
  | 0 => ("LikelyWalks$Reader", "steps", "I", false)
  | 1 => ("LikelyWalks$Reader", "lineSteps", "I", false)
  | 2 => ("LikelyWalks$Reader", "releasedCount", "I", false)
  | 3 => ("LikelyWalks$Reader", "isFinished", "Z", false)
  | 4 => ("LikelyWalks$Reader", "releasedBits", "[I", true)
  | 5 => ("LikelyWalks$Reader", "metrics", "[I", true)
  | 6 => ("LikelyWalks$Reader", "newMetrics", "[I", true)
  | _ => ("LikelyWalks$Reader", "fromUpper", "[I", true)
def tyX1 : Nat → FieldType := fun k => match k with
  | 0 => .int
  | 1 => .int
  | 2 => .int
  | 3 => .boolean
  | 4 => .array .int
  | 5 => .array .int
  | 6 => .array .int
  | _ => .array .int
abbrev wsX10 : List Cond := u_ws RX1 TX1 8
theorem nmX1 : ∀ a, a < 8 → ∀ b, b < 8 → a ≠ b → (TX1 a).2.1 ≠ (TX1 b).2.1 := by decide +kernel
theorem tyX1_ok : ∀ k, k < 8 → parseFieldDescriptor (TX1 k).2.2.1 = some (tyX1 k) := by decide +kernel
abbrev cX1_init : ByteArray := prog_3_method_1_code
def yX1_init : MethodName := ⟨RX1, "<init>", "()V"⟩
abbrev cX1_clear : ByteArray := prog_3_method_2_code
def yX1_clear : MethodName := ⟨RX1, "clear", "()V"⟩
abbrev cX1_copyFrom : ByteArray := prog_3_method_3_code
def yX1_copyFrom : MethodName := ⟨RX1, "copyFrom", "(LLikelyWalks$Reader;)V"⟩
abbrev cX1_advance : ByteArray := prog_3_method_4_code
def yX1_advance : MethodName := ⟨RX1, "advance", "(LLikelyWalks$Code;I[II)V"⟩
abbrev cX1_metricOver : ByteArray := prog_3_method_5_code
def yX1_metricOver : MethodName := ⟨RX1, "metricOver", "(LLikelyWalks$Code;II[II)I"⟩
abbrev cX1_releaseUpTo : ByteArray := prog_3_method_6_code
def yX1_releaseUpTo : MethodName := ⟨RX1, "releaseUpTo", "(LLikelyWalks$Code;II)V"⟩
abbrev cX1_stateBefore : ByteArray := prog_3_method_7_code
def yX1_stateBefore : MethodName := ⟨RX1, "stateBefore", "(LLikelyWalks$Code;II)I"⟩
abbrev cX1_survivorBit : ByteArray := prog_3_method_8_code
def yX1_survivorBit : MethodName := ⟨RX1, "survivorBit", "(LLikelyWalks$Code;II)I"⟩
abbrev cX1_commonBits : ByteArray := prog_3_method_9_code
def yX1_commonBits : MethodName := ⟨RX1, "commonBits", "(LLikelyWalks$Code;)I"⟩
abbrev cX1_reached : ByteArray := prog_3_method_10_code
def yX1_reached : MethodName := ⟨RX1, "reached", "(LLikelyWalks$Code;)J"⟩
abbrev cX1_reachedStates : ByteArray := prog_3_method_11_code
def yX1_reachedStates : MethodName := ⟨RX1, "reachedStates", "(LLikelyWalks$Code;)I"⟩
abbrev cX1_bestState : ByteArray := prog_3_method_12_code
def yX1_bestState : MethodName := ⟨RX1, "bestState", "(LLikelyWalks$Code;)I"⟩
def RX2 : String := "LikelyWalks$Sender"
def TX2 : u_T := fun k => match k with
  | 0 => ("LikelyWalks$Sender", "register", "I", false)
  | 1 => ("LikelyWalks$Sender", "bitCount", "I", false)
  | 2 => ("LikelyWalks$Sender", "bits", "[I", true)
  | 3 => ("LikelyWalks$Sender", "symbols", "[I", true)
  | _ => ("LikelyWalks$Sender", "originals", "[I", true)
def tyX2 : Nat → FieldType := fun k => match k with
  | 0 => .int
  | 1 => .int
  | 2 => .array .int
  | 3 => .array .int
  | _ => .array .int
abbrev wsX20 : List Cond := u_ws RX2 TX2 5
theorem nmX2 : ∀ a, a < 5 → ∀ b, b < 5 → a ≠ b → (TX2 a).2.1 ≠ (TX2 b).2.1 := by decide +kernel
theorem tyX2_ok : ∀ k, k < 5 → parseFieldDescriptor (TX2 k).2.2.1 = some (tyX2 k) := by decide +kernel
abbrev cX2_init : ByteArray := prog_4_method_1_code
def yX2_init : MethodName := ⟨RX2, "<init>", "()V"⟩
abbrev cX2_clear : ByteArray := prog_4_method_2_code
def yX2_clear : MethodName := ⟨RX2, "clear", "()V"⟩
abbrev cX2_copyFrom : ByteArray := prog_4_method_3_code
def yX2_copyFrom : MethodName := ⟨RX2, "copyFrom", "(LLikelyWalks$Sender;)V"⟩
abbrev cX2_push : ByteArray := prog_4_method_4_code
def yX2_push : MethodName := ⟨RX2, "push", "(LLikelyWalks$Code;I)V"⟩
def RX3 : String := "LikelyWalks$State"
def TX3 : u_T := fun k => match k with
  | 0 => ("LikelyWalks$State", "depth", "I", false)
  | 1 => ("LikelyWalks$State", "code", "LLikelyWalks$Code;", true)
  | 2 => ("LikelyWalks$State", "sender", "LLikelyWalks$Sender;", true)
  | _ => ("LikelyWalks$State", "reader", "LLikelyWalks$Reader;", true)
def tyX3 : Nat → FieldType := fun k => match k with
  | 0 => .int
  | 1 => .object "LikelyWalks$Code"
  | 2 => .object "LikelyWalks$Sender"
  | _ => .object "LikelyWalks$Reader"
abbrev wsX30 : List Cond := u_ws RX3 TX3 4
theorem nmX3 : ∀ a, a < 4 → ∀ b, b < 4 → a ≠ b → (TX3 a).2.1 ≠ (TX3 b).2.1 := by decide +kernel
theorem tyX3_ok : ∀ k, k < 4 → parseFieldDescriptor (TX3 k).2.2.1 = some (tyX3 k) := by decide +kernel
abbrev cX3_init : ByteArray := prog_5_method_1_code
def yX3_init : MethodName := ⟨RX3, "<init>", "()V"⟩
abbrev cX3_copyFrom : ByteArray := prog_5_method_2_code
def yX3_copyFrom : MethodName := ⟨RX3, "copyFrom", "(LLikelyWalks$State;)V"⟩
def RX4 : String := "LikelyWalks$Text"
def TX4 : u_T := fun k => match k with
  | 0 => ("LikelyWalks$Text", "length", "I", false)
  | _ => ("LikelyWalks$Text", "values", "[I", true)
def tyX4 : Nat → FieldType := fun k => match k with
  | 0 => .int
  | _ => .array .int
abbrev wsX40 : List Cond := u_ws RX4 TX4 2
theorem nmX4 : ∀ a, a < 2 → ∀ b, b < 2 → a ≠ b → (TX4 a).2.1 ≠ (TX4 b).2.1 := by decide +kernel
theorem tyX4_ok : ∀ k, k < 2 → parseFieldDescriptor (TX4 k).2.2.1 = some (tyX4 k) := by decide +kernel
abbrev cX4_init : ByteArray := prog_6_method_1_code
def yX4_init : MethodName := ⟨RX4, "<init>", "()V"⟩
abbrev cX4_append : ByteArray := prog_6_method_2_code
def yX4_append : MethodName := ⟨RX4, "append", "(C)V"⟩
abbrev cX4_valueOf : ByteArray := prog_6_method_3_code
def yX4_valueOf : MethodName := ⟨RX4, "valueOf", "(C)I"⟩
abbrev cX4_firstFault : ByteArray := prog_6_method_4_code
def yX4_firstFault : MethodName := ⟨RX4, "firstFault", "(I)I"⟩
def RX5 : String := "LikelyWalks"
def TX5 : u_T := fun k => match k with
  | 0 => ("LikelyWalks", "now", "LLikelyWalks$State;", true)
  | 1 => ("LikelyWalks", "kept", "LLikelyWalks$State;", true)
  | 2 => ("LikelyWalks", "isKept", "Z", false)
  | 3 => ("LikelyWalks", "past", "[LLikelyWalks$State;", true)
  | 4 => ("LikelyWalks", "pastCount", "I", false)
  | 5 => ("LikelyWalks", "text", "LLikelyWalks$Text;", true)
  | _ => ("LikelyWalks", "distances", "[I", true)
def tyX5 : Nat → FieldType := fun k => match k with
  | 0 => .object "LikelyWalks$State"
  | 1 => .object "LikelyWalks$State"
  | 2 => .boolean
  | 3 => .array (.object "LikelyWalks$State")
  | 4 => .int
  | 5 => .object "LikelyWalks$Text"
  | _ => .array .int
abbrev wsX50 : List Cond := u_ws RX5 TX5 7
theorem nmX5 : ∀ a, a < 7 → ∀ b, b < 7 → a ≠ b → (TX5 a).2.1 ≠ (TX5 b).2.1 := by decide +kernel
theorem tyX5_ok : ∀ k, k < 7 → parseFieldDescriptor (TX5 k).2.2.1 = some (tyX5 k) := by decide +kernel
abbrev cX5_init : ByteArray := prog_1_method_1_code
def yX5_init : MethodName := ⟨RX5, "<init>", "()V"⟩
abbrev cX5_setCode : ByteArray := prog_1_method_2_code
def yX5_setCode : MethodName := ⟨RX5, "setCode", "(IIII)I"⟩
abbrev cX5_setDepth : ByteArray := prog_1_method_3_code
def yX5_setDepth : MethodName := ⟨RX5, "setDepth", "(I)I"⟩
abbrev cX5_send : ByteArray := prog_1_method_4_code
def yX5_send : MethodName := ⟨RX5, "send", "()I"⟩
abbrev cX5_sendTail : ByteArray := prog_1_method_5_code
def yX5_sendTail : MethodName := ⟨RX5, "sendTail", "()I"⟩
abbrev cX5_flip : ByteArray := prog_1_method_6_code
def yX5_flip : MethodName := ⟨RX5, "flip", "(I)I"⟩
abbrev cX5_erase : ByteArray := prog_1_method_7_code
def yX5_erase : MethodName := ⟨RX5, "erase", "(I)I"⟩
abbrev cX5_take : ByteArray := prog_1_method_8_code
def yX5_take : MethodName := ⟨RX5, "take", "(I)I"⟩
abbrev cX5_hear : ByteArray := prog_1_method_9_code
def yX5_hear : MethodName := ⟨RX5, "hear", "()I"⟩
abbrev cX5_finish : ByteArray := prog_1_method_10_code
def yX5_finish : MethodName := ⟨RX5, "finish", "(Z)I"⟩
abbrev cX5_reset : ByteArray := prog_1_method_11_code
def yX5_reset : MethodName := ⟨RX5, "reset", "()I"⟩
abbrev cX5_type : ByteArray := prog_1_method_12_code
def yX5_type : MethodName := ⟨RX5, "type", "(C)I"⟩
abbrev cX5_clearText : ByteArray := prog_1_method_13_code
def yX5_clearText : MethodName := ⟨RX5, "clearText", "()I"⟩
abbrev cX5_undo : ByteArray := prog_1_method_14_code
def yX5_undo : MethodName := ⟨RX5, "undo", "()I"⟩
abbrev cX5_keep : ByteArray := prog_1_method_15_code
def yX5_keep : MethodName := ⟨RX5, "keep", "()I"⟩
abbrev cX5_restore : ByteArray := prog_1_method_16_code
def yX5_restore : MethodName := ⟨RX5, "restore", "()I"⟩
abbrev cX5_step : ByteArray := prog_1_method_17_code
def yX5_step : MethodName := ⟨RX5, "step", "(III)I"⟩
abbrev cX5_line : ByteArray := prog_1_method_18_code
def yX5_line : MethodName := ⟨RX5, "line", "(II)I"⟩
abbrev cX5_sent : ByteArray := prog_1_method_19_code
def yX5_sent : MethodName := ⟨RX5, "sent", "(I)I"⟩
abbrev cX5_released : ByteArray := prog_1_method_20_code
def yX5_released : MethodName := ⟨RX5, "released", "(I)I"⟩
abbrev cX5_metric : ByteArray := prog_1_method_21_code
def yX5_metric : MethodName := ⟨RX5, "metric", "(I)I"⟩
abbrev cX5_survivor : ByteArray := prog_1_method_22_code
def yX5_survivor : MethodName := ⟨RX5, "survivor", "(II)I"⟩
abbrev cX5_agreed : ByteArray := prog_1_method_23_code
def yX5_agreed : MethodName := ⟨RX5, "agreed", "()I"⟩
abbrev cX5_freeDistance : ByteArray := prog_1_method_24_code
def yX5_freeDistance : MethodName := ⟨RX5, "freeDistance", "()I"⟩
abbrev cX5_hasIdleRing : ByteArray := prog_1_method_25_code
def yX5_hasIdleRing : MethodName := ⟨RX5, "hasIdleRing", "()I"⟩
abbrev cX5_wrongBits : ByteArray := prog_1_method_26_code
def yX5_wrongBits : MethodName := ⟨RX5, "wrongBits", "()I"⟩
abbrev cX5_count : ByteArray := prog_1_method_27_code
def yX5_count : MethodName := ⟨RX5, "count", "(I)I"⟩
abbrev cX5_recordNow : ByteArray := prog_1_method_28_code
def yX5_recordNow : MethodName := ⟨RX5, "recordNow", "()V"⟩
abbrev cX5_dropOldest : ByteArray := prog_1_method_29_code
def yX5_dropOldest : MethodName := ⟨RX5, "dropOldest", "()V"⟩
abbrev cX5_lineLength : ByteArray := prog_1_method_30_code
def yX5_lineLength : MethodName := ⟨RX5, "lineLength", "()I"⟩
abbrev cX5_isOnLine : ByteArray := prog_1_method_31_code
def yX5_isOnLine : MethodName := ⟨RX5, "isOnLine", "(I)Z"⟩
abbrev cX5_isTaken : ByteArray := prog_1_method_32_code
def yX5_isTaken : MethodName := ⟨RX5, "isTaken", "(I)Z"⟩
abbrev cX5_erasedSymbols : ByteArray := prog_1_method_33_code
def yX5_erasedSymbols : MethodName := ⟨RX5, "erasedSymbols", "()I"⟩
abbrev cX5_flippedSymbols : ByteArray := prog_1_method_34_code
def yX5_flippedSymbols : MethodName := ⟨RX5, "flippedSymbols", "()I"⟩
def RX6 : String := "LikelyWalksModel"
def TX6 : u_T := fun k => match k with
  | 0 => ("LikelyWalksModel", "now", "[I", true)
  | 1 => ("LikelyWalksModel", "history", "[I", true)
  | 2 => ("LikelyWalksModel", "states", "I", false)
  | 3 => ("LikelyWalksModel", "shot", "[I", true)
  | 4 => ("LikelyWalksModel", "isShot", "Z", false)
  | 5 => ("LikelyWalksModel", "text", "[I", true)
  | 6 => ("LikelyWalksModel", "typed", "I", false)
  | 7 => ("LikelyWalksModel", "heard", "[I", true)
  | 8 => ("LikelyWalksModel", "metrics", "[I", true)
  | 9 => ("LikelyWalksModel", "walks", "[I", true)
  | _ => ("LikelyWalksModel", "far", "[I", true)
def tyX6 : Nat → FieldType := fun k => match k with
  | 0 => .array .int
  | 1 => .array .int
  | 2 => .int
  | 3 => .array .int
  | 4 => .boolean
  | 5 => .array .int
  | 6 => .int
  | 7 => .array .int
  | 8 => .array .int
  | 9 => .array .int
  | _ => .array .int
abbrev wsX60 : List Cond := u_ws RX6 TX6 11
theorem nmX6 : ∀ a, a < 11 → ∀ b, b < 11 → a ≠ b → (TX6 a).2.1 ≠ (TX6 b).2.1 := by decide +kernel
theorem tyX6_ok : ∀ k, k < 11 → parseFieldDescriptor (TX6 k).2.2.1 = some (tyX6 k) := by decide +kernel
abbrev cX6_init : ByteArray := prog_8_method_1_code
def yX6_init : MethodName := ⟨RX6, "<init>", "()V"⟩
abbrev cX6_in : ByteArray := prog_8_method_3_code
def yX6_in : MethodName := ⟨RX6, "in", "(III)Z"⟩
abbrev cX6_record : ByteArray := prog_8_method_4_code
def yX6_record : MethodName := ⟨RX6, "record", "()V"⟩
abbrev cX6_registers : ByteArray := prog_8_method_5_code
def yX6_registers : MethodName := ⟨RX6, "registers", "()I"⟩
abbrev cX6_window : ByteArray := prog_8_method_6_code
def yX6_window : MethodName := ⟨RX6, "window", "(II)I"⟩
abbrev cX6_symbol : ByteArray := prog_8_method_7_code
def yX6_symbol : MethodName := ⟨RX6, "symbol", "(II)I"⟩
abbrev cX6_ones : ByteArray := prog_8_method_8_code
def yX6_ones : MethodName := ⟨RX6, "ones", "(I)I"⟩
abbrev cX6_clearReader : ByteArray := prog_8_method_9_code
def yX6_clearReader : MethodName := ⟨RX6, "clearReader", "()V"⟩
abbrev cX6_setCode : ByteArray := prog_8_method_10_code
def yX6_setCode : MethodName := ⟨RX6, "setCode", "(IIII)I"⟩
abbrev cX6_setDepth : ByteArray := prog_8_method_11_code
def yX6_setDepth : MethodName := ⟨RX6, "setDepth", "(I)I"⟩
abbrev cX6_type : ByteArray := prog_8_method_12_code
def yX6_type : MethodName := ⟨RX6, "type", "(C)I"⟩
abbrev cX6_clearText : ByteArray := prog_8_method_13_code
def yX6_clearText : MethodName := ⟨RX6, "clearText", "()I"⟩
abbrev cX6_fault : ByteArray := prog_8_method_14_code
def yX6_fault : MethodName := ⟨RX6, "fault", "(Z)I"⟩
abbrev cX6_symbols : ByteArray := prog_8_method_15_code
def yX6_symbols : MethodName := ⟨RX6, "symbols", "()I"⟩
abbrev cX6_sendBit : ByteArray := prog_8_method_16_code
def yX6_sendBit : MethodName := ⟨RX6, "sendBit", "(I)V"⟩
abbrev cX6_send : ByteArray := prog_8_method_17_code
def yX6_send : MethodName := ⟨RX6, "send", "()I"⟩
abbrev cX6_sendTail : ByteArray := prog_8_method_18_code
def yX6_sendTail : MethodName := ⟨RX6, "sendTail", "()I"⟩
abbrev cX6_flip : ByteArray := prog_8_method_19_code
def yX6_flip : MethodName := ⟨RX6, "flip", "(I)I"⟩
abbrev cX6_erase : ByteArray := prog_8_method_20_code
def yX6_erase : MethodName := ⟨RX6, "erase", "(I)I"⟩
abbrev cX6_walkBit : ByteArray := prog_8_method_21_code
def yX6_walkBit : MethodName := ⟨RX6, "walkBit", "(II)I"⟩
abbrev cX6_bestState : ByteArray := prog_8_method_22_code
def yX6_bestState : MethodName := ⟨RX6, "bestState", "()I"⟩
abbrev cX6_release : ByteArray := prog_8_method_23_code
def yX6_release : MethodName := ⟨RX6, "release", "(I)V"⟩
abbrev cX6_price : ByteArray := prog_8_method_24_code
def yX6_price : MethodName := ⟨RX6, "price", "(I)I"⟩
abbrev cX6_lay : ByteArray := prog_8_method_25_code
def yX6_lay : MethodName := ⟨RX6, "lay", "(I)V"⟩
abbrev cX6_go : ByteArray := prog_8_method_26_code
def yX6_go : MethodName := ⟨RX6, "go", "()V"⟩
abbrev cX6_take : ByteArray := prog_8_method_27_code
def yX6_take : MethodName := ⟨RX6, "take", "(I)I"⟩
abbrev cX6_hear : ByteArray := prog_8_method_28_code
def yX6_hear : MethodName := ⟨RX6, "hear", "()I"⟩
abbrev cX6_finish : ByteArray := prog_8_method_29_code
def yX6_finish : MethodName := ⟨RX6, "finish", "(Z)I"⟩
abbrev cX6_reset : ByteArray := prog_8_method_30_code
def yX6_reset : MethodName := ⟨RX6, "reset", "()I"⟩
abbrev cX6_undo : ByteArray := prog_8_method_31_code
def yX6_undo : MethodName := ⟨RX6, "undo", "()I"⟩
abbrev cX6_keep : ByteArray := prog_8_method_32_code
def yX6_keep : MethodName := ⟨RX6, "keep", "()I"⟩
abbrev cX6_restore : ByteArray := prog_8_method_33_code
def yX6_restore : MethodName := ⟨RX6, "restore", "()I"⟩
abbrev cX6_isState : ByteArray := prog_8_method_34_code
def yX6_isState : MethodName := ⟨RX6, "isState", "(I)Z"⟩
abbrev cX6_step : ByteArray := prog_8_method_35_code
def yX6_step : MethodName := ⟨RX6, "step", "(III)I"⟩
abbrev cX6_line : ByteArray := prog_8_method_36_code
def yX6_line : MethodName := ⟨RX6, "line", "(II)I"⟩
abbrev cX6_sent : ByteArray := prog_8_method_37_code
def yX6_sent : MethodName := ⟨RX6, "sent", "(I)I"⟩
abbrev cX6_released : ByteArray := prog_8_method_38_code
def yX6_released : MethodName := ⟨RX6, "released", "(I)I"⟩
abbrev cX6_metric : ByteArray := prog_8_method_39_code
def yX6_metric : MethodName := ⟨RX6, "metric", "(I)I"⟩
abbrev cX6_survivor : ByteArray := prog_8_method_40_code
def yX6_survivor : MethodName := ⟨RX6, "survivor", "(II)I"⟩
abbrev cX6_areAlikeAt : ByteArray := prog_8_method_41_code
def yX6_areAlikeAt : MethodName := ⟨RX6, "areAlikeAt", "(I)Z"⟩
abbrev cX6_agreed : ByteArray := prog_8_method_42_code
def yX6_agreed : MethodName := ⟨RX6, "agreed", "()I"⟩
abbrev cX6_layFar : ByteArray := prog_8_method_43_code
def yX6_layFar : MethodName := ⟨RX6, "layFar", "()V"⟩
abbrev cX6_freeDistance : ByteArray := prog_8_method_44_code
def yX6_freeDistance : MethodName := ⟨RX6, "freeDistance", "()I"⟩
abbrev cX6_goesOn : ByteArray := prog_8_method_45_code
def yX6_goesOn : MethodName := ⟨RX6, "goesOn", "(II)Z"⟩
abbrev cX6_hasIdleRing : ByteArray := prog_8_method_46_code
def yX6_hasIdleRing : MethodName := ⟨RX6, "hasIdleRing", "()I"⟩
abbrev cX6_wrongBits : ByteArray := prog_8_method_47_code
def yX6_wrongBits : MethodName := ⟨RX6, "wrongBits", "()I"⟩
abbrev cX6_changedSymbols : ByteArray := prog_8_method_48_code
def yX6_changedSymbols : MethodName := ⟨RX6, "changedSymbols", "(Z)I"⟩
abbrev cX6_reached : ByteArray := prog_8_method_49_code
def yX6_reached : MethodName := ⟨RX6, "reached", "()I"⟩
abbrev cX6_count : ByteArray := prog_8_method_50_code
def yX6_count : MethodName := ⟨RX6, "count", "(I)I"⟩
def RJ6 : String := "java/lang/Integer"
def TJ6 : u_T := fun k => match k with
  | _ => ("", "", "", false)
def tyJ6 : Nat → FieldType := fun k => match k with
  | _ => .int
abbrev wsJ60 : List Cond := u_ws RJ6 TJ6 0
theorem nmJ6 : ∀ a, a < 0 → ∀ b, b < 0 → a ≠ b → (TJ6 a).2.1 ≠ (TJ6 b).2.1 := by decide +kernel
theorem tyJ6_ok : ∀ k, k < 0 → parseFieldDescriptor (TJ6 k).2.2.1 = some (tyJ6 k) := by decide +kernel
abbrev cJ6_bitCount_0f7a4 : ByteArray := prog_9_method_49_code
def yJ6_bitCount_0f7a4 : MethodName := ⟨RJ6, "bitCount", "(I)I"⟩
def RJ13 : String := "java/lang/Long"
def TJ13 : u_T := fun k => match k with
  | _ => ("", "", "", false)
def tyJ13 : Nat → FieldType := fun k => match k with
  | _ => .int
abbrev wsJ130 : List Cond := u_ws RJ13 TJ13 0
theorem nmJ13 : ∀ a, a < 0 → ∀ b, b < 0 → a ≠ b → (TJ13 a).2.1 ≠ (TJ13 b).2.1 := by decide +kernel
theorem tyJ13_ok : ∀ k, k < 0 → parseFieldDescriptor (TJ13 k).2.2.1 = some (tyJ13 k) := by decide +kernel
abbrev cJ13_bitCount_95d88 : ByteArray := prog_10_method_50_code
def yJ13_bitCount_95d88 : MethodName := ⟨RJ13, "bitCount", "(J)I"⟩
def RJ9 : String := "java/lang/Math"
def TJ9 : u_T := fun k => match k with
  | _ => ("", "", "", false)
def tyJ9 : Nat → FieldType := fun k => match k with
  | _ => .int
abbrev wsJ90 : List Cond := u_ws RJ9 TJ9 0
theorem nmJ9 : ∀ a, a < 0 → ∀ b, b < 0 → a ≠ b → (TJ9 a).2.1 ≠ (TJ9 b).2.1 := by decide +kernel
theorem tyJ9_ok : ∀ k, k < 0 → parseFieldDescriptor (TJ9 k).2.2.1 = some (tyJ9 k) := by decide +kernel
abbrev cJ9_min_7cf53 : ByteArray := prog_11_method_69_code
def yJ9_min_7cf53 : MethodName := ⟨RJ9, "min", "(II)I"⟩
def RJ10 : String := "java/lang/System"
def TJ10 : u_T := fun k => match k with
  | _ => ("", "", "", false)
def tyJ10 : Nat → FieldType := fun k => match k with
  | _ => .int
abbrev wsJ100 : List Cond := u_ws RJ10 TJ10 0
theorem nmJ10 : ∀ a, a < 0 → ∀ b, b < 0 → a ≠ b → (TJ10 a).2.1 ≠ (TJ10 b).2.1 := by decide +kernel
theorem tyJ10_ok : ∀ k, k < 0 → parseFieldDescriptor (TJ10 k).2.2.1 = some (tyJ10 k) := by decide +kernel
def RJ7 : String := "java/util/Arrays"
def TJ7 : u_T := fun k => match k with
  | _ => ("", "", "", false)
def tyJ7 : Nat → FieldType := fun k => match k with
  | _ => .int
abbrev wsJ70 : List Cond := u_ws RJ7 TJ7 0
theorem nmJ7 : ∀ a, a < 0 → ∀ b, b < 0 → a ≠ b → (TJ7 a).2.1 ≠ (TJ7 b).2.1 := by decide +kernel
theorem tyJ7_ok : ∀ k, k < 0 → parseFieldDescriptor (TJ7 k).2.2.1 = some (tyJ7 k) := by decide +kernel
abbrev cJ7_fill_53178 : ByteArray := prog_13_method_103_code
def yJ7_fill_53178 : MethodName := ⟨RJ7, "fill", "([II)V"⟩
def RL : String := "LikelyWalksLaw"
abbrev cL_law : ByteArray := code
def yL_law : MethodName := ⟨RL, "law", "([I)Z"⟩
def wsX0_choose : List Cond := .code yX0_choose cX0_choose 5 none :: ([.fieldLink RX0 19 "LikelyWalks$Code" "memory" "I", .fieldLink RX0 23 "LikelyWalks$Code" "outputs" "I", .fieldLink RX0 9 "LikelyWalks$Code" "taps" "[I"] ++ wsX00)
def wsX0_init : List Cond := .code yX0_init cX0_init 1 none :: ([.methodLink RX0 3 objectInit, .instanceMethod objectInit, .code objectInit ⟨#[0xb1]⟩ 1 none, .arrayClass .int, .fieldLink RX0 9 "LikelyWalks$Code" "taps" "[I", .methodLink RX0 15 yX0_choose, .instanceMethod yX0_choose, .selects RX0 yX0_choose yX0_choose, .initialized RX0, .code yX0_choose cX0_choose 5 none, .fieldLink RX0 19 "LikelyWalks$Code" "memory" "I", .fieldLink RX0 23 "LikelyWalks$Code" "outputs" "I"] ++ wsX00)
def wsX0_copyFrom : List Cond := .code yX0_copyFrom cX0_copyFrom 2 none :: ([.fieldLink RX0 19 "LikelyWalks$Code" "memory" "I", .fieldLink RX0 9 "LikelyWalks$Code" "taps" "[I", .methodLink RX0 15 yX0_choose, .instanceMethod yX0_choose, .selects RX0 yX0_choose yX0_choose, .initialized RX0, .code yX0_choose cX0_choose 5 none, .fieldLink RX0 23 "LikelyWalks$Code" "outputs" "I"] ++ wsX00)
def wsX0_states : List Cond := .code yX0_states cX0_states 1 (some .int) :: ([.fieldLink RX0 19 "LikelyWalks$Code" "memory" "I"] ++ wsX00)
def wsX0_hasState : List Cond := .code yX0_hasState cX0_hasState 2 (some .boolean) :: ([.methodLink RX0 26 yX0_states, .instanceMethod yX0_states, .selects RX0 yX0_states yX0_states, .initialized RX0, .code yX0_states cX0_states 1 (some .int), .fieldLink RX0 19 "LikelyWalks$Code" "memory" "I"] ++ wsX00)
def wsX0_windowOf : List Cond := .code yX0_windowOf cX0_windowOf 3 (some .int) :: ([.fieldLink RX0 19 "LikelyWalks$Code" "memory" "I"] ++ wsX00)
def wsX0_stateAfter : List Cond := .code yX0_stateAfter cX0_stateAfter 3 (some .int) :: ([.methodLink RX0 30 yX0_windowOf, .instanceMethod yX0_windowOf, .selects RX0 yX0_windowOf yX0_windowOf, .initialized RX0, .code yX0_windowOf cX0_windowOf 3 (some .int), .fieldLink RX0 19 "LikelyWalks$Code" "memory" "I"] ++ wsX00)
def wsX0_bitInto : List Cond := .code yX0_bitInto cX0_bitInto 2 (some .int) :: ([.fieldLink RX0 19 "LikelyWalks$Code" "memory" "I"] ++ wsX00)
def wsX0_lowerBefore : List Cond := .code yX0_lowerBefore cX0_lowerBefore 2 (some .int) :: ([.methodLink RX0 26 yX0_states, .instanceMethod yX0_states, .selects RX0 yX0_states yX0_states, .initialized RX0, .code yX0_states cX0_states 1 (some .int), .fieldLink RX0 19 "LikelyWalks$Code" "memory" "I"] ++ wsX00)
def wsJ6_bitCount_0f7a4 : List Cond := .code yJ6_bitCount_0f7a4 cJ6_bitCount_0f7a4 1 (some .int) :: ([.constant RJ6 265 (1431655765), .constant RJ6 266 (858993459), .constant RJ6 267 (252645135)])
def wsX0_symbolOf : List Cond := .code yX0_symbolOf cX0_symbolOf 3 (some .int) :: ([.fieldLink RX0 9 "LikelyWalks$Code" "taps" "[I", .methodLink RX0 34 yJ6_bitCount_0f7a4, .static yJ6_bitCount_0f7a4, .initialized RJ6, .code yJ6_bitCount_0f7a4 cJ6_bitCount_0f7a4 1 (some .int), .constant RJ6 265 (1431655765), .constant RJ6 266 (858993459), .constant RJ6 267 (252645135)] ++ wsX00)
def wsX0_symbolsOf : List Cond := .code yX0_symbolsOf cX0_symbolsOf 6 (some .int) :: ([.fieldLink RX0 23 "LikelyWalks$Code" "outputs" "I", .methodLink RX0 30 yX0_windowOf, .instanceMethod yX0_windowOf, .selects RX0 yX0_windowOf yX0_windowOf, .initialized RX0, .code yX0_windowOf cX0_windowOf 3 (some .int), .fieldLink RX0 19 "LikelyWalks$Code" "memory" "I", .methodLink RX0 40 yX0_symbolOf, .instanceMethod yX0_symbolOf, .selects RX0 yX0_symbolOf yX0_symbolOf, .code yX0_symbolOf cX0_symbolOf 3 (some .int), .fieldLink RX0 9 "LikelyWalks$Code" "taps" "[I", .methodLink RX0 34 yJ6_bitCount_0f7a4, .static yJ6_bitCount_0f7a4, .initialized RJ6, .code yJ6_bitCount_0f7a4 cJ6_bitCount_0f7a4 1 (some .int), .constant RJ6 265 (1431655765), .constant RJ6 266 (858993459), .constant RJ6 267 (252645135)] ++ wsX00)
def wsX0_onesOf : List Cond := .code yX0_onesOf cX0_onesOf 3 (some .int) :: ([.methodLink RX0 43 yX0_symbolsOf, .instanceMethod yX0_symbolsOf, .selects RX0 yX0_symbolsOf yX0_symbolsOf, .initialized RX0, .code yX0_symbolsOf cX0_symbolsOf 6 (some .int), .fieldLink RX0 23 "LikelyWalks$Code" "outputs" "I", .methodLink RX0 30 yX0_windowOf, .instanceMethod yX0_windowOf, .selects RX0 yX0_windowOf yX0_windowOf, .code yX0_windowOf cX0_windowOf 3 (some .int), .fieldLink RX0 19 "LikelyWalks$Code" "memory" "I", .methodLink RX0 40 yX0_symbolOf, .instanceMethod yX0_symbolOf, .selects RX0 yX0_symbolOf yX0_symbolOf, .code yX0_symbolOf cX0_symbolOf 3 (some .int), .fieldLink RX0 9 "LikelyWalks$Code" "taps" "[I", .methodLink RX0 34 yJ6_bitCount_0f7a4, .static yJ6_bitCount_0f7a4, .initialized RJ6, .code yJ6_bitCount_0f7a4 cJ6_bitCount_0f7a4 1 (some .int), .constant RJ6 265 (1431655765), .constant RJ6 266 (858993459), .constant RJ6 267 (252645135)] ++ wsX00)
def wsX0_priceOf : List Cond := .code yX0_priceOf cX0_priceOf 9 (some .int) :: ([.fieldLink RX0 23 "LikelyWalks$Code" "outputs" "I", .methodLink RX0 30 yX0_windowOf, .instanceMethod yX0_windowOf, .selects RX0 yX0_windowOf yX0_windowOf, .initialized RX0, .code yX0_windowOf cX0_windowOf 3 (some .int), .fieldLink RX0 19 "LikelyWalks$Code" "memory" "I", .methodLink RX0 40 yX0_symbolOf, .instanceMethod yX0_symbolOf, .selects RX0 yX0_symbolOf yX0_symbolOf, .code yX0_symbolOf cX0_symbolOf 3 (some .int), .fieldLink RX0 9 "LikelyWalks$Code" "taps" "[I", .methodLink RX0 34 yJ6_bitCount_0f7a4, .static yJ6_bitCount_0f7a4, .initialized RJ6, .code yJ6_bitCount_0f7a4 cJ6_bitCount_0f7a4 1 (some .int), .constant RJ6 265 (1431655765), .constant RJ6 266 (858993459), .constant RJ6 267 (252645135)] ++ wsX00)
def wsJ7_fill_53178 : List Cond := .code yJ7_fill_53178 cJ7_fill_53178 4 none :: ([])
def wsX0_lowerAfter_r1 : List Cond := [Cond.methodLink RX0 52 yX0_stateAfter, Cond.instanceMethod yX0_stateAfter, Cond.selects RX0 yX0_stateAfter yX0_stateAfter, Cond.initialized RX0, Cond.code yX0_stateAfter cX0_stateAfter 3 (some .int), Cond.methodLink RX0 30 yX0_windowOf, Cond.instanceMethod yX0_windowOf, Cond.selects RX0 yX0_windowOf yX0_windowOf, Cond.code yX0_windowOf cX0_windowOf 3 (some .int), Cond.fieldLink RX0 19 "LikelyWalks$Code" "memory" "I", Cond.methodLink RX0 55 yX0_onesOf, Cond.instanceMethod yX0_onesOf, Cond.selects RX0 yX0_onesOf yX0_onesOf, Cond.code yX0_onesOf cX0_onesOf 3 (some .int), Cond.methodLink RX0 43 yX0_symbolsOf, Cond.instanceMethod yX0_symbolsOf, Cond.selects RX0 yX0_symbolsOf yX0_symbolsOf, Cond.code yX0_symbolsOf cX0_symbolsOf 6 (some .int), Cond.fieldLink RX0 23 "LikelyWalks$Code" "outputs" "I", Cond.methodLink RX0 40 yX0_symbolOf, Cond.instanceMethod yX0_symbolOf, Cond.selects RX0 yX0_symbolOf yX0_symbolOf, Cond.code yX0_symbolOf cX0_symbolOf 3 (some .int), Cond.fieldLink RX0 9 "LikelyWalks$Code" "taps" "[I"]
def wsX0_lowerAfter_r2 : List Cond := [Cond.methodLink RX0 34 yJ6_bitCount_0f7a4, Cond.static yJ6_bitCount_0f7a4, Cond.initialized RJ6, Cond.code yJ6_bitCount_0f7a4 cJ6_bitCount_0f7a4 1 (some .int), Cond.constant RJ6 265 (1431655765), Cond.constant RJ6 266 (858993459), Cond.constant RJ6 267 (252645135)]
def wsX0_lowerAfter : List Cond := .code yX0_lowerAfter cX0_lowerAfter 7 none :: ((wsX0_lowerAfter_r1 ++ wsX0_lowerAfter_r2) ++ wsX00)
def wsX0_leastReturn_r1 : List Cond := [Cond.methodLink RX0 26 yX0_states, Cond.instanceMethod yX0_states, Cond.selects RX0 yX0_states yX0_states, Cond.initialized RX0, Cond.code yX0_states cX0_states 1 (some .int), Cond.fieldLink RX0 19 "LikelyWalks$Code" "memory" "I", Cond.methodLink RX0 46 yJ7_fill_53178, Cond.static yJ7_fill_53178, Cond.initialized RJ7, Cond.code yJ7_fill_53178 cJ7_fill_53178 4 none, Cond.methodLink RX0 52 yX0_stateAfter, Cond.instanceMethod yX0_stateAfter, Cond.selects RX0 yX0_stateAfter yX0_stateAfter, Cond.code yX0_stateAfter cX0_stateAfter 3 (some .int), Cond.methodLink RX0 30 yX0_windowOf, Cond.instanceMethod yX0_windowOf, Cond.selects RX0 yX0_windowOf yX0_windowOf, Cond.code yX0_windowOf cX0_windowOf 3 (some .int), Cond.methodLink RX0 55 yX0_onesOf, Cond.instanceMethod yX0_onesOf, Cond.selects RX0 yX0_onesOf yX0_onesOf, Cond.code yX0_onesOf cX0_onesOf 3 (some .int), Cond.methodLink RX0 43 yX0_symbolsOf, Cond.instanceMethod yX0_symbolsOf]
def wsX0_leastReturn_r2 : List Cond := [Cond.selects RX0 yX0_symbolsOf yX0_symbolsOf, Cond.code yX0_symbolsOf cX0_symbolsOf 6 (some .int), Cond.fieldLink RX0 23 "LikelyWalks$Code" "outputs" "I", Cond.methodLink RX0 40 yX0_symbolOf, Cond.instanceMethod yX0_symbolOf, Cond.selects RX0 yX0_symbolOf yX0_symbolOf, Cond.code yX0_symbolOf cX0_symbolOf 3 (some .int), Cond.fieldLink RX0 9 "LikelyWalks$Code" "taps" "[I", Cond.methodLink RX0 34 yJ6_bitCount_0f7a4, Cond.static yJ6_bitCount_0f7a4, Cond.initialized RJ6, Cond.code yJ6_bitCount_0f7a4 cJ6_bitCount_0f7a4 1 (some .int), Cond.constant RJ6 265 (1431655765), Cond.constant RJ6 266 (858993459), Cond.constant RJ6 267 (252645135), Cond.methodLink RX0 58 yX0_lowerAfter, Cond.instanceMethod yX0_lowerAfter, Cond.selects RX0 yX0_lowerAfter yX0_lowerAfter, Cond.code yX0_lowerAfter cX0_lowerAfter 7 none]
def wsX0_leastReturn : List Cond := .code yX0_leastReturn cX0_leastReturn 5 (some .int) :: ((wsX0_leastReturn_r1 ++ wsX0_leastReturn_r2) ++ wsX00)
def wsX0_leadsOnByZeros_r1 : List Cond := [Cond.methodLink RX0 43 yX0_symbolsOf, Cond.instanceMethod yX0_symbolsOf, Cond.selects RX0 yX0_symbolsOf yX0_symbolsOf, Cond.initialized RX0, Cond.code yX0_symbolsOf cX0_symbolsOf 6 (some .int), Cond.fieldLink RX0 23 "LikelyWalks$Code" "outputs" "I", Cond.methodLink RX0 30 yX0_windowOf, Cond.instanceMethod yX0_windowOf, Cond.selects RX0 yX0_windowOf yX0_windowOf, Cond.code yX0_windowOf cX0_windowOf 3 (some .int), Cond.fieldLink RX0 19 "LikelyWalks$Code" "memory" "I", Cond.methodLink RX0 40 yX0_symbolOf, Cond.instanceMethod yX0_symbolOf, Cond.selects RX0 yX0_symbolOf yX0_symbolOf, Cond.code yX0_symbolOf cX0_symbolOf 3 (some .int), Cond.fieldLink RX0 9 "LikelyWalks$Code" "taps" "[I", Cond.methodLink RX0 34 yJ6_bitCount_0f7a4, Cond.static yJ6_bitCount_0f7a4, Cond.initialized RJ6, Cond.code yJ6_bitCount_0f7a4 cJ6_bitCount_0f7a4 1 (some .int), Cond.constant RJ6 265 (1431655765), Cond.constant RJ6 266 (858993459), Cond.constant RJ6 267 (252645135), Cond.methodLink RX0 52 yX0_stateAfter]
def wsX0_leadsOnByZeros_r2 : List Cond := [Cond.instanceMethod yX0_stateAfter, Cond.selects RX0 yX0_stateAfter yX0_stateAfter, Cond.code yX0_stateAfter cX0_stateAfter 3 (some .int)]
def wsX0_leadsOnByZeros : List Cond := .code yX0_leadsOnByZeros cX0_leadsOnByZeros 5 (some .boolean) :: ((wsX0_leadsOnByZeros_r1 ++ wsX0_leadsOnByZeros_r2) ++ wsX00)
def wsX0_hasRingOfZeros_r1 : List Cond := [Cond.constantLong RX0 62 (2), Cond.methodLink RX0 26 yX0_states, Cond.instanceMethod yX0_states, Cond.selects RX0 yX0_states yX0_states, Cond.initialized RX0, Cond.code yX0_states cX0_states 1 (some .int), Cond.fieldLink RX0 19 "LikelyWalks$Code" "memory" "I", Cond.methodLink RX0 64 yX0_leadsOnByZeros, Cond.instanceMethod yX0_leadsOnByZeros, Cond.selects RX0 yX0_leadsOnByZeros yX0_leadsOnByZeros, Cond.code yX0_leadsOnByZeros cX0_leadsOnByZeros 5 (some .boolean), Cond.methodLink RX0 43 yX0_symbolsOf, Cond.instanceMethod yX0_symbolsOf, Cond.selects RX0 yX0_symbolsOf yX0_symbolsOf, Cond.code yX0_symbolsOf cX0_symbolsOf 6 (some .int), Cond.fieldLink RX0 23 "LikelyWalks$Code" "outputs" "I", Cond.methodLink RX0 30 yX0_windowOf, Cond.instanceMethod yX0_windowOf, Cond.selects RX0 yX0_windowOf yX0_windowOf, Cond.code yX0_windowOf cX0_windowOf 3 (some .int), Cond.methodLink RX0 40 yX0_symbolOf, Cond.instanceMethod yX0_symbolOf, Cond.selects RX0 yX0_symbolOf yX0_symbolOf, Cond.code yX0_symbolOf cX0_symbolOf 3 (some .int)]
def wsX0_hasRingOfZeros_r2 : List Cond := [Cond.fieldLink RX0 9 "LikelyWalks$Code" "taps" "[I", Cond.methodLink RX0 34 yJ6_bitCount_0f7a4, Cond.static yJ6_bitCount_0f7a4, Cond.initialized RJ6, Cond.code yJ6_bitCount_0f7a4 cJ6_bitCount_0f7a4 1 (some .int), Cond.constant RJ6 265 (1431655765), Cond.constant RJ6 266 (858993459), Cond.constant RJ6 267 (252645135), Cond.methodLink RX0 52 yX0_stateAfter, Cond.instanceMethod yX0_stateAfter, Cond.selects RX0 yX0_stateAfter yX0_stateAfter, Cond.code yX0_stateAfter cX0_stateAfter 3 (some .int)]
def wsX0_hasRingOfZeros : List Cond := .code yX0_hasRingOfZeros cX0_hasRingOfZeros 8 (some .boolean) :: ((wsX0_hasRingOfZeros_r1 ++ wsX0_hasRingOfZeros_r2) ++ wsX00)
def wsX1_clear : List Cond := .code yX1_clear cX1_clear 1 none :: ([.fieldLink RX1 27 "LikelyWalks$Reader" "steps" "I", .fieldLink RX1 31 "LikelyWalks$Reader" "lineSteps" "I", .fieldLink RX1 34 "LikelyWalks$Reader" "releasedCount" "I", .fieldLink RX1 37 "LikelyWalks$Reader" "isFinished" "Z", .fieldLink RX1 15 "LikelyWalks$Reader" "metrics" "[I", .methodLink RX1 41 yJ7_fill_53178, .static yJ7_fill_53178, .initialized RJ7, .code yJ7_fill_53178 cJ7_fill_53178 4 none] ++ wsX10)
def wsX1_init : List Cond := .code yX1_init cX1_init 1 none :: ([.methodLink RX1 3 objectInit, .instanceMethod objectInit, .code objectInit ⟨#[0xb1]⟩ 1 none, .arrayClass .int, .fieldLink RX1 9 "LikelyWalks$Reader" "releasedBits" "[I", .fieldLink RX1 15 "LikelyWalks$Reader" "metrics" "[I", .fieldLink RX1 18 "LikelyWalks$Reader" "newMetrics" "[I", .fieldLink RX1 21 "LikelyWalks$Reader" "fromUpper" "[I", .methodLink RX1 24 yX1_clear, .instanceMethod yX1_clear, .selects RX1 yX1_clear yX1_clear, .initialized RX1, .code yX1_clear cX1_clear 1 none, .fieldLink RX1 27 "LikelyWalks$Reader" "steps" "I", .fieldLink RX1 31 "LikelyWalks$Reader" "lineSteps" "I", .fieldLink RX1 34 "LikelyWalks$Reader" "releasedCount" "I", .fieldLink RX1 37 "LikelyWalks$Reader" "isFinished" "Z", .methodLink RX1 41 yJ7_fill_53178, .static yJ7_fill_53178, .initialized RJ7, .code yJ7_fill_53178 cJ7_fill_53178 4 none] ++ wsX10)
def wsX1_copyFrom : List Cond := .code yX1_copyFrom cX1_copyFrom 2 none :: ([.fieldLink RX1 27 "LikelyWalks$Reader" "steps" "I", .fieldLink RX1 31 "LikelyWalks$Reader" "lineSteps" "I", .fieldLink RX1 34 "LikelyWalks$Reader" "releasedCount" "I", .fieldLink RX1 37 "LikelyWalks$Reader" "isFinished" "Z", .fieldLink RX1 9 "LikelyWalks$Reader" "releasedBits" "[I", .methodLink RX1 47 arraycopyName, .native arraycopyName, .static arraycopyName, .initialized "java/lang/System", .fieldLink RX1 15 "LikelyWalks$Reader" "metrics" "[I", .fieldLink RX1 21 "LikelyWalks$Reader" "fromUpper" "[I"] ++ wsX10)
def wsX1_metricOver : List Cond := .code yX1_metricOver cX1_metricOver 6 (some .int) :: ([.fieldLink RX1 15 "LikelyWalks$Reader" "metrics" "[I", .methodLink RX1 78 yX0_priceOf, .instanceMethod yX0_priceOf, .selects RX0 yX0_priceOf yX0_priceOf, .initialized RX0, .code yX0_priceOf cX0_priceOf 9 (some .int), .fieldLink RX0 23 "LikelyWalks$Code" "outputs" "I", .methodLink RX0 30 yX0_windowOf, .instanceMethod yX0_windowOf, .selects RX0 yX0_windowOf yX0_windowOf, .code yX0_windowOf cX0_windowOf 3 (some .int), .fieldLink RX0 19 "LikelyWalks$Code" "memory" "I", .methodLink RX0 40 yX0_symbolOf, .instanceMethod yX0_symbolOf, .selects RX0 yX0_symbolOf yX0_symbolOf, .code yX0_symbolOf cX0_symbolOf 3 (some .int), .fieldLink RX0 9 "LikelyWalks$Code" "taps" "[I", .methodLink RX0 34 yJ6_bitCount_0f7a4, .static yJ6_bitCount_0f7a4, .initialized RJ6, .code yJ6_bitCount_0f7a4 cJ6_bitCount_0f7a4 1 (some .int), .constant RJ6 265 (1431655765), .constant RJ6 266 (858993459), .constant RJ6 267 (252645135)] ++ wsX10 ++ wsX00)
def wsX1_bestState : List Cond := .code yX1_bestState cX1_bestState 6 (some .int) :: ([.fieldLink RX1 15 "LikelyWalks$Reader" "metrics" "[I", .methodLink RX1 53 yX0_states, .instanceMethod yX0_states, .selects RX0 yX0_states yX0_states, .initialized RX0, .code yX0_states cX0_states 1 (some .int), .fieldLink RX0 19 "LikelyWalks$Code" "memory" "I"] ++ wsX10 ++ wsX00)
def wsX1_stateBefore : List Cond := .code yX1_stateBefore cX1_stateBefore 4 (some .int) :: ([.fieldLink RX1 21 "LikelyWalks$Reader" "fromUpper" "[I", .methodLink RX1 59 yX0_lowerBefore, .instanceMethod yX0_lowerBefore, .selects RX0 yX0_lowerBefore yX0_lowerBefore, .initialized RX0, .code yX0_lowerBefore cX0_lowerBefore 2 (some .int), .methodLink RX0 26 yX0_states, .instanceMethod yX0_states, .selects RX0 yX0_states yX0_states, .code yX0_states cX0_states 1 (some .int), .fieldLink RX0 19 "LikelyWalks$Code" "memory" "I"] ++ wsX10 ++ wsX00)
def wsX1_releaseUpTo : List Cond := .code yX1_releaseUpTo cX1_releaseUpTo 6 none :: ([.fieldLink RX1 27 "LikelyWalks$Reader" "steps" "I", .fieldLink RX1 34 "LikelyWalks$Reader" "releasedCount" "I", .fieldLink RX1 9 "LikelyWalks$Reader" "releasedBits" "[I", .methodLink RX1 63 yX0_bitInto, .instanceMethod yX0_bitInto, .selects RX0 yX0_bitInto yX0_bitInto, .initialized RX0, .code yX0_bitInto cX0_bitInto 2 (some .int), .fieldLink RX0 19 "LikelyWalks$Code" "memory" "I", .methodLink RX1 82 yX1_stateBefore, .instanceMethod yX1_stateBefore, .selects RX1 yX1_stateBefore yX1_stateBefore, .initialized RX1, .code yX1_stateBefore cX1_stateBefore 4 (some .int), .fieldLink RX1 21 "LikelyWalks$Reader" "fromUpper" "[I", .methodLink RX1 59 yX0_lowerBefore, .instanceMethod yX0_lowerBefore, .selects RX0 yX0_lowerBefore yX0_lowerBefore, .code yX0_lowerBefore cX0_lowerBefore 2 (some .int), .methodLink RX0 26 yX0_states, .instanceMethod yX0_states, .selects RX0 yX0_states yX0_states, .code yX0_states cX0_states 1 (some .int)] ++ wsX10 ++ wsX00)
def wsX1_advance_r1 : List Cond := [Cond.fieldLink RX1 27 "LikelyWalks$Reader" "steps" "I", Cond.fieldLink RX1 18 "LikelyWalks$Reader" "newMetrics" "[I", Cond.fieldLink RX1 15 "LikelyWalks$Reader" "metrics" "[I", Cond.methodLink RX1 47 arraycopyName, Cond.native arraycopyName, Cond.static arraycopyName, Cond.initialized "java/lang/System", Cond.fieldLink RX1 21 "LikelyWalks$Reader" "fromUpper" "[I", Cond.fieldLink RX1 34 "LikelyWalks$Reader" "releasedCount" "I", Cond.methodLink RX1 53 yX0_states, Cond.instanceMethod yX0_states, Cond.selects RX0 yX0_states yX0_states, Cond.initialized RX0, Cond.code yX0_states cX0_states 1 (some .int), Cond.fieldLink RX0 19 "LikelyWalks$Code" "memory" "I", Cond.methodLink RX1 59 yX0_lowerBefore, Cond.instanceMethod yX0_lowerBefore, Cond.selects RX0 yX0_lowerBefore yX0_lowerBefore, Cond.code yX0_lowerBefore cX0_lowerBefore 2 (some .int), Cond.methodLink RX0 26 yX0_states, Cond.methodLink RX1 63 yX0_bitInto, Cond.instanceMethod yX0_bitInto, Cond.selects RX0 yX0_bitInto yX0_bitInto, Cond.code yX0_bitInto cX0_bitInto 2 (some .int)]
def wsX1_advance_r2 : List Cond := [Cond.methodLink RX1 66 yX1_metricOver, Cond.instanceMethod yX1_metricOver, Cond.selects RX1 yX1_metricOver yX1_metricOver, Cond.initialized RX1, Cond.code yX1_metricOver cX1_metricOver 6 (some .int), Cond.methodLink RX1 78 yX0_priceOf, Cond.instanceMethod yX0_priceOf, Cond.selects RX0 yX0_priceOf yX0_priceOf, Cond.code yX0_priceOf cX0_priceOf 9 (some .int), Cond.fieldLink RX0 23 "LikelyWalks$Code" "outputs" "I", Cond.methodLink RX0 30 yX0_windowOf, Cond.instanceMethod yX0_windowOf, Cond.selects RX0 yX0_windowOf yX0_windowOf, Cond.code yX0_windowOf cX0_windowOf 3 (some .int), Cond.methodLink RX0 40 yX0_symbolOf, Cond.instanceMethod yX0_symbolOf, Cond.selects RX0 yX0_symbolOf yX0_symbolOf, Cond.code yX0_symbolOf cX0_symbolOf 3 (some .int), Cond.fieldLink RX0 9 "LikelyWalks$Code" "taps" "[I", Cond.methodLink RX0 34 yJ6_bitCount_0f7a4, Cond.static yJ6_bitCount_0f7a4, Cond.initialized RJ6, Cond.code yJ6_bitCount_0f7a4 cJ6_bitCount_0f7a4 1 (some .int), Cond.constant RJ6 265 (1431655765)]
def wsX1_advance_r3 : List Cond := [Cond.constant RJ6 266 (858993459), Cond.constant RJ6 267 (252645135), Cond.methodLink RX1 70 yX1_bestState, Cond.instanceMethod yX1_bestState, Cond.selects RX1 yX1_bestState yX1_bestState, Cond.code yX1_bestState cX1_bestState 6 (some .int), Cond.methodLink RX1 74 yX1_releaseUpTo, Cond.instanceMethod yX1_releaseUpTo, Cond.selects RX1 yX1_releaseUpTo yX1_releaseUpTo, Cond.code yX1_releaseUpTo cX1_releaseUpTo 6 none, Cond.fieldLink RX1 9 "LikelyWalks$Reader" "releasedBits" "[I", Cond.methodLink RX1 82 yX1_stateBefore, Cond.instanceMethod yX1_stateBefore, Cond.selects RX1 yX1_stateBefore yX1_stateBefore, Cond.code yX1_stateBefore cX1_stateBefore 4 (some .int)]
def wsX1_advance : List Cond := .code yX1_advance cX1_advance 13 none :: ((wsX1_advance_r1 ++ (wsX1_advance_r2 ++ wsX1_advance_r3)) ++ wsX10 ++ wsX00)
def wsX1_survivorBit : List Cond := .code yX1_survivorBit cX1_survivorBit 6 (some .int) :: ([.fieldLink RX1 27 "LikelyWalks$Reader" "steps" "I", .methodLink RX1 82 yX1_stateBefore, .instanceMethod yX1_stateBefore, .selects RX1 yX1_stateBefore yX1_stateBefore, .initialized RX1, .code yX1_stateBefore cX1_stateBefore 4 (some .int), .fieldLink RX1 21 "LikelyWalks$Reader" "fromUpper" "[I", .methodLink RX1 59 yX0_lowerBefore, .instanceMethod yX0_lowerBefore, .selects RX0 yX0_lowerBefore yX0_lowerBefore, .initialized RX0, .code yX0_lowerBefore cX0_lowerBefore 2 (some .int), .methodLink RX0 26 yX0_states, .instanceMethod yX0_states, .selects RX0 yX0_states yX0_states, .code yX0_states cX0_states 1 (some .int), .fieldLink RX0 19 "LikelyWalks$Code" "memory" "I", .methodLink RX1 63 yX0_bitInto, .instanceMethod yX0_bitInto, .selects RX0 yX0_bitInto yX0_bitInto, .code yX0_bitInto cX0_bitInto 2 (some .int)] ++ wsX10 ++ wsX00)
def wsX1_reached : List Cond := .code yX1_reached cX1_reached 6 (some .long) :: ([.fieldLink RX1 15 "LikelyWalks$Reader" "metrics" "[I", .methodLink RX1 53 yX0_states, .instanceMethod yX0_states, .selects RX0 yX0_states yX0_states, .initialized RX0, .code yX0_states cX0_states 1 (some .int), .fieldLink RX0 19 "LikelyWalks$Code" "memory" "I"] ++ wsX10 ++ wsX00)
def wsX1_commonBits_r1 : List Cond := [Cond.fieldLink RX1 27 "LikelyWalks$Reader" "steps" "I", Cond.methodLink RX1 53 yX0_states, Cond.instanceMethod yX0_states, Cond.selects RX0 yX0_states yX0_states, Cond.initialized RX0, Cond.code yX0_states cX0_states 1 (some .int), Cond.fieldLink RX0 19 "LikelyWalks$Code" "memory" "I", Cond.methodLink RX1 86 yX1_reached, Cond.instanceMethod yX1_reached, Cond.selects RX1 yX1_reached yX1_reached, Cond.initialized RX1, Cond.code yX1_reached cX1_reached 6 (some .long), Cond.fieldLink RX1 15 "LikelyWalks$Reader" "metrics" "[I", Cond.methodLink RX1 63 yX0_bitInto, Cond.instanceMethod yX0_bitInto, Cond.selects RX0 yX0_bitInto yX0_bitInto, Cond.code yX0_bitInto cX0_bitInto 2 (some .int), Cond.methodLink RX1 82 yX1_stateBefore, Cond.instanceMethod yX1_stateBefore, Cond.selects RX1 yX1_stateBefore yX1_stateBefore, Cond.code yX1_stateBefore cX1_stateBefore 4 (some .int), Cond.fieldLink RX1 21 "LikelyWalks$Reader" "fromUpper" "[I", Cond.methodLink RX1 59 yX0_lowerBefore, Cond.instanceMethod yX0_lowerBefore]
def wsX1_commonBits_r2 : List Cond := [Cond.selects RX0 yX0_lowerBefore yX0_lowerBefore, Cond.code yX0_lowerBefore cX0_lowerBefore 2 (some .int), Cond.methodLink RX0 26 yX0_states]
def wsX1_commonBits : List Cond := .code yX1_commonBits cX1_commonBits 11 (some .int) :: ((wsX1_commonBits_r1 ++ wsX1_commonBits_r2) ++ wsX10 ++ wsX00)
def wsJ13_bitCount_95d88 : List Cond := .code yJ13_bitCount_95d88 cJ13_bitCount_95d88 2 (some .int) :: ([.constantLong RJ13 314 (6148914691236517205), .constantLong RJ13 316 (3689348814741910323), .constantLong RJ13 318 (1085102592571150095)])
def wsX1_reachedStates : List Cond := .code yX1_reachedStates cX1_reachedStates 2 (some .int) :: ([.methodLink RX1 86 yX1_reached, .instanceMethod yX1_reached, .selects RX1 yX1_reached yX1_reached, .initialized RX1, .code yX1_reached cX1_reached 6 (some .long), .fieldLink RX1 15 "LikelyWalks$Reader" "metrics" "[I", .methodLink RX1 53 yX0_states, .instanceMethod yX0_states, .selects RX0 yX0_states yX0_states, .initialized RX0, .code yX0_states cX0_states 1 (some .int), .fieldLink RX0 19 "LikelyWalks$Code" "memory" "I", .methodLink RX1 90 yJ13_bitCount_95d88, .static yJ13_bitCount_95d88, .initialized RJ13, .code yJ13_bitCount_95d88 cJ13_bitCount_95d88 2 (some .int), .constantLong RJ13 314 (6148914691236517205), .constantLong RJ13 316 (3689348814741910323), .constantLong RJ13 318 (1085102592571150095)] ++ wsX10 ++ wsX00)
def wsX2_clear : List Cond := .code yX2_clear cX2_clear 1 none :: ([.fieldLink RX2 24 "LikelyWalks$Sender" "register" "I", .fieldLink RX2 28 "LikelyWalks$Sender" "bitCount" "I"] ++ wsX20)
def wsX2_init : List Cond := .code yX2_init cX2_init 1 none :: ([.methodLink RX2 3 objectInit, .instanceMethod objectInit, .code objectInit ⟨#[0xb1]⟩ 1 none, .arrayClass .int, .fieldLink RX2 9 "LikelyWalks$Sender" "bits" "[I", .fieldLink RX2 15 "LikelyWalks$Sender" "symbols" "[I", .fieldLink RX2 18 "LikelyWalks$Sender" "originals" "[I", .methodLink RX2 21 yX2_clear, .instanceMethod yX2_clear, .selects RX2 yX2_clear yX2_clear, .initialized RX2, .code yX2_clear cX2_clear 1 none, .fieldLink RX2 24 "LikelyWalks$Sender" "register" "I", .fieldLink RX2 28 "LikelyWalks$Sender" "bitCount" "I"] ++ wsX20)
def wsX2_copyFrom : List Cond := .code yX2_copyFrom cX2_copyFrom 2 none :: ([.fieldLink RX2 24 "LikelyWalks$Sender" "register" "I", .fieldLink RX2 28 "LikelyWalks$Sender" "bitCount" "I", .fieldLink RX2 9 "LikelyWalks$Sender" "bits" "[I", .methodLink RX2 31 arraycopyName, .native arraycopyName, .static arraycopyName, .initialized "java/lang/System", .fieldLink RX2 15 "LikelyWalks$Sender" "symbols" "[I", .fieldLink RX2 18 "LikelyWalks$Sender" "originals" "[I"] ++ wsX20)
def wsX2_push_r1 : List Cond := [Cond.fieldLink RX2 28 "LikelyWalks$Sender" "bitCount" "I", Cond.fieldLink RX2 24 "LikelyWalks$Sender" "register" "I", Cond.fieldLink RX2 43 "LikelyWalks$Code" "outputs" "I", Cond.fieldLink RX2 15 "LikelyWalks$Sender" "symbols" "[I", Cond.fieldLink RX2 18 "LikelyWalks$Sender" "originals" "[I", Cond.fieldLink RX2 9 "LikelyWalks$Sender" "bits" "[I", Cond.methodLink RX2 37 yX0_windowOf, Cond.instanceMethod yX0_windowOf, Cond.selects RX0 yX0_windowOf yX0_windowOf, Cond.initialized RX0, Cond.code yX0_windowOf cX0_windowOf 3 (some .int), Cond.fieldLink RX0 19 "LikelyWalks$Code" "memory" "I", Cond.methodLink RX2 46 yX0_symbolOf, Cond.instanceMethod yX0_symbolOf, Cond.selects RX0 yX0_symbolOf yX0_symbolOf, Cond.code yX0_symbolOf cX0_symbolOf 3 (some .int), Cond.fieldLink RX0 9 "LikelyWalks$Code" "taps" "[I", Cond.methodLink RX0 34 yJ6_bitCount_0f7a4, Cond.static yJ6_bitCount_0f7a4, Cond.initialized RJ6, Cond.code yJ6_bitCount_0f7a4 cJ6_bitCount_0f7a4 1 (some .int), Cond.constant RJ6 265 (1431655765), Cond.constant RJ6 266 (858993459), Cond.constant RJ6 267 (252645135)]
def wsX2_push_r2 : List Cond := [Cond.methodLink RX2 49 yX0_stateAfter, Cond.instanceMethod yX0_stateAfter, Cond.selects RX0 yX0_stateAfter yX0_stateAfter, Cond.code yX0_stateAfter cX0_stateAfter 3 (some .int), Cond.methodLink RX0 30 yX0_windowOf]
def wsX2_push : List Cond := .code yX2_push cX2_push 7 none :: ((wsX2_push_r1 ++ wsX2_push_r2) ++ wsX20 ++ wsX00)
def wsX3_init_r1 : List Cond := [Cond.methodLink RX3 1 objectInit, Cond.instanceMethod objectInit, Cond.code objectInit ⟨#[0xb1]⟩ 1 none, Cond.fieldLink RX3 7 "LikelyWalks$State" "depth" "I", Cond.classLink RX3 13 RX0, Cond.instantiable RX0 3, Cond.initialized RX0, Cond.fieldLink RX3 16 "LikelyWalks$State" "code" "LLikelyWalks$Code;", Cond.classLink RX3 20 RX2, Cond.instantiable RX2 5, Cond.initialized RX2, Cond.fieldLink RX3 23 "LikelyWalks$State" "sender" "LLikelyWalks$Sender;", Cond.classLink RX3 27 RX1, Cond.instantiable RX1 8, Cond.initialized RX1, Cond.fieldLink RX3 30 "LikelyWalks$State" "reader" "LLikelyWalks$Reader;", Cond.methodLink RX3 15 yX0_init, Cond.instanceMethod yX0_init, Cond.code yX0_init cX0_init 1 none, Cond.methodLink RX0 3 objectInit, Cond.arrayClass .int, Cond.fieldLink RX0 9 "LikelyWalks$Code" "taps" "[I", Cond.methodLink RX0 15 yX0_choose, Cond.instanceMethod yX0_choose]
def wsX3_init_r2 : List Cond := [Cond.selects RX0 yX0_choose yX0_choose, Cond.code yX0_choose cX0_choose 5 none, Cond.fieldLink RX0 19 "LikelyWalks$Code" "memory" "I", Cond.fieldLink RX0 23 "LikelyWalks$Code" "outputs" "I", Cond.methodLink RX3 22 yX2_init, Cond.instanceMethod yX2_init, Cond.code yX2_init cX2_init 1 none, Cond.methodLink RX2 3 objectInit, Cond.fieldLink RX2 9 "LikelyWalks$Sender" "bits" "[I", Cond.fieldLink RX2 15 "LikelyWalks$Sender" "symbols" "[I", Cond.fieldLink RX2 18 "LikelyWalks$Sender" "originals" "[I", Cond.methodLink RX2 21 yX2_clear, Cond.instanceMethod yX2_clear, Cond.selects RX2 yX2_clear yX2_clear, Cond.code yX2_clear cX2_clear 1 none, Cond.fieldLink RX2 24 "LikelyWalks$Sender" "register" "I", Cond.fieldLink RX2 28 "LikelyWalks$Sender" "bitCount" "I", Cond.methodLink RX3 29 yX1_init, Cond.instanceMethod yX1_init, Cond.code yX1_init cX1_init 1 none, Cond.methodLink RX1 3 objectInit, Cond.fieldLink RX1 9 "LikelyWalks$Reader" "releasedBits" "[I", Cond.fieldLink RX1 15 "LikelyWalks$Reader" "metrics" "[I", Cond.fieldLink RX1 18 "LikelyWalks$Reader" "newMetrics" "[I"]
def wsX3_init_r3 : List Cond := [Cond.fieldLink RX1 21 "LikelyWalks$Reader" "fromUpper" "[I", Cond.methodLink RX1 24 yX1_clear, Cond.instanceMethod yX1_clear, Cond.selects RX1 yX1_clear yX1_clear, Cond.code yX1_clear cX1_clear 1 none, Cond.fieldLink RX1 27 "LikelyWalks$Reader" "steps" "I", Cond.fieldLink RX1 31 "LikelyWalks$Reader" "lineSteps" "I", Cond.fieldLink RX1 34 "LikelyWalks$Reader" "releasedCount" "I", Cond.fieldLink RX1 37 "LikelyWalks$Reader" "isFinished" "Z", Cond.methodLink RX1 41 yJ7_fill_53178, Cond.static yJ7_fill_53178, Cond.initialized RJ7, Cond.code yJ7_fill_53178 cJ7_fill_53178 4 none]
def wsX3_init : List Cond := .code yX3_init cX3_init 1 none :: ((wsX3_init_r1 ++ (wsX3_init_r2 ++ wsX3_init_r3)) ++ wsX30 ++ wsX00 ++ wsX20 ++ wsX10)
def wsX3_copyFrom_r1 : List Cond := [Cond.fieldLink RX3 7 "LikelyWalks$State" "depth" "I", Cond.fieldLink RX3 16 "LikelyWalks$State" "code" "LLikelyWalks$Code;", Cond.fieldLink RX3 23 "LikelyWalks$State" "sender" "LLikelyWalks$Sender;", Cond.fieldLink RX3 30 "LikelyWalks$State" "reader" "LLikelyWalks$Reader;", Cond.methodLink RX3 34 yX0_copyFrom, Cond.instanceMethod yX0_copyFrom, Cond.selects RX0 yX0_copyFrom yX0_copyFrom, Cond.initialized RX0, Cond.code yX0_copyFrom cX0_copyFrom 2 none, Cond.fieldLink RX0 19 "LikelyWalks$Code" "memory" "I", Cond.fieldLink RX0 9 "LikelyWalks$Code" "taps" "[I", Cond.methodLink RX0 15 yX0_choose, Cond.instanceMethod yX0_choose, Cond.selects RX0 yX0_choose yX0_choose, Cond.code yX0_choose cX0_choose 5 none, Cond.fieldLink RX0 23 "LikelyWalks$Code" "outputs" "I", Cond.methodLink RX3 38 yX2_copyFrom, Cond.instanceMethod yX2_copyFrom, Cond.selects RX2 yX2_copyFrom yX2_copyFrom, Cond.initialized RX2, Cond.code yX2_copyFrom cX2_copyFrom 2 none, Cond.fieldLink RX2 24 "LikelyWalks$Sender" "register" "I", Cond.fieldLink RX2 28 "LikelyWalks$Sender" "bitCount" "I", Cond.fieldLink RX2 9 "LikelyWalks$Sender" "bits" "[I"]
def wsX3_copyFrom_r2 : List Cond := [Cond.methodLink RX2 31 arraycopyName, Cond.native arraycopyName, Cond.static arraycopyName, Cond.initialized "java/lang/System", Cond.fieldLink RX2 15 "LikelyWalks$Sender" "symbols" "[I", Cond.fieldLink RX2 18 "LikelyWalks$Sender" "originals" "[I", Cond.methodLink RX3 41 yX1_copyFrom, Cond.instanceMethod yX1_copyFrom, Cond.selects RX1 yX1_copyFrom yX1_copyFrom, Cond.initialized RX1, Cond.code yX1_copyFrom cX1_copyFrom 2 none, Cond.fieldLink RX1 27 "LikelyWalks$Reader" "steps" "I", Cond.fieldLink RX1 31 "LikelyWalks$Reader" "lineSteps" "I", Cond.fieldLink RX1 34 "LikelyWalks$Reader" "releasedCount" "I", Cond.fieldLink RX1 37 "LikelyWalks$Reader" "isFinished" "Z", Cond.fieldLink RX1 9 "LikelyWalks$Reader" "releasedBits" "[I", Cond.methodLink RX1 47 arraycopyName, Cond.fieldLink RX1 15 "LikelyWalks$Reader" "metrics" "[I", Cond.fieldLink RX1 21 "LikelyWalks$Reader" "fromUpper" "[I"]
def wsX3_copyFrom : List Cond := .code yX3_copyFrom cX3_copyFrom 2 none :: ((wsX3_copyFrom_r1 ++ wsX3_copyFrom_r2) ++ wsX30 ++ wsX00 ++ wsX20 ++ wsX10)
def wsX4_init : List Cond := .code yX4_init cX4_init 1 none :: ([.methodLink RX4 3 objectInit, .instanceMethod objectInit, .code objectInit ⟨#[0xb1]⟩ 1 none, .fieldLink RX4 9 "LikelyWalks$Text" "length" "I", .arrayClass .int, .fieldLink RX4 15 "LikelyWalks$Text" "values" "[I"] ++ wsX40)
def wsX4_valueOf : List Cond := .code yX4_valueOf cX4_valueOf 1 (some .int) :: ([])
def wsX4_append : List Cond := .code yX4_append cX4_append 2 none :: ([.fieldLink RX4 9 "LikelyWalks$Text" "length" "I", .fieldLink RX4 15 "LikelyWalks$Text" "values" "[I", .methodLink RX4 19 yX4_valueOf, .static yX4_valueOf, .initialized RX4, .code yX4_valueOf cX4_valueOf 1 (some .int)] ++ wsX40)
def wsX4_firstFault : List Cond := .code yX4_firstFault cX4_firstFault 3 (some .int) :: ([.fieldLink RX4 9 "LikelyWalks$Text" "length" "I", .fieldLink RX4 15 "LikelyWalks$Text" "values" "[I"] ++ wsX40)
def wsX5_init_r1 : List Cond := [Cond.methodLink RX5 3 objectInit, Cond.instanceMethod objectInit, Cond.code objectInit ⟨#[0xb1]⟩ 1 none, Cond.classLink RX5 9 RX3, Cond.instantiable RX3 4, Cond.initialized RX3, Cond.fieldLink RX5 12 "LikelyWalks" "now" "LLikelyWalks$State;", Cond.fieldLink RX5 16 "LikelyWalks" "kept" "LLikelyWalks$State;", Cond.fieldLink RX5 19 "LikelyWalks" "isKept" "Z", Cond.fieldLink RX5 23 "LikelyWalks" "past" "[LLikelyWalks$State;", Cond.fieldLink RX5 27 "LikelyWalks" "pastCount" "I", Cond.classLink RX5 31 RX4, Cond.instantiable RX4 2, Cond.initialized RX4, Cond.fieldLink RX5 34 "LikelyWalks" "text" "LLikelyWalks$Text;", Cond.arrayClass .int, Cond.fieldLink RX5 38 "LikelyWalks" "distances" "[I", Cond.methodLink RX5 11 yX3_init, Cond.instanceMethod yX3_init, Cond.code yX3_init cX3_init 1 none, Cond.methodLink RX3 1 objectInit, Cond.fieldLink RX3 7 "LikelyWalks$State" "depth" "I", Cond.classLink RX3 13 RX0, Cond.instantiable RX0 3]
def wsX5_init_r2 : List Cond := [Cond.initialized RX0, Cond.fieldLink RX3 16 "LikelyWalks$State" "code" "LLikelyWalks$Code;", Cond.classLink RX3 20 RX2, Cond.instantiable RX2 5, Cond.initialized RX2, Cond.fieldLink RX3 23 "LikelyWalks$State" "sender" "LLikelyWalks$Sender;", Cond.classLink RX3 27 RX1, Cond.instantiable RX1 8, Cond.initialized RX1, Cond.fieldLink RX3 30 "LikelyWalks$State" "reader" "LLikelyWalks$Reader;", Cond.methodLink RX3 15 yX0_init, Cond.instanceMethod yX0_init, Cond.code yX0_init cX0_init 1 none, Cond.methodLink RX0 3 objectInit, Cond.fieldLink RX0 9 "LikelyWalks$Code" "taps" "[I", Cond.methodLink RX0 15 yX0_choose, Cond.instanceMethod yX0_choose, Cond.selects RX0 yX0_choose yX0_choose, Cond.code yX0_choose cX0_choose 5 none, Cond.fieldLink RX0 19 "LikelyWalks$Code" "memory" "I", Cond.fieldLink RX0 23 "LikelyWalks$Code" "outputs" "I", Cond.methodLink RX3 22 yX2_init, Cond.instanceMethod yX2_init, Cond.code yX2_init cX2_init 1 none]
def wsX5_init_r3 : List Cond := [Cond.methodLink RX2 3 objectInit, Cond.fieldLink RX2 9 "LikelyWalks$Sender" "bits" "[I", Cond.fieldLink RX2 15 "LikelyWalks$Sender" "symbols" "[I", Cond.fieldLink RX2 18 "LikelyWalks$Sender" "originals" "[I", Cond.methodLink RX2 21 yX2_clear, Cond.instanceMethod yX2_clear, Cond.selects RX2 yX2_clear yX2_clear, Cond.code yX2_clear cX2_clear 1 none, Cond.fieldLink RX2 24 "LikelyWalks$Sender" "register" "I", Cond.fieldLink RX2 28 "LikelyWalks$Sender" "bitCount" "I", Cond.methodLink RX3 29 yX1_init, Cond.instanceMethod yX1_init, Cond.code yX1_init cX1_init 1 none, Cond.methodLink RX1 3 objectInit, Cond.fieldLink RX1 9 "LikelyWalks$Reader" "releasedBits" "[I", Cond.fieldLink RX1 15 "LikelyWalks$Reader" "metrics" "[I", Cond.fieldLink RX1 18 "LikelyWalks$Reader" "newMetrics" "[I", Cond.fieldLink RX1 21 "LikelyWalks$Reader" "fromUpper" "[I", Cond.methodLink RX1 24 yX1_clear, Cond.instanceMethod yX1_clear, Cond.selects RX1 yX1_clear yX1_clear, Cond.code yX1_clear cX1_clear 1 none, Cond.fieldLink RX1 27 "LikelyWalks$Reader" "steps" "I", Cond.fieldLink RX1 31 "LikelyWalks$Reader" "lineSteps" "I"]
def wsX5_init_r4 : List Cond := [Cond.fieldLink RX1 34 "LikelyWalks$Reader" "releasedCount" "I", Cond.fieldLink RX1 37 "LikelyWalks$Reader" "isFinished" "Z", Cond.methodLink RX1 41 yJ7_fill_53178, Cond.static yJ7_fill_53178, Cond.initialized RJ7, Cond.code yJ7_fill_53178 cJ7_fill_53178 4 none, Cond.methodLink RX5 33 yX4_init, Cond.instanceMethod yX4_init, Cond.code yX4_init cX4_init 1 none, Cond.methodLink RX4 3 objectInit, Cond.fieldLink RX4 9 "LikelyWalks$Text" "length" "I", Cond.fieldLink RX4 15 "LikelyWalks$Text" "values" "[I"]
def wsX5_init : List Cond := .code yX5_init cX5_init 2 none :: ((wsX5_init_r1 ++ (wsX5_init_r2 ++ (wsX5_init_r3 ++ wsX5_init_r4))) ++ wsX30 ++ wsX50 ++ wsX40 ++ wsX00 ++ wsX20 ++ wsX10)
def wsX5_dropOldest : List Cond := .code yX5_dropOldest cX5_dropOldest 3 none :: ([.fieldLink RX5 23 "LikelyWalks" "past" "[LLikelyWalks$State;", .fieldLink RX5 27 "LikelyWalks" "pastCount" "I"] ++ wsX50)
def wsX5_recordNow_r1 : List Cond := [Cond.fieldLink RX5 27 "LikelyWalks" "pastCount" "I", Cond.fieldLink RX5 23 "LikelyWalks" "past" "[LLikelyWalks$State;", Cond.fieldLink RX5 12 "LikelyWalks" "now" "LLikelyWalks$State;", Cond.methodLink RX5 200 yX5_dropOldest, Cond.instanceMethod yX5_dropOldest, Cond.selects RX5 yX5_dropOldest yX5_dropOldest, Cond.initialized RX5, Cond.code yX5_dropOldest cX5_dropOldest 3 none, Cond.methodLink RX5 138 yX3_copyFrom, Cond.instanceMethod yX3_copyFrom, Cond.selects RX3 yX3_copyFrom yX3_copyFrom, Cond.initialized RX3, Cond.code yX3_copyFrom cX3_copyFrom 2 none, Cond.fieldLink RX3 7 "LikelyWalks$State" "depth" "I", Cond.fieldLink RX3 16 "LikelyWalks$State" "code" "LLikelyWalks$Code;", Cond.fieldLink RX3 23 "LikelyWalks$State" "sender" "LLikelyWalks$Sender;", Cond.fieldLink RX3 30 "LikelyWalks$State" "reader" "LLikelyWalks$Reader;", Cond.methodLink RX3 34 yX0_copyFrom, Cond.instanceMethod yX0_copyFrom, Cond.selects RX0 yX0_copyFrom yX0_copyFrom, Cond.initialized RX0, Cond.code yX0_copyFrom cX0_copyFrom 2 none, Cond.fieldLink RX0 19 "LikelyWalks$Code" "memory" "I", Cond.fieldLink RX0 9 "LikelyWalks$Code" "taps" "[I"]
def wsX5_recordNow_r2 : List Cond := [Cond.methodLink RX0 15 yX0_choose, Cond.instanceMethod yX0_choose, Cond.selects RX0 yX0_choose yX0_choose, Cond.code yX0_choose cX0_choose 5 none, Cond.fieldLink RX0 23 "LikelyWalks$Code" "outputs" "I", Cond.methodLink RX3 38 yX2_copyFrom, Cond.instanceMethod yX2_copyFrom, Cond.selects RX2 yX2_copyFrom yX2_copyFrom, Cond.initialized RX2, Cond.code yX2_copyFrom cX2_copyFrom 2 none, Cond.fieldLink RX2 24 "LikelyWalks$Sender" "register" "I", Cond.fieldLink RX2 28 "LikelyWalks$Sender" "bitCount" "I", Cond.fieldLink RX2 9 "LikelyWalks$Sender" "bits" "[I", Cond.methodLink RX2 31 arraycopyName, Cond.native arraycopyName, Cond.static arraycopyName, Cond.initialized "java/lang/System", Cond.fieldLink RX2 15 "LikelyWalks$Sender" "symbols" "[I", Cond.fieldLink RX2 18 "LikelyWalks$Sender" "originals" "[I", Cond.methodLink RX3 41 yX1_copyFrom, Cond.instanceMethod yX1_copyFrom, Cond.selects RX1 yX1_copyFrom yX1_copyFrom, Cond.initialized RX1, Cond.code yX1_copyFrom cX1_copyFrom 2 none]
def wsX5_recordNow_r3 : List Cond := [Cond.fieldLink RX1 27 "LikelyWalks$Reader" "steps" "I", Cond.fieldLink RX1 31 "LikelyWalks$Reader" "lineSteps" "I", Cond.fieldLink RX1 34 "LikelyWalks$Reader" "releasedCount" "I", Cond.fieldLink RX1 37 "LikelyWalks$Reader" "isFinished" "Z", Cond.fieldLink RX1 9 "LikelyWalks$Reader" "releasedBits" "[I", Cond.methodLink RX1 47 arraycopyName, Cond.fieldLink RX1 15 "LikelyWalks$Reader" "metrics" "[I", Cond.fieldLink RX1 21 "LikelyWalks$Reader" "fromUpper" "[I"]
def wsX5_recordNow : List Cond := .code yX5_recordNow cX5_recordNow 1 none :: ((wsX5_recordNow_r1 ++ (wsX5_recordNow_r2 ++ wsX5_recordNow_r3)) ++ wsX50 ++ wsX30 ++ wsX00 ++ wsX20 ++ wsX10)
def wsX5_setCode_r1 : List Cond := [Cond.fieldLink RX5 12 "LikelyWalks" "now" "LLikelyWalks$State;", Cond.fieldLink RX5 45 "LikelyWalks$State" "code" "LLikelyWalks$Code;", Cond.fieldLink RX5 55 "LikelyWalks$State" "sender" "LLikelyWalks$Sender;", Cond.fieldLink RX5 64 "LikelyWalks$State" "reader" "LLikelyWalks$Reader;", Cond.fieldLink RX5 71 "LikelyWalks$Code" "outputs" "I", Cond.methodLink RX5 42 yX5_recordNow, Cond.instanceMethod yX5_recordNow, Cond.selects RX5 yX5_recordNow yX5_recordNow, Cond.initialized RX5, Cond.code yX5_recordNow cX5_recordNow 1 none, Cond.fieldLink RX5 27 "LikelyWalks" "pastCount" "I", Cond.fieldLink RX5 23 "LikelyWalks" "past" "[LLikelyWalks$State;", Cond.methodLink RX5 200 yX5_dropOldest, Cond.instanceMethod yX5_dropOldest, Cond.selects RX5 yX5_dropOldest yX5_dropOldest, Cond.code yX5_dropOldest cX5_dropOldest 3 none, Cond.methodLink RX5 138 yX3_copyFrom, Cond.instanceMethod yX3_copyFrom, Cond.selects RX3 yX3_copyFrom yX3_copyFrom, Cond.initialized RX3, Cond.code yX3_copyFrom cX3_copyFrom 2 none, Cond.fieldLink RX3 7 "LikelyWalks$State" "depth" "I", Cond.fieldLink RX3 16 "LikelyWalks$State" "code" "LLikelyWalks$Code;", Cond.fieldLink RX3 23 "LikelyWalks$State" "sender" "LLikelyWalks$Sender;"]
def wsX5_setCode_r2 : List Cond := [Cond.fieldLink RX3 30 "LikelyWalks$State" "reader" "LLikelyWalks$Reader;", Cond.methodLink RX3 34 yX0_copyFrom, Cond.instanceMethod yX0_copyFrom, Cond.selects RX0 yX0_copyFrom yX0_copyFrom, Cond.initialized RX0, Cond.code yX0_copyFrom cX0_copyFrom 2 none, Cond.fieldLink RX0 19 "LikelyWalks$Code" "memory" "I", Cond.fieldLink RX0 9 "LikelyWalks$Code" "taps" "[I", Cond.methodLink RX0 15 yX0_choose, Cond.instanceMethod yX0_choose, Cond.selects RX0 yX0_choose yX0_choose, Cond.code yX0_choose cX0_choose 5 none, Cond.fieldLink RX0 23 "LikelyWalks$Code" "outputs" "I", Cond.methodLink RX3 38 yX2_copyFrom, Cond.instanceMethod yX2_copyFrom, Cond.selects RX2 yX2_copyFrom yX2_copyFrom, Cond.initialized RX2, Cond.code yX2_copyFrom cX2_copyFrom 2 none, Cond.fieldLink RX2 24 "LikelyWalks$Sender" "register" "I", Cond.fieldLink RX2 28 "LikelyWalks$Sender" "bitCount" "I", Cond.fieldLink RX2 9 "LikelyWalks$Sender" "bits" "[I", Cond.methodLink RX2 31 arraycopyName, Cond.native arraycopyName, Cond.static arraycopyName]
def wsX5_setCode_r3 : List Cond := [Cond.initialized "java/lang/System", Cond.fieldLink RX2 15 "LikelyWalks$Sender" "symbols" "[I", Cond.fieldLink RX2 18 "LikelyWalks$Sender" "originals" "[I", Cond.methodLink RX3 41 yX1_copyFrom, Cond.instanceMethod yX1_copyFrom, Cond.selects RX1 yX1_copyFrom yX1_copyFrom, Cond.initialized RX1, Cond.code yX1_copyFrom cX1_copyFrom 2 none, Cond.fieldLink RX1 27 "LikelyWalks$Reader" "steps" "I", Cond.fieldLink RX1 31 "LikelyWalks$Reader" "lineSteps" "I", Cond.fieldLink RX1 34 "LikelyWalks$Reader" "releasedCount" "I", Cond.fieldLink RX1 37 "LikelyWalks$Reader" "isFinished" "Z", Cond.fieldLink RX1 9 "LikelyWalks$Reader" "releasedBits" "[I", Cond.methodLink RX1 47 arraycopyName, Cond.fieldLink RX1 15 "LikelyWalks$Reader" "metrics" "[I", Cond.fieldLink RX1 21 "LikelyWalks$Reader" "fromUpper" "[I", Cond.methodLink RX5 49 yX0_choose, Cond.methodLink RX5 59 yX2_clear, Cond.instanceMethod yX2_clear, Cond.selects RX2 yX2_clear yX2_clear, Cond.code yX2_clear cX2_clear 1 none, Cond.methodLink RX5 68 yX1_clear, Cond.instanceMethod yX1_clear, Cond.selects RX1 yX1_clear yX1_clear]
def wsX5_setCode_r4 : List Cond := [Cond.code yX1_clear cX1_clear 1 none, Cond.methodLink RX1 41 yJ7_fill_53178, Cond.static yJ7_fill_53178, Cond.initialized RJ7, Cond.code yJ7_fill_53178 cJ7_fill_53178 4 none]
def wsX5_setCode : List Cond := .code yX5_setCode cX5_setCode 6 (some .int) :: ((wsX5_setCode_r1 ++ (wsX5_setCode_r2 ++ (wsX5_setCode_r3 ++ wsX5_setCode_r4))) ++ wsX50 ++ wsX30 ++ wsX00 ++ wsX20 ++ wsX10)
def wsX5_setDepth_r1 : List Cond := [Cond.fieldLink RX5 12 "LikelyWalks" "now" "LLikelyWalks$State;", Cond.fieldLink RX5 64 "LikelyWalks$State" "reader" "LLikelyWalks$Reader;", Cond.fieldLink RX5 74 "LikelyWalks$Reader" "steps" "I", Cond.fieldLink RX5 77 "LikelyWalks$State" "depth" "I", Cond.methodLink RX5 42 yX5_recordNow, Cond.instanceMethod yX5_recordNow, Cond.selects RX5 yX5_recordNow yX5_recordNow, Cond.initialized RX5, Cond.code yX5_recordNow cX5_recordNow 1 none, Cond.fieldLink RX5 27 "LikelyWalks" "pastCount" "I", Cond.fieldLink RX5 23 "LikelyWalks" "past" "[LLikelyWalks$State;", Cond.methodLink RX5 200 yX5_dropOldest, Cond.instanceMethod yX5_dropOldest, Cond.selects RX5 yX5_dropOldest yX5_dropOldest, Cond.code yX5_dropOldest cX5_dropOldest 3 none, Cond.methodLink RX5 138 yX3_copyFrom, Cond.instanceMethod yX3_copyFrom, Cond.selects RX3 yX3_copyFrom yX3_copyFrom, Cond.initialized RX3, Cond.code yX3_copyFrom cX3_copyFrom 2 none, Cond.fieldLink RX3 7 "LikelyWalks$State" "depth" "I", Cond.fieldLink RX3 16 "LikelyWalks$State" "code" "LLikelyWalks$Code;", Cond.fieldLink RX3 23 "LikelyWalks$State" "sender" "LLikelyWalks$Sender;", Cond.fieldLink RX3 30 "LikelyWalks$State" "reader" "LLikelyWalks$Reader;"]
def wsX5_setDepth_r2 : List Cond := [Cond.methodLink RX3 34 yX0_copyFrom, Cond.instanceMethod yX0_copyFrom, Cond.selects RX0 yX0_copyFrom yX0_copyFrom, Cond.initialized RX0, Cond.code yX0_copyFrom cX0_copyFrom 2 none, Cond.fieldLink RX0 19 "LikelyWalks$Code" "memory" "I", Cond.fieldLink RX0 9 "LikelyWalks$Code" "taps" "[I", Cond.methodLink RX0 15 yX0_choose, Cond.instanceMethod yX0_choose, Cond.selects RX0 yX0_choose yX0_choose, Cond.code yX0_choose cX0_choose 5 none, Cond.fieldLink RX0 23 "LikelyWalks$Code" "outputs" "I", Cond.methodLink RX3 38 yX2_copyFrom, Cond.instanceMethod yX2_copyFrom, Cond.selects RX2 yX2_copyFrom yX2_copyFrom, Cond.initialized RX2, Cond.code yX2_copyFrom cX2_copyFrom 2 none, Cond.fieldLink RX2 24 "LikelyWalks$Sender" "register" "I", Cond.fieldLink RX2 28 "LikelyWalks$Sender" "bitCount" "I", Cond.fieldLink RX2 9 "LikelyWalks$Sender" "bits" "[I", Cond.methodLink RX2 31 arraycopyName, Cond.native arraycopyName, Cond.static arraycopyName, Cond.initialized "java/lang/System"]
def wsX5_setDepth_r3 : List Cond := [Cond.fieldLink RX2 15 "LikelyWalks$Sender" "symbols" "[I", Cond.fieldLink RX2 18 "LikelyWalks$Sender" "originals" "[I", Cond.methodLink RX3 41 yX1_copyFrom, Cond.instanceMethod yX1_copyFrom, Cond.selects RX1 yX1_copyFrom yX1_copyFrom, Cond.initialized RX1, Cond.code yX1_copyFrom cX1_copyFrom 2 none, Cond.fieldLink RX1 27 "LikelyWalks$Reader" "steps" "I", Cond.fieldLink RX1 31 "LikelyWalks$Reader" "lineSteps" "I", Cond.fieldLink RX1 34 "LikelyWalks$Reader" "releasedCount" "I", Cond.fieldLink RX1 37 "LikelyWalks$Reader" "isFinished" "Z", Cond.fieldLink RX1 9 "LikelyWalks$Reader" "releasedBits" "[I", Cond.methodLink RX1 47 arraycopyName, Cond.fieldLink RX1 15 "LikelyWalks$Reader" "metrics" "[I", Cond.fieldLink RX1 21 "LikelyWalks$Reader" "fromUpper" "[I"]
def wsX5_setDepth : List Cond := .code yX5_setDepth cX5_setDepth 3 (some .int) :: ((wsX5_setDepth_r1 ++ (wsX5_setDepth_r2 ++ wsX5_setDepth_r3)) ++ wsX50 ++ wsX30 ++ wsX10 ++ wsX00 ++ wsX20)
def wsX5_send_r1 : List Cond := [Cond.fieldLink RX5 34 "LikelyWalks" "text" "LLikelyWalks$Text;", Cond.fieldLink RX5 12 "LikelyWalks" "now" "LLikelyWalks$State;", Cond.fieldLink RX5 55 "LikelyWalks$State" "sender" "LLikelyWalks$Sender;", Cond.fieldLink RX5 84 "LikelyWalks$Sender" "bitCount" "I", Cond.fieldLink RX5 87 "LikelyWalks$Text" "length" "I", Cond.fieldLink RX5 45 "LikelyWalks$State" "code" "LLikelyWalks$Code;", Cond.fieldLink RX5 90 "LikelyWalks$Text" "values" "[I", Cond.methodLink RX5 80 yX4_firstFault, Cond.instanceMethod yX4_firstFault, Cond.selects RX4 yX4_firstFault yX4_firstFault, Cond.initialized RX4, Cond.code yX4_firstFault cX4_firstFault 3 (some .int), Cond.fieldLink RX4 9 "LikelyWalks$Text" "length" "I", Cond.fieldLink RX4 15 "LikelyWalks$Text" "values" "[I", Cond.methodLink RX5 42 yX5_recordNow, Cond.instanceMethod yX5_recordNow, Cond.selects RX5 yX5_recordNow yX5_recordNow, Cond.initialized RX5, Cond.code yX5_recordNow cX5_recordNow 1 none, Cond.fieldLink RX5 27 "LikelyWalks" "pastCount" "I", Cond.fieldLink RX5 23 "LikelyWalks" "past" "[LLikelyWalks$State;", Cond.methodLink RX5 200 yX5_dropOldest, Cond.instanceMethod yX5_dropOldest, Cond.selects RX5 yX5_dropOldest yX5_dropOldest]
def wsX5_send_r2 : List Cond := [Cond.code yX5_dropOldest cX5_dropOldest 3 none, Cond.methodLink RX5 138 yX3_copyFrom, Cond.instanceMethod yX3_copyFrom, Cond.selects RX3 yX3_copyFrom yX3_copyFrom, Cond.initialized RX3, Cond.code yX3_copyFrom cX3_copyFrom 2 none, Cond.fieldLink RX3 7 "LikelyWalks$State" "depth" "I", Cond.fieldLink RX3 16 "LikelyWalks$State" "code" "LLikelyWalks$Code;", Cond.fieldLink RX3 23 "LikelyWalks$State" "sender" "LLikelyWalks$Sender;", Cond.fieldLink RX3 30 "LikelyWalks$State" "reader" "LLikelyWalks$Reader;", Cond.methodLink RX3 34 yX0_copyFrom, Cond.instanceMethod yX0_copyFrom, Cond.selects RX0 yX0_copyFrom yX0_copyFrom, Cond.initialized RX0, Cond.code yX0_copyFrom cX0_copyFrom 2 none, Cond.fieldLink RX0 19 "LikelyWalks$Code" "memory" "I", Cond.fieldLink RX0 9 "LikelyWalks$Code" "taps" "[I", Cond.methodLink RX0 15 yX0_choose, Cond.instanceMethod yX0_choose, Cond.selects RX0 yX0_choose yX0_choose, Cond.code yX0_choose cX0_choose 5 none, Cond.fieldLink RX0 23 "LikelyWalks$Code" "outputs" "I", Cond.methodLink RX3 38 yX2_copyFrom, Cond.instanceMethod yX2_copyFrom]
def wsX5_send_r3 : List Cond := [Cond.selects RX2 yX2_copyFrom yX2_copyFrom, Cond.initialized RX2, Cond.code yX2_copyFrom cX2_copyFrom 2 none, Cond.fieldLink RX2 24 "LikelyWalks$Sender" "register" "I", Cond.fieldLink RX2 28 "LikelyWalks$Sender" "bitCount" "I", Cond.fieldLink RX2 9 "LikelyWalks$Sender" "bits" "[I", Cond.methodLink RX2 31 arraycopyName, Cond.native arraycopyName, Cond.static arraycopyName, Cond.initialized "java/lang/System", Cond.fieldLink RX2 15 "LikelyWalks$Sender" "symbols" "[I", Cond.fieldLink RX2 18 "LikelyWalks$Sender" "originals" "[I", Cond.methodLink RX3 41 yX1_copyFrom, Cond.instanceMethod yX1_copyFrom, Cond.selects RX1 yX1_copyFrom yX1_copyFrom, Cond.initialized RX1, Cond.code yX1_copyFrom cX1_copyFrom 2 none, Cond.fieldLink RX1 27 "LikelyWalks$Reader" "steps" "I", Cond.fieldLink RX1 31 "LikelyWalks$Reader" "lineSteps" "I", Cond.fieldLink RX1 34 "LikelyWalks$Reader" "releasedCount" "I", Cond.fieldLink RX1 37 "LikelyWalks$Reader" "isFinished" "Z", Cond.fieldLink RX1 9 "LikelyWalks$Reader" "releasedBits" "[I", Cond.methodLink RX1 47 arraycopyName, Cond.fieldLink RX1 15 "LikelyWalks$Reader" "metrics" "[I"]
def wsX5_send_r4 : List Cond := [Cond.fieldLink RX1 21 "LikelyWalks$Reader" "fromUpper" "[I", Cond.methodLink RX5 93 yX2_push, Cond.instanceMethod yX2_push, Cond.selects RX2 yX2_push yX2_push, Cond.code yX2_push cX2_push 7 none, Cond.fieldLink RX2 43 "LikelyWalks$Code" "outputs" "I", Cond.methodLink RX2 37 yX0_windowOf, Cond.instanceMethod yX0_windowOf, Cond.selects RX0 yX0_windowOf yX0_windowOf, Cond.code yX0_windowOf cX0_windowOf 3 (some .int), Cond.methodLink RX2 46 yX0_symbolOf, Cond.instanceMethod yX0_symbolOf, Cond.selects RX0 yX0_symbolOf yX0_symbolOf, Cond.code yX0_symbolOf cX0_symbolOf 3 (some .int), Cond.methodLink RX0 34 yJ6_bitCount_0f7a4, Cond.static yJ6_bitCount_0f7a4, Cond.initialized RJ6, Cond.code yJ6_bitCount_0f7a4 cJ6_bitCount_0f7a4 1 (some .int), Cond.constant RJ6 265 (1431655765), Cond.constant RJ6 266 (858993459), Cond.constant RJ6 267 (252645135), Cond.methodLink RX2 49 yX0_stateAfter, Cond.instanceMethod yX0_stateAfter, Cond.selects RX0 yX0_stateAfter yX0_stateAfter]
def wsX5_send_r5 : List Cond := [Cond.code yX0_stateAfter cX0_stateAfter 3 (some .int), Cond.methodLink RX0 30 yX0_windowOf]
def wsX5_send : List Cond := .code yX5_send cX5_send 3 (some .int) :: ((wsX5_send_r1 ++ (wsX5_send_r2 ++ (wsX5_send_r3 ++ (wsX5_send_r4 ++ wsX5_send_r5)))) ++ wsX50 ++ wsX30 ++ wsX20 ++ wsX40 ++ wsX00 ++ wsX10)
def wsX5_sendTail_r1 : List Cond := [Cond.fieldLink RX5 12 "LikelyWalks" "now" "LLikelyWalks$State;", Cond.fieldLink RX5 45 "LikelyWalks$State" "code" "LLikelyWalks$Code;", Cond.fieldLink RX5 97 "LikelyWalks$Code" "memory" "I", Cond.fieldLink RX5 55 "LikelyWalks$State" "sender" "LLikelyWalks$Sender;", Cond.fieldLink RX5 84 "LikelyWalks$Sender" "bitCount" "I", Cond.methodLink RX5 42 yX5_recordNow, Cond.instanceMethod yX5_recordNow, Cond.selects RX5 yX5_recordNow yX5_recordNow, Cond.initialized RX5, Cond.code yX5_recordNow cX5_recordNow 1 none, Cond.fieldLink RX5 27 "LikelyWalks" "pastCount" "I", Cond.fieldLink RX5 23 "LikelyWalks" "past" "[LLikelyWalks$State;", Cond.methodLink RX5 200 yX5_dropOldest, Cond.instanceMethod yX5_dropOldest, Cond.selects RX5 yX5_dropOldest yX5_dropOldest, Cond.code yX5_dropOldest cX5_dropOldest 3 none, Cond.methodLink RX5 138 yX3_copyFrom, Cond.instanceMethod yX3_copyFrom, Cond.selects RX3 yX3_copyFrom yX3_copyFrom, Cond.initialized RX3, Cond.code yX3_copyFrom cX3_copyFrom 2 none, Cond.fieldLink RX3 7 "LikelyWalks$State" "depth" "I", Cond.fieldLink RX3 16 "LikelyWalks$State" "code" "LLikelyWalks$Code;", Cond.fieldLink RX3 23 "LikelyWalks$State" "sender" "LLikelyWalks$Sender;"]
def wsX5_sendTail_r2 : List Cond := [Cond.fieldLink RX3 30 "LikelyWalks$State" "reader" "LLikelyWalks$Reader;", Cond.methodLink RX3 34 yX0_copyFrom, Cond.instanceMethod yX0_copyFrom, Cond.selects RX0 yX0_copyFrom yX0_copyFrom, Cond.initialized RX0, Cond.code yX0_copyFrom cX0_copyFrom 2 none, Cond.fieldLink RX0 19 "LikelyWalks$Code" "memory" "I", Cond.fieldLink RX0 9 "LikelyWalks$Code" "taps" "[I", Cond.methodLink RX0 15 yX0_choose, Cond.instanceMethod yX0_choose, Cond.selects RX0 yX0_choose yX0_choose, Cond.code yX0_choose cX0_choose 5 none, Cond.fieldLink RX0 23 "LikelyWalks$Code" "outputs" "I", Cond.methodLink RX3 38 yX2_copyFrom, Cond.instanceMethod yX2_copyFrom, Cond.selects RX2 yX2_copyFrom yX2_copyFrom, Cond.initialized RX2, Cond.code yX2_copyFrom cX2_copyFrom 2 none, Cond.fieldLink RX2 24 "LikelyWalks$Sender" "register" "I", Cond.fieldLink RX2 28 "LikelyWalks$Sender" "bitCount" "I", Cond.fieldLink RX2 9 "LikelyWalks$Sender" "bits" "[I", Cond.methodLink RX2 31 arraycopyName, Cond.native arraycopyName, Cond.static arraycopyName]
def wsX5_sendTail_r3 : List Cond := [Cond.initialized "java/lang/System", Cond.fieldLink RX2 15 "LikelyWalks$Sender" "symbols" "[I", Cond.fieldLink RX2 18 "LikelyWalks$Sender" "originals" "[I", Cond.methodLink RX3 41 yX1_copyFrom, Cond.instanceMethod yX1_copyFrom, Cond.selects RX1 yX1_copyFrom yX1_copyFrom, Cond.initialized RX1, Cond.code yX1_copyFrom cX1_copyFrom 2 none, Cond.fieldLink RX1 27 "LikelyWalks$Reader" "steps" "I", Cond.fieldLink RX1 31 "LikelyWalks$Reader" "lineSteps" "I", Cond.fieldLink RX1 34 "LikelyWalks$Reader" "releasedCount" "I", Cond.fieldLink RX1 37 "LikelyWalks$Reader" "isFinished" "Z", Cond.fieldLink RX1 9 "LikelyWalks$Reader" "releasedBits" "[I", Cond.methodLink RX1 47 arraycopyName, Cond.fieldLink RX1 15 "LikelyWalks$Reader" "metrics" "[I", Cond.fieldLink RX1 21 "LikelyWalks$Reader" "fromUpper" "[I", Cond.methodLink RX5 93 yX2_push, Cond.instanceMethod yX2_push, Cond.selects RX2 yX2_push yX2_push, Cond.code yX2_push cX2_push 7 none, Cond.fieldLink RX2 43 "LikelyWalks$Code" "outputs" "I", Cond.methodLink RX2 37 yX0_windowOf, Cond.instanceMethod yX0_windowOf, Cond.selects RX0 yX0_windowOf yX0_windowOf]
def wsX5_sendTail_r4 : List Cond := [Cond.code yX0_windowOf cX0_windowOf 3 (some .int), Cond.methodLink RX2 46 yX0_symbolOf, Cond.instanceMethod yX0_symbolOf, Cond.selects RX0 yX0_symbolOf yX0_symbolOf, Cond.code yX0_symbolOf cX0_symbolOf 3 (some .int), Cond.methodLink RX0 34 yJ6_bitCount_0f7a4, Cond.static yJ6_bitCount_0f7a4, Cond.initialized RJ6, Cond.code yJ6_bitCount_0f7a4 cJ6_bitCount_0f7a4 1 (some .int), Cond.constant RJ6 265 (1431655765), Cond.constant RJ6 266 (858993459), Cond.constant RJ6 267 (252645135), Cond.methodLink RX2 49 yX0_stateAfter, Cond.instanceMethod yX0_stateAfter, Cond.selects RX0 yX0_stateAfter yX0_stateAfter, Cond.code yX0_stateAfter cX0_stateAfter 3 (some .int), Cond.methodLink RX0 30 yX0_windowOf]
def wsX5_sendTail : List Cond := .code yX5_sendTail cX5_sendTail 3 (some .int) :: ((wsX5_sendTail_r1 ++ (wsX5_sendTail_r2 ++ (wsX5_sendTail_r3 ++ wsX5_sendTail_r4))) ++ wsX50 ++ wsX30 ++ wsX00 ++ wsX20 ++ wsX10)
def wsX5_lineLength : List Cond := .code yX5_lineLength cX5_lineLength 1 (some .int) :: ([.fieldLink RX5 12 "LikelyWalks" "now" "LLikelyWalks$State;", .fieldLink RX5 55 "LikelyWalks$State" "sender" "LLikelyWalks$Sender;", .fieldLink RX5 84 "LikelyWalks$Sender" "bitCount" "I", .fieldLink RX5 45 "LikelyWalks$State" "code" "LLikelyWalks$Code;", .fieldLink RX5 71 "LikelyWalks$Code" "outputs" "I"] ++ wsX50 ++ wsX30 ++ wsX20 ++ wsX00)
def wsX5_isOnLine : List Cond := .code yX5_isOnLine cX5_isOnLine 2 (some .boolean) :: ([.methodLink RX5 184 yX5_lineLength, .instanceMethod yX5_lineLength, .selects RX5 yX5_lineLength yX5_lineLength, .initialized RX5, .code yX5_lineLength cX5_lineLength 1 (some .int), .fieldLink RX5 12 "LikelyWalks" "now" "LLikelyWalks$State;", .fieldLink RX5 55 "LikelyWalks$State" "sender" "LLikelyWalks$Sender;", .fieldLink RX5 84 "LikelyWalks$Sender" "bitCount" "I", .fieldLink RX5 45 "LikelyWalks$State" "code" "LLikelyWalks$Code;", .fieldLink RX5 71 "LikelyWalks$Code" "outputs" "I"] ++ wsX50 ++ wsX30 ++ wsX20 ++ wsX00)
def wsX5_isTaken : List Cond := .code yX5_isTaken cX5_isTaken 2 (some .boolean) :: ([.fieldLink RX5 12 "LikelyWalks" "now" "LLikelyWalks$State;", .fieldLink RX5 64 "LikelyWalks$State" "reader" "LLikelyWalks$Reader;", .fieldLink RX5 113 "LikelyWalks$Reader" "lineSteps" "I", .fieldLink RX5 45 "LikelyWalks$State" "code" "LLikelyWalks$Code;", .fieldLink RX5 71 "LikelyWalks$Code" "outputs" "I"] ++ wsX50 ++ wsX30 ++ wsX10 ++ wsX00)
def wsX5_flip_r1 : List Cond := [Cond.fieldLink RX5 12 "LikelyWalks" "now" "LLikelyWalks$State;", Cond.fieldLink RX5 55 "LikelyWalks$State" "sender" "LLikelyWalks$Sender;", Cond.fieldLink RX5 104 "LikelyWalks$Sender" "symbols" "[I", Cond.methodLink RX5 100 yX5_isOnLine, Cond.instanceMethod yX5_isOnLine, Cond.selects RX5 yX5_isOnLine yX5_isOnLine, Cond.initialized RX5, Cond.code yX5_isOnLine cX5_isOnLine 2 (some .boolean), Cond.methodLink RX5 184 yX5_lineLength, Cond.instanceMethod yX5_lineLength, Cond.selects RX5 yX5_lineLength yX5_lineLength, Cond.code yX5_lineLength cX5_lineLength 1 (some .int), Cond.fieldLink RX5 84 "LikelyWalks$Sender" "bitCount" "I", Cond.fieldLink RX5 45 "LikelyWalks$State" "code" "LLikelyWalks$Code;", Cond.fieldLink RX5 71 "LikelyWalks$Code" "outputs" "I", Cond.methodLink RX5 107 yX5_isTaken, Cond.instanceMethod yX5_isTaken, Cond.selects RX5 yX5_isTaken yX5_isTaken, Cond.code yX5_isTaken cX5_isTaken 2 (some .boolean), Cond.fieldLink RX5 64 "LikelyWalks$State" "reader" "LLikelyWalks$Reader;", Cond.fieldLink RX5 113 "LikelyWalks$Reader" "lineSteps" "I", Cond.methodLink RX5 42 yX5_recordNow, Cond.instanceMethod yX5_recordNow, Cond.selects RX5 yX5_recordNow yX5_recordNow]
def wsX5_flip_r2 : List Cond := [Cond.code yX5_recordNow cX5_recordNow 1 none, Cond.fieldLink RX5 27 "LikelyWalks" "pastCount" "I", Cond.fieldLink RX5 23 "LikelyWalks" "past" "[LLikelyWalks$State;", Cond.methodLink RX5 200 yX5_dropOldest, Cond.instanceMethod yX5_dropOldest, Cond.selects RX5 yX5_dropOldest yX5_dropOldest, Cond.code yX5_dropOldest cX5_dropOldest 3 none, Cond.methodLink RX5 138 yX3_copyFrom, Cond.instanceMethod yX3_copyFrom, Cond.selects RX3 yX3_copyFrom yX3_copyFrom, Cond.initialized RX3, Cond.code yX3_copyFrom cX3_copyFrom 2 none, Cond.fieldLink RX3 7 "LikelyWalks$State" "depth" "I", Cond.fieldLink RX3 16 "LikelyWalks$State" "code" "LLikelyWalks$Code;", Cond.fieldLink RX3 23 "LikelyWalks$State" "sender" "LLikelyWalks$Sender;", Cond.fieldLink RX3 30 "LikelyWalks$State" "reader" "LLikelyWalks$Reader;", Cond.methodLink RX3 34 yX0_copyFrom, Cond.instanceMethod yX0_copyFrom, Cond.selects RX0 yX0_copyFrom yX0_copyFrom, Cond.initialized RX0, Cond.code yX0_copyFrom cX0_copyFrom 2 none, Cond.fieldLink RX0 19 "LikelyWalks$Code" "memory" "I", Cond.fieldLink RX0 9 "LikelyWalks$Code" "taps" "[I", Cond.methodLink RX0 15 yX0_choose]
def wsX5_flip_r3 : List Cond := [Cond.instanceMethod yX0_choose, Cond.selects RX0 yX0_choose yX0_choose, Cond.code yX0_choose cX0_choose 5 none, Cond.fieldLink RX0 23 "LikelyWalks$Code" "outputs" "I", Cond.methodLink RX3 38 yX2_copyFrom, Cond.instanceMethod yX2_copyFrom, Cond.selects RX2 yX2_copyFrom yX2_copyFrom, Cond.initialized RX2, Cond.code yX2_copyFrom cX2_copyFrom 2 none, Cond.fieldLink RX2 24 "LikelyWalks$Sender" "register" "I", Cond.fieldLink RX2 28 "LikelyWalks$Sender" "bitCount" "I", Cond.fieldLink RX2 9 "LikelyWalks$Sender" "bits" "[I", Cond.methodLink RX2 31 arraycopyName, Cond.native arraycopyName, Cond.static arraycopyName, Cond.initialized "java/lang/System", Cond.fieldLink RX2 15 "LikelyWalks$Sender" "symbols" "[I", Cond.fieldLink RX2 18 "LikelyWalks$Sender" "originals" "[I", Cond.methodLink RX3 41 yX1_copyFrom, Cond.instanceMethod yX1_copyFrom, Cond.selects RX1 yX1_copyFrom yX1_copyFrom, Cond.initialized RX1, Cond.code yX1_copyFrom cX1_copyFrom 2 none, Cond.fieldLink RX1 27 "LikelyWalks$Reader" "steps" "I"]
def wsX5_flip_r4 : List Cond := [Cond.fieldLink RX1 31 "LikelyWalks$Reader" "lineSteps" "I", Cond.fieldLink RX1 34 "LikelyWalks$Reader" "releasedCount" "I", Cond.fieldLink RX1 37 "LikelyWalks$Reader" "isFinished" "Z", Cond.fieldLink RX1 9 "LikelyWalks$Reader" "releasedBits" "[I", Cond.methodLink RX1 47 arraycopyName, Cond.fieldLink RX1 15 "LikelyWalks$Reader" "metrics" "[I", Cond.fieldLink RX1 21 "LikelyWalks$Reader" "fromUpper" "[I"]
def wsX5_flip : List Cond := .code yX5_flip cX5_flip 3 (some .int) :: ((wsX5_flip_r1 ++ (wsX5_flip_r2 ++ (wsX5_flip_r3 ++ wsX5_flip_r4))) ++ wsX50 ++ wsX30 ++ wsX20 ++ wsX00 ++ wsX10)
def wsX5_erase_r1 : List Cond := [Cond.fieldLink RX5 12 "LikelyWalks" "now" "LLikelyWalks$State;", Cond.fieldLink RX5 55 "LikelyWalks$State" "sender" "LLikelyWalks$Sender;", Cond.fieldLink RX5 104 "LikelyWalks$Sender" "symbols" "[I", Cond.methodLink RX5 100 yX5_isOnLine, Cond.instanceMethod yX5_isOnLine, Cond.selects RX5 yX5_isOnLine yX5_isOnLine, Cond.initialized RX5, Cond.code yX5_isOnLine cX5_isOnLine 2 (some .boolean), Cond.methodLink RX5 184 yX5_lineLength, Cond.instanceMethod yX5_lineLength, Cond.selects RX5 yX5_lineLength yX5_lineLength, Cond.code yX5_lineLength cX5_lineLength 1 (some .int), Cond.fieldLink RX5 84 "LikelyWalks$Sender" "bitCount" "I", Cond.fieldLink RX5 45 "LikelyWalks$State" "code" "LLikelyWalks$Code;", Cond.fieldLink RX5 71 "LikelyWalks$Code" "outputs" "I", Cond.methodLink RX5 107 yX5_isTaken, Cond.instanceMethod yX5_isTaken, Cond.selects RX5 yX5_isTaken yX5_isTaken, Cond.code yX5_isTaken cX5_isTaken 2 (some .boolean), Cond.fieldLink RX5 64 "LikelyWalks$State" "reader" "LLikelyWalks$Reader;", Cond.fieldLink RX5 113 "LikelyWalks$Reader" "lineSteps" "I", Cond.methodLink RX5 42 yX5_recordNow, Cond.instanceMethod yX5_recordNow, Cond.selects RX5 yX5_recordNow yX5_recordNow]
def wsX5_erase_r2 : List Cond := [Cond.code yX5_recordNow cX5_recordNow 1 none, Cond.fieldLink RX5 27 "LikelyWalks" "pastCount" "I", Cond.fieldLink RX5 23 "LikelyWalks" "past" "[LLikelyWalks$State;", Cond.methodLink RX5 200 yX5_dropOldest, Cond.instanceMethod yX5_dropOldest, Cond.selects RX5 yX5_dropOldest yX5_dropOldest, Cond.code yX5_dropOldest cX5_dropOldest 3 none, Cond.methodLink RX5 138 yX3_copyFrom, Cond.instanceMethod yX3_copyFrom, Cond.selects RX3 yX3_copyFrom yX3_copyFrom, Cond.initialized RX3, Cond.code yX3_copyFrom cX3_copyFrom 2 none, Cond.fieldLink RX3 7 "LikelyWalks$State" "depth" "I", Cond.fieldLink RX3 16 "LikelyWalks$State" "code" "LLikelyWalks$Code;", Cond.fieldLink RX3 23 "LikelyWalks$State" "sender" "LLikelyWalks$Sender;", Cond.fieldLink RX3 30 "LikelyWalks$State" "reader" "LLikelyWalks$Reader;", Cond.methodLink RX3 34 yX0_copyFrom, Cond.instanceMethod yX0_copyFrom, Cond.selects RX0 yX0_copyFrom yX0_copyFrom, Cond.initialized RX0, Cond.code yX0_copyFrom cX0_copyFrom 2 none, Cond.fieldLink RX0 19 "LikelyWalks$Code" "memory" "I", Cond.fieldLink RX0 9 "LikelyWalks$Code" "taps" "[I", Cond.methodLink RX0 15 yX0_choose]
def wsX5_erase_r3 : List Cond := [Cond.instanceMethod yX0_choose, Cond.selects RX0 yX0_choose yX0_choose, Cond.code yX0_choose cX0_choose 5 none, Cond.fieldLink RX0 23 "LikelyWalks$Code" "outputs" "I", Cond.methodLink RX3 38 yX2_copyFrom, Cond.instanceMethod yX2_copyFrom, Cond.selects RX2 yX2_copyFrom yX2_copyFrom, Cond.initialized RX2, Cond.code yX2_copyFrom cX2_copyFrom 2 none, Cond.fieldLink RX2 24 "LikelyWalks$Sender" "register" "I", Cond.fieldLink RX2 28 "LikelyWalks$Sender" "bitCount" "I", Cond.fieldLink RX2 9 "LikelyWalks$Sender" "bits" "[I", Cond.methodLink RX2 31 arraycopyName, Cond.native arraycopyName, Cond.static arraycopyName, Cond.initialized "java/lang/System", Cond.fieldLink RX2 15 "LikelyWalks$Sender" "symbols" "[I", Cond.fieldLink RX2 18 "LikelyWalks$Sender" "originals" "[I", Cond.methodLink RX3 41 yX1_copyFrom, Cond.instanceMethod yX1_copyFrom, Cond.selects RX1 yX1_copyFrom yX1_copyFrom, Cond.initialized RX1, Cond.code yX1_copyFrom cX1_copyFrom 2 none, Cond.fieldLink RX1 27 "LikelyWalks$Reader" "steps" "I"]
def wsX5_erase_r4 : List Cond := [Cond.fieldLink RX1 31 "LikelyWalks$Reader" "lineSteps" "I", Cond.fieldLink RX1 34 "LikelyWalks$Reader" "releasedCount" "I", Cond.fieldLink RX1 37 "LikelyWalks$Reader" "isFinished" "Z", Cond.fieldLink RX1 9 "LikelyWalks$Reader" "releasedBits" "[I", Cond.methodLink RX1 47 arraycopyName, Cond.fieldLink RX1 15 "LikelyWalks$Reader" "metrics" "[I", Cond.fieldLink RX1 21 "LikelyWalks$Reader" "fromUpper" "[I"]
def wsX5_erase : List Cond := .code yX5_erase cX5_erase 3 (some .int) :: ((wsX5_erase_r1 ++ (wsX5_erase_r2 ++ (wsX5_erase_r3 ++ wsX5_erase_r4))) ++ wsX50 ++ wsX30 ++ wsX20 ++ wsX00 ++ wsX10)
def wsX5_take_r1 : List Cond := [Cond.fieldLink RX5 12 "LikelyWalks" "now" "LLikelyWalks$State;", Cond.fieldLink RX5 64 "LikelyWalks$State" "reader" "LLikelyWalks$Reader;", Cond.fieldLink RX5 110 "LikelyWalks$Reader" "isFinished" "Z", Cond.fieldLink RX5 113 "LikelyWalks$Reader" "lineSteps" "I", Cond.fieldLink RX5 55 "LikelyWalks$State" "sender" "LLikelyWalks$Sender;", Cond.fieldLink RX5 84 "LikelyWalks$Sender" "bitCount" "I", Cond.fieldLink RX5 74 "LikelyWalks$Reader" "steps" "I", Cond.fieldLink RX5 45 "LikelyWalks$State" "code" "LLikelyWalks$Code;", Cond.fieldLink RX5 71 "LikelyWalks$Code" "outputs" "I", Cond.fieldLink RX5 77 "LikelyWalks$State" "depth" "I", Cond.fieldLink RX5 104 "LikelyWalks$Sender" "symbols" "[I", Cond.fieldLink RX5 120 "LikelyWalks$Reader" "releasedCount" "I", Cond.methodLink RX5 42 yX5_recordNow, Cond.instanceMethod yX5_recordNow, Cond.selects RX5 yX5_recordNow yX5_recordNow, Cond.initialized RX5, Cond.code yX5_recordNow cX5_recordNow 1 none, Cond.fieldLink RX5 27 "LikelyWalks" "pastCount" "I", Cond.fieldLink RX5 23 "LikelyWalks" "past" "[LLikelyWalks$State;", Cond.methodLink RX5 200 yX5_dropOldest, Cond.instanceMethod yX5_dropOldest, Cond.selects RX5 yX5_dropOldest yX5_dropOldest, Cond.code yX5_dropOldest cX5_dropOldest 3 none, Cond.methodLink RX5 138 yX3_copyFrom]
def wsX5_take_r2 : List Cond := [Cond.instanceMethod yX3_copyFrom, Cond.selects RX3 yX3_copyFrom yX3_copyFrom, Cond.initialized RX3, Cond.code yX3_copyFrom cX3_copyFrom 2 none, Cond.fieldLink RX3 7 "LikelyWalks$State" "depth" "I", Cond.fieldLink RX3 16 "LikelyWalks$State" "code" "LLikelyWalks$Code;", Cond.fieldLink RX3 23 "LikelyWalks$State" "sender" "LLikelyWalks$Sender;", Cond.fieldLink RX3 30 "LikelyWalks$State" "reader" "LLikelyWalks$Reader;", Cond.methodLink RX3 34 yX0_copyFrom, Cond.instanceMethod yX0_copyFrom, Cond.selects RX0 yX0_copyFrom yX0_copyFrom, Cond.initialized RX0, Cond.code yX0_copyFrom cX0_copyFrom 2 none, Cond.fieldLink RX0 19 "LikelyWalks$Code" "memory" "I", Cond.fieldLink RX0 9 "LikelyWalks$Code" "taps" "[I", Cond.methodLink RX0 15 yX0_choose, Cond.instanceMethod yX0_choose, Cond.selects RX0 yX0_choose yX0_choose, Cond.code yX0_choose cX0_choose 5 none, Cond.fieldLink RX0 23 "LikelyWalks$Code" "outputs" "I", Cond.methodLink RX3 38 yX2_copyFrom, Cond.instanceMethod yX2_copyFrom, Cond.selects RX2 yX2_copyFrom yX2_copyFrom, Cond.initialized RX2]
def wsX5_take_r3 : List Cond := [Cond.code yX2_copyFrom cX2_copyFrom 2 none, Cond.fieldLink RX2 24 "LikelyWalks$Sender" "register" "I", Cond.fieldLink RX2 28 "LikelyWalks$Sender" "bitCount" "I", Cond.fieldLink RX2 9 "LikelyWalks$Sender" "bits" "[I", Cond.methodLink RX2 31 arraycopyName, Cond.native arraycopyName, Cond.static arraycopyName, Cond.initialized "java/lang/System", Cond.fieldLink RX2 15 "LikelyWalks$Sender" "symbols" "[I", Cond.fieldLink RX2 18 "LikelyWalks$Sender" "originals" "[I", Cond.methodLink RX3 41 yX1_copyFrom, Cond.instanceMethod yX1_copyFrom, Cond.selects RX1 yX1_copyFrom yX1_copyFrom, Cond.initialized RX1, Cond.code yX1_copyFrom cX1_copyFrom 2 none, Cond.fieldLink RX1 27 "LikelyWalks$Reader" "steps" "I", Cond.fieldLink RX1 31 "LikelyWalks$Reader" "lineSteps" "I", Cond.fieldLink RX1 34 "LikelyWalks$Reader" "releasedCount" "I", Cond.fieldLink RX1 37 "LikelyWalks$Reader" "isFinished" "Z", Cond.fieldLink RX1 9 "LikelyWalks$Reader" "releasedBits" "[I", Cond.methodLink RX1 47 arraycopyName, Cond.fieldLink RX1 15 "LikelyWalks$Reader" "metrics" "[I", Cond.fieldLink RX1 21 "LikelyWalks$Reader" "fromUpper" "[I", Cond.methodLink RX5 116 yX1_advance]
def wsX5_take_r4 : List Cond := [Cond.instanceMethod yX1_advance, Cond.selects RX1 yX1_advance yX1_advance, Cond.code yX1_advance cX1_advance 13 none, Cond.fieldLink RX1 18 "LikelyWalks$Reader" "newMetrics" "[I", Cond.methodLink RX1 53 yX0_states, Cond.instanceMethod yX0_states, Cond.selects RX0 yX0_states yX0_states, Cond.code yX0_states cX0_states 1 (some .int), Cond.methodLink RX1 59 yX0_lowerBefore, Cond.instanceMethod yX0_lowerBefore, Cond.selects RX0 yX0_lowerBefore yX0_lowerBefore, Cond.code yX0_lowerBefore cX0_lowerBefore 2 (some .int), Cond.methodLink RX0 26 yX0_states, Cond.methodLink RX1 63 yX0_bitInto, Cond.instanceMethod yX0_bitInto, Cond.selects RX0 yX0_bitInto yX0_bitInto, Cond.code yX0_bitInto cX0_bitInto 2 (some .int), Cond.methodLink RX1 66 yX1_metricOver, Cond.instanceMethod yX1_metricOver, Cond.selects RX1 yX1_metricOver yX1_metricOver, Cond.code yX1_metricOver cX1_metricOver 6 (some .int), Cond.methodLink RX1 78 yX0_priceOf, Cond.instanceMethod yX0_priceOf, Cond.selects RX0 yX0_priceOf yX0_priceOf]
def wsX5_take_r5 : List Cond := [Cond.code yX0_priceOf cX0_priceOf 9 (some .int), Cond.methodLink RX0 30 yX0_windowOf, Cond.instanceMethod yX0_windowOf, Cond.selects RX0 yX0_windowOf yX0_windowOf, Cond.code yX0_windowOf cX0_windowOf 3 (some .int), Cond.methodLink RX0 40 yX0_symbolOf, Cond.instanceMethod yX0_symbolOf, Cond.selects RX0 yX0_symbolOf yX0_symbolOf, Cond.code yX0_symbolOf cX0_symbolOf 3 (some .int), Cond.methodLink RX0 34 yJ6_bitCount_0f7a4, Cond.static yJ6_bitCount_0f7a4, Cond.initialized RJ6, Cond.code yJ6_bitCount_0f7a4 cJ6_bitCount_0f7a4 1 (some .int), Cond.constant RJ6 265 (1431655765), Cond.constant RJ6 266 (858993459), Cond.constant RJ6 267 (252645135), Cond.methodLink RX1 70 yX1_bestState, Cond.instanceMethod yX1_bestState, Cond.selects RX1 yX1_bestState yX1_bestState, Cond.code yX1_bestState cX1_bestState 6 (some .int), Cond.methodLink RX1 74 yX1_releaseUpTo, Cond.instanceMethod yX1_releaseUpTo, Cond.selects RX1 yX1_releaseUpTo yX1_releaseUpTo, Cond.code yX1_releaseUpTo cX1_releaseUpTo 6 none]
def wsX5_take_r6 : List Cond := [Cond.methodLink RX1 82 yX1_stateBefore, Cond.instanceMethod yX1_stateBefore, Cond.selects RX1 yX1_stateBefore yX1_stateBefore, Cond.code yX1_stateBefore cX1_stateBefore 4 (some .int)]
def wsX5_take : List Cond := .code yX5_take cX5_take 5 (some .int) :: ((wsX5_take_r1 ++ (wsX5_take_r2 ++ (wsX5_take_r3 ++ (wsX5_take_r4 ++ (wsX5_take_r5 ++ wsX5_take_r6))))) ++ wsX50 ++ wsX30 ++ wsX10 ++ wsX20 ++ wsX00)
def wsX5_hear_r1 : List Cond := [Cond.fieldLink RX5 12 "LikelyWalks" "now" "LLikelyWalks$State;", Cond.fieldLink RX5 64 "LikelyWalks$State" "reader" "LLikelyWalks$Reader;", Cond.fieldLink RX5 34 "LikelyWalks" "text" "LLikelyWalks$Text;", Cond.fieldLink RX5 45 "LikelyWalks$State" "code" "LLikelyWalks$Code;", Cond.fieldLink RX5 71 "LikelyWalks$Code" "outputs" "I", Cond.fieldLink RX5 87 "LikelyWalks$Text" "length" "I", Cond.fieldLink RX5 110 "LikelyWalks$Reader" "isFinished" "Z", Cond.fieldLink RX5 74 "LikelyWalks$Reader" "steps" "I", Cond.fieldLink RX5 77 "LikelyWalks$State" "depth" "I", Cond.fieldLink RX5 90 "LikelyWalks$Text" "values" "[I", Cond.fieldLink RX5 120 "LikelyWalks$Reader" "releasedCount" "I", Cond.methodLink RX5 80 yX4_firstFault, Cond.instanceMethod yX4_firstFault, Cond.selects RX4 yX4_firstFault yX4_firstFault, Cond.initialized RX4, Cond.code yX4_firstFault cX4_firstFault 3 (some .int), Cond.fieldLink RX4 9 "LikelyWalks$Text" "length" "I", Cond.fieldLink RX4 15 "LikelyWalks$Text" "values" "[I", Cond.methodLink RX5 42 yX5_recordNow, Cond.instanceMethod yX5_recordNow, Cond.selects RX5 yX5_recordNow yX5_recordNow, Cond.initialized RX5, Cond.code yX5_recordNow cX5_recordNow 1 none, Cond.fieldLink RX5 27 "LikelyWalks" "pastCount" "I"]
def wsX5_hear_r2 : List Cond := [Cond.fieldLink RX5 23 "LikelyWalks" "past" "[LLikelyWalks$State;", Cond.methodLink RX5 200 yX5_dropOldest, Cond.instanceMethod yX5_dropOldest, Cond.selects RX5 yX5_dropOldest yX5_dropOldest, Cond.code yX5_dropOldest cX5_dropOldest 3 none, Cond.methodLink RX5 138 yX3_copyFrom, Cond.instanceMethod yX3_copyFrom, Cond.selects RX3 yX3_copyFrom yX3_copyFrom, Cond.initialized RX3, Cond.code yX3_copyFrom cX3_copyFrom 2 none, Cond.fieldLink RX3 7 "LikelyWalks$State" "depth" "I", Cond.fieldLink RX3 16 "LikelyWalks$State" "code" "LLikelyWalks$Code;", Cond.fieldLink RX3 23 "LikelyWalks$State" "sender" "LLikelyWalks$Sender;", Cond.fieldLink RX3 30 "LikelyWalks$State" "reader" "LLikelyWalks$Reader;", Cond.methodLink RX3 34 yX0_copyFrom, Cond.instanceMethod yX0_copyFrom, Cond.selects RX0 yX0_copyFrom yX0_copyFrom, Cond.initialized RX0, Cond.code yX0_copyFrom cX0_copyFrom 2 none, Cond.fieldLink RX0 19 "LikelyWalks$Code" "memory" "I", Cond.fieldLink RX0 9 "LikelyWalks$Code" "taps" "[I", Cond.methodLink RX0 15 yX0_choose, Cond.instanceMethod yX0_choose, Cond.selects RX0 yX0_choose yX0_choose]
def wsX5_hear_r3 : List Cond := [Cond.code yX0_choose cX0_choose 5 none, Cond.fieldLink RX0 23 "LikelyWalks$Code" "outputs" "I", Cond.methodLink RX3 38 yX2_copyFrom, Cond.instanceMethod yX2_copyFrom, Cond.selects RX2 yX2_copyFrom yX2_copyFrom, Cond.initialized RX2, Cond.code yX2_copyFrom cX2_copyFrom 2 none, Cond.fieldLink RX2 24 "LikelyWalks$Sender" "register" "I", Cond.fieldLink RX2 28 "LikelyWalks$Sender" "bitCount" "I", Cond.fieldLink RX2 9 "LikelyWalks$Sender" "bits" "[I", Cond.methodLink RX2 31 arraycopyName, Cond.native arraycopyName, Cond.static arraycopyName, Cond.initialized "java/lang/System", Cond.fieldLink RX2 15 "LikelyWalks$Sender" "symbols" "[I", Cond.fieldLink RX2 18 "LikelyWalks$Sender" "originals" "[I", Cond.methodLink RX3 41 yX1_copyFrom, Cond.instanceMethod yX1_copyFrom, Cond.selects RX1 yX1_copyFrom yX1_copyFrom, Cond.initialized RX1, Cond.code yX1_copyFrom cX1_copyFrom 2 none, Cond.fieldLink RX1 27 "LikelyWalks$Reader" "steps" "I", Cond.fieldLink RX1 31 "LikelyWalks$Reader" "lineSteps" "I", Cond.fieldLink RX1 34 "LikelyWalks$Reader" "releasedCount" "I"]
def wsX5_hear_r4 : List Cond := [Cond.fieldLink RX1 37 "LikelyWalks$Reader" "isFinished" "Z", Cond.fieldLink RX1 9 "LikelyWalks$Reader" "releasedBits" "[I", Cond.methodLink RX1 47 arraycopyName, Cond.fieldLink RX1 15 "LikelyWalks$Reader" "metrics" "[I", Cond.fieldLink RX1 21 "LikelyWalks$Reader" "fromUpper" "[I", Cond.methodLink RX5 116 yX1_advance, Cond.instanceMethod yX1_advance, Cond.selects RX1 yX1_advance yX1_advance, Cond.code yX1_advance cX1_advance 13 none, Cond.fieldLink RX1 18 "LikelyWalks$Reader" "newMetrics" "[I", Cond.methodLink RX1 53 yX0_states, Cond.instanceMethod yX0_states, Cond.selects RX0 yX0_states yX0_states, Cond.code yX0_states cX0_states 1 (some .int), Cond.methodLink RX1 59 yX0_lowerBefore, Cond.instanceMethod yX0_lowerBefore, Cond.selects RX0 yX0_lowerBefore yX0_lowerBefore, Cond.code yX0_lowerBefore cX0_lowerBefore 2 (some .int), Cond.methodLink RX0 26 yX0_states, Cond.methodLink RX1 63 yX0_bitInto, Cond.instanceMethod yX0_bitInto, Cond.selects RX0 yX0_bitInto yX0_bitInto, Cond.code yX0_bitInto cX0_bitInto 2 (some .int), Cond.methodLink RX1 66 yX1_metricOver]
def wsX5_hear_r5 : List Cond := [Cond.instanceMethod yX1_metricOver, Cond.selects RX1 yX1_metricOver yX1_metricOver, Cond.code yX1_metricOver cX1_metricOver 6 (some .int), Cond.methodLink RX1 78 yX0_priceOf, Cond.instanceMethod yX0_priceOf, Cond.selects RX0 yX0_priceOf yX0_priceOf, Cond.code yX0_priceOf cX0_priceOf 9 (some .int), Cond.methodLink RX0 30 yX0_windowOf, Cond.instanceMethod yX0_windowOf, Cond.selects RX0 yX0_windowOf yX0_windowOf, Cond.code yX0_windowOf cX0_windowOf 3 (some .int), Cond.methodLink RX0 40 yX0_symbolOf, Cond.instanceMethod yX0_symbolOf, Cond.selects RX0 yX0_symbolOf yX0_symbolOf, Cond.code yX0_symbolOf cX0_symbolOf 3 (some .int), Cond.methodLink RX0 34 yJ6_bitCount_0f7a4, Cond.static yJ6_bitCount_0f7a4, Cond.initialized RJ6, Cond.code yJ6_bitCount_0f7a4 cJ6_bitCount_0f7a4 1 (some .int), Cond.constant RJ6 265 (1431655765), Cond.constant RJ6 266 (858993459), Cond.constant RJ6 267 (252645135), Cond.methodLink RX1 70 yX1_bestState, Cond.instanceMethod yX1_bestState]
def wsX5_hear_r6 : List Cond := [Cond.selects RX1 yX1_bestState yX1_bestState, Cond.code yX1_bestState cX1_bestState 6 (some .int), Cond.methodLink RX1 74 yX1_releaseUpTo, Cond.instanceMethod yX1_releaseUpTo, Cond.selects RX1 yX1_releaseUpTo yX1_releaseUpTo, Cond.code yX1_releaseUpTo cX1_releaseUpTo 6 none, Cond.methodLink RX1 82 yX1_stateBefore, Cond.instanceMethod yX1_stateBefore, Cond.selects RX1 yX1_stateBefore yX1_stateBefore, Cond.code yX1_stateBefore cX1_stateBefore 4 (some .int)]
def wsX5_hear : List Cond := .code yX5_hear cX5_hear 6 (some .int) :: ((wsX5_hear_r1 ++ (wsX5_hear_r2 ++ (wsX5_hear_r3 ++ (wsX5_hear_r4 ++ (wsX5_hear_r5 ++ wsX5_hear_r6))))) ++ wsX50 ++ wsX30 ++ wsX00 ++ wsX40 ++ wsX10 ++ wsX20)
def wsX5_finish_r1 : List Cond := [Cond.fieldLink RX5 12 "LikelyWalks" "now" "LLikelyWalks$State;", Cond.fieldLink RX5 64 "LikelyWalks$State" "reader" "LLikelyWalks$Reader;", Cond.fieldLink RX5 110 "LikelyWalks$Reader" "isFinished" "Z", Cond.fieldLink RX5 123 "LikelyWalks$Reader" "metrics" "[I", Cond.fieldLink RX5 45 "LikelyWalks$State" "code" "LLikelyWalks$Code;", Cond.fieldLink RX5 74 "LikelyWalks$Reader" "steps" "I", Cond.fieldLink RX5 120 "LikelyWalks$Reader" "releasedCount" "I", Cond.methodLink RX5 42 yX5_recordNow, Cond.instanceMethod yX5_recordNow, Cond.selects RX5 yX5_recordNow yX5_recordNow, Cond.initialized RX5, Cond.code yX5_recordNow cX5_recordNow 1 none, Cond.fieldLink RX5 27 "LikelyWalks" "pastCount" "I", Cond.fieldLink RX5 23 "LikelyWalks" "past" "[LLikelyWalks$State;", Cond.methodLink RX5 200 yX5_dropOldest, Cond.instanceMethod yX5_dropOldest, Cond.selects RX5 yX5_dropOldest yX5_dropOldest, Cond.code yX5_dropOldest cX5_dropOldest 3 none, Cond.methodLink RX5 138 yX3_copyFrom, Cond.instanceMethod yX3_copyFrom, Cond.selects RX3 yX3_copyFrom yX3_copyFrom, Cond.initialized RX3, Cond.code yX3_copyFrom cX3_copyFrom 2 none, Cond.fieldLink RX3 7 "LikelyWalks$State" "depth" "I"]
def wsX5_finish_r2 : List Cond := [Cond.fieldLink RX3 16 "LikelyWalks$State" "code" "LLikelyWalks$Code;", Cond.fieldLink RX3 23 "LikelyWalks$State" "sender" "LLikelyWalks$Sender;", Cond.fieldLink RX3 30 "LikelyWalks$State" "reader" "LLikelyWalks$Reader;", Cond.methodLink RX3 34 yX0_copyFrom, Cond.instanceMethod yX0_copyFrom, Cond.selects RX0 yX0_copyFrom yX0_copyFrom, Cond.initialized RX0, Cond.code yX0_copyFrom cX0_copyFrom 2 none, Cond.fieldLink RX0 19 "LikelyWalks$Code" "memory" "I", Cond.fieldLink RX0 9 "LikelyWalks$Code" "taps" "[I", Cond.methodLink RX0 15 yX0_choose, Cond.instanceMethod yX0_choose, Cond.selects RX0 yX0_choose yX0_choose, Cond.code yX0_choose cX0_choose 5 none, Cond.fieldLink RX0 23 "LikelyWalks$Code" "outputs" "I", Cond.methodLink RX3 38 yX2_copyFrom, Cond.instanceMethod yX2_copyFrom, Cond.selects RX2 yX2_copyFrom yX2_copyFrom, Cond.initialized RX2, Cond.code yX2_copyFrom cX2_copyFrom 2 none, Cond.fieldLink RX2 24 "LikelyWalks$Sender" "register" "I", Cond.fieldLink RX2 28 "LikelyWalks$Sender" "bitCount" "I", Cond.fieldLink RX2 9 "LikelyWalks$Sender" "bits" "[I", Cond.methodLink RX2 31 arraycopyName]
def wsX5_finish_r3 : List Cond := [Cond.native arraycopyName, Cond.static arraycopyName, Cond.initialized "java/lang/System", Cond.fieldLink RX2 15 "LikelyWalks$Sender" "symbols" "[I", Cond.fieldLink RX2 18 "LikelyWalks$Sender" "originals" "[I", Cond.methodLink RX3 41 yX1_copyFrom, Cond.instanceMethod yX1_copyFrom, Cond.selects RX1 yX1_copyFrom yX1_copyFrom, Cond.initialized RX1, Cond.code yX1_copyFrom cX1_copyFrom 2 none, Cond.fieldLink RX1 27 "LikelyWalks$Reader" "steps" "I", Cond.fieldLink RX1 31 "LikelyWalks$Reader" "lineSteps" "I", Cond.fieldLink RX1 34 "LikelyWalks$Reader" "releasedCount" "I", Cond.fieldLink RX1 37 "LikelyWalks$Reader" "isFinished" "Z", Cond.fieldLink RX1 9 "LikelyWalks$Reader" "releasedBits" "[I", Cond.methodLink RX1 47 arraycopyName, Cond.fieldLink RX1 15 "LikelyWalks$Reader" "metrics" "[I", Cond.fieldLink RX1 21 "LikelyWalks$Reader" "fromUpper" "[I", Cond.methodLink RX5 126 yX1_bestState, Cond.instanceMethod yX1_bestState, Cond.selects RX1 yX1_bestState yX1_bestState, Cond.code yX1_bestState cX1_bestState 6 (some .int), Cond.methodLink RX1 53 yX0_states, Cond.instanceMethod yX0_states]
def wsX5_finish_r4 : List Cond := [Cond.selects RX0 yX0_states yX0_states, Cond.code yX0_states cX0_states 1 (some .int), Cond.methodLink RX5 130 yX1_releaseUpTo, Cond.instanceMethod yX1_releaseUpTo, Cond.selects RX1 yX1_releaseUpTo yX1_releaseUpTo, Cond.code yX1_releaseUpTo cX1_releaseUpTo 6 none, Cond.methodLink RX1 63 yX0_bitInto, Cond.instanceMethod yX0_bitInto, Cond.selects RX0 yX0_bitInto yX0_bitInto, Cond.code yX0_bitInto cX0_bitInto 2 (some .int), Cond.methodLink RX1 82 yX1_stateBefore, Cond.instanceMethod yX1_stateBefore, Cond.selects RX1 yX1_stateBefore yX1_stateBefore, Cond.code yX1_stateBefore cX1_stateBefore 4 (some .int), Cond.methodLink RX1 59 yX0_lowerBefore, Cond.instanceMethod yX0_lowerBefore, Cond.selects RX0 yX0_lowerBefore yX0_lowerBefore, Cond.code yX0_lowerBefore cX0_lowerBefore 2 (some .int), Cond.methodLink RX0 26 yX0_states]
def wsX5_finish : List Cond := .code yX5_finish cX5_finish 4 (some .int) :: ((wsX5_finish_r1 ++ (wsX5_finish_r2 ++ (wsX5_finish_r3 ++ wsX5_finish_r4))) ++ wsX50 ++ wsX30 ++ wsX10 ++ wsX00 ++ wsX20)
def wsX5_reset_r1 : List Cond := [Cond.fieldLink RX5 12 "LikelyWalks" "now" "LLikelyWalks$State;", Cond.fieldLink RX5 64 "LikelyWalks$State" "reader" "LLikelyWalks$Reader;", Cond.fieldLink RX5 74 "LikelyWalks$Reader" "steps" "I", Cond.methodLink RX5 42 yX5_recordNow, Cond.instanceMethod yX5_recordNow, Cond.selects RX5 yX5_recordNow yX5_recordNow, Cond.initialized RX5, Cond.code yX5_recordNow cX5_recordNow 1 none, Cond.fieldLink RX5 27 "LikelyWalks" "pastCount" "I", Cond.fieldLink RX5 23 "LikelyWalks" "past" "[LLikelyWalks$State;", Cond.methodLink RX5 200 yX5_dropOldest, Cond.instanceMethod yX5_dropOldest, Cond.selects RX5 yX5_dropOldest yX5_dropOldest, Cond.code yX5_dropOldest cX5_dropOldest 3 none, Cond.methodLink RX5 138 yX3_copyFrom, Cond.instanceMethod yX3_copyFrom, Cond.selects RX3 yX3_copyFrom yX3_copyFrom, Cond.initialized RX3, Cond.code yX3_copyFrom cX3_copyFrom 2 none, Cond.fieldLink RX3 7 "LikelyWalks$State" "depth" "I", Cond.fieldLink RX3 16 "LikelyWalks$State" "code" "LLikelyWalks$Code;", Cond.fieldLink RX3 23 "LikelyWalks$State" "sender" "LLikelyWalks$Sender;", Cond.fieldLink RX3 30 "LikelyWalks$State" "reader" "LLikelyWalks$Reader;", Cond.methodLink RX3 34 yX0_copyFrom]
def wsX5_reset_r2 : List Cond := [Cond.instanceMethod yX0_copyFrom, Cond.selects RX0 yX0_copyFrom yX0_copyFrom, Cond.initialized RX0, Cond.code yX0_copyFrom cX0_copyFrom 2 none, Cond.fieldLink RX0 19 "LikelyWalks$Code" "memory" "I", Cond.fieldLink RX0 9 "LikelyWalks$Code" "taps" "[I", Cond.methodLink RX0 15 yX0_choose, Cond.instanceMethod yX0_choose, Cond.selects RX0 yX0_choose yX0_choose, Cond.code yX0_choose cX0_choose 5 none, Cond.fieldLink RX0 23 "LikelyWalks$Code" "outputs" "I", Cond.methodLink RX3 38 yX2_copyFrom, Cond.instanceMethod yX2_copyFrom, Cond.selects RX2 yX2_copyFrom yX2_copyFrom, Cond.initialized RX2, Cond.code yX2_copyFrom cX2_copyFrom 2 none, Cond.fieldLink RX2 24 "LikelyWalks$Sender" "register" "I", Cond.fieldLink RX2 28 "LikelyWalks$Sender" "bitCount" "I", Cond.fieldLink RX2 9 "LikelyWalks$Sender" "bits" "[I", Cond.methodLink RX2 31 arraycopyName, Cond.native arraycopyName, Cond.static arraycopyName, Cond.initialized "java/lang/System", Cond.fieldLink RX2 15 "LikelyWalks$Sender" "symbols" "[I"]
def wsX5_reset_r3 : List Cond := [Cond.fieldLink RX2 18 "LikelyWalks$Sender" "originals" "[I", Cond.methodLink RX3 41 yX1_copyFrom, Cond.instanceMethod yX1_copyFrom, Cond.selects RX1 yX1_copyFrom yX1_copyFrom, Cond.initialized RX1, Cond.code yX1_copyFrom cX1_copyFrom 2 none, Cond.fieldLink RX1 27 "LikelyWalks$Reader" "steps" "I", Cond.fieldLink RX1 31 "LikelyWalks$Reader" "lineSteps" "I", Cond.fieldLink RX1 34 "LikelyWalks$Reader" "releasedCount" "I", Cond.fieldLink RX1 37 "LikelyWalks$Reader" "isFinished" "Z", Cond.fieldLink RX1 9 "LikelyWalks$Reader" "releasedBits" "[I", Cond.methodLink RX1 47 arraycopyName, Cond.fieldLink RX1 15 "LikelyWalks$Reader" "metrics" "[I", Cond.fieldLink RX1 21 "LikelyWalks$Reader" "fromUpper" "[I", Cond.methodLink RX5 68 yX1_clear, Cond.instanceMethod yX1_clear, Cond.selects RX1 yX1_clear yX1_clear, Cond.code yX1_clear cX1_clear 1 none, Cond.methodLink RX1 41 yJ7_fill_53178, Cond.static yJ7_fill_53178, Cond.initialized RJ7, Cond.code yJ7_fill_53178 cJ7_fill_53178 4 none]
def wsX5_reset : List Cond := .code yX5_reset cX5_reset 2 (some .int) :: ((wsX5_reset_r1 ++ (wsX5_reset_r2 ++ wsX5_reset_r3)) ++ wsX50 ++ wsX30 ++ wsX10 ++ wsX00 ++ wsX20)
def wsX5_type : List Cond := .code yX5_type cX5_type 2 (some .int) :: ([.fieldLink RX5 34 "LikelyWalks" "text" "LLikelyWalks$Text;", .fieldLink RX5 87 "LikelyWalks$Text" "length" "I", .methodLink RX5 134 yX4_append, .instanceMethod yX4_append, .selects RX4 yX4_append yX4_append, .initialized RX4, .code yX4_append cX4_append 2 none, .fieldLink RX4 9 "LikelyWalks$Text" "length" "I", .fieldLink RX4 15 "LikelyWalks$Text" "values" "[I", .methodLink RX4 19 yX4_valueOf, .static yX4_valueOf, .code yX4_valueOf cX4_valueOf 1 (some .int)] ++ wsX50 ++ wsX40)
def wsX5_clearText : List Cond := .code yX5_clearText cX5_clearText 2 (some .int) :: ([.fieldLink RX5 34 "LikelyWalks" "text" "LLikelyWalks$Text;", .fieldLink RX5 87 "LikelyWalks$Text" "length" "I"] ++ wsX50 ++ wsX40)
def wsX5_undo_r1 : List Cond := [Cond.fieldLink RX5 27 "LikelyWalks" "pastCount" "I", Cond.fieldLink RX5 12 "LikelyWalks" "now" "LLikelyWalks$State;", Cond.fieldLink RX5 23 "LikelyWalks" "past" "[LLikelyWalks$State;", Cond.methodLink RX5 138 yX3_copyFrom, Cond.instanceMethod yX3_copyFrom, Cond.selects RX3 yX3_copyFrom yX3_copyFrom, Cond.initialized RX3, Cond.code yX3_copyFrom cX3_copyFrom 2 none, Cond.fieldLink RX3 7 "LikelyWalks$State" "depth" "I", Cond.fieldLink RX3 16 "LikelyWalks$State" "code" "LLikelyWalks$Code;", Cond.fieldLink RX3 23 "LikelyWalks$State" "sender" "LLikelyWalks$Sender;", Cond.fieldLink RX3 30 "LikelyWalks$State" "reader" "LLikelyWalks$Reader;", Cond.methodLink RX3 34 yX0_copyFrom, Cond.instanceMethod yX0_copyFrom, Cond.selects RX0 yX0_copyFrom yX0_copyFrom, Cond.initialized RX0, Cond.code yX0_copyFrom cX0_copyFrom 2 none, Cond.fieldLink RX0 19 "LikelyWalks$Code" "memory" "I", Cond.fieldLink RX0 9 "LikelyWalks$Code" "taps" "[I", Cond.methodLink RX0 15 yX0_choose, Cond.instanceMethod yX0_choose, Cond.selects RX0 yX0_choose yX0_choose, Cond.code yX0_choose cX0_choose 5 none, Cond.fieldLink RX0 23 "LikelyWalks$Code" "outputs" "I"]
def wsX5_undo_r2 : List Cond := [Cond.methodLink RX3 38 yX2_copyFrom, Cond.instanceMethod yX2_copyFrom, Cond.selects RX2 yX2_copyFrom yX2_copyFrom, Cond.initialized RX2, Cond.code yX2_copyFrom cX2_copyFrom 2 none, Cond.fieldLink RX2 24 "LikelyWalks$Sender" "register" "I", Cond.fieldLink RX2 28 "LikelyWalks$Sender" "bitCount" "I", Cond.fieldLink RX2 9 "LikelyWalks$Sender" "bits" "[I", Cond.methodLink RX2 31 arraycopyName, Cond.native arraycopyName, Cond.static arraycopyName, Cond.initialized "java/lang/System", Cond.fieldLink RX2 15 "LikelyWalks$Sender" "symbols" "[I", Cond.fieldLink RX2 18 "LikelyWalks$Sender" "originals" "[I", Cond.methodLink RX3 41 yX1_copyFrom, Cond.instanceMethod yX1_copyFrom, Cond.selects RX1 yX1_copyFrom yX1_copyFrom, Cond.initialized RX1, Cond.code yX1_copyFrom cX1_copyFrom 2 none, Cond.fieldLink RX1 27 "LikelyWalks$Reader" "steps" "I", Cond.fieldLink RX1 31 "LikelyWalks$Reader" "lineSteps" "I", Cond.fieldLink RX1 34 "LikelyWalks$Reader" "releasedCount" "I", Cond.fieldLink RX1 37 "LikelyWalks$Reader" "isFinished" "Z", Cond.fieldLink RX1 9 "LikelyWalks$Reader" "releasedBits" "[I"]
def wsX5_undo_r3 : List Cond := [Cond.methodLink RX1 47 arraycopyName, Cond.fieldLink RX1 15 "LikelyWalks$Reader" "metrics" "[I", Cond.fieldLink RX1 21 "LikelyWalks$Reader" "fromUpper" "[I"]
def wsX5_undo : List Cond := .code yX5_undo cX5_undo 1 (some .int) :: ((wsX5_undo_r1 ++ (wsX5_undo_r2 ++ wsX5_undo_r3)) ++ wsX50 ++ wsX30 ++ wsX00 ++ wsX20 ++ wsX10)
def wsX5_keep_r1 : List Cond := [Cond.fieldLink RX5 16 "LikelyWalks" "kept" "LLikelyWalks$State;", Cond.fieldLink RX5 12 "LikelyWalks" "now" "LLikelyWalks$State;", Cond.fieldLink RX5 19 "LikelyWalks" "isKept" "Z", Cond.fieldLink RX5 55 "LikelyWalks$State" "sender" "LLikelyWalks$Sender;", Cond.fieldLink RX5 84 "LikelyWalks$Sender" "bitCount" "I", Cond.methodLink RX5 138 yX3_copyFrom, Cond.instanceMethod yX3_copyFrom, Cond.selects RX3 yX3_copyFrom yX3_copyFrom, Cond.initialized RX3, Cond.code yX3_copyFrom cX3_copyFrom 2 none, Cond.fieldLink RX3 7 "LikelyWalks$State" "depth" "I", Cond.fieldLink RX3 16 "LikelyWalks$State" "code" "LLikelyWalks$Code;", Cond.fieldLink RX3 23 "LikelyWalks$State" "sender" "LLikelyWalks$Sender;", Cond.fieldLink RX3 30 "LikelyWalks$State" "reader" "LLikelyWalks$Reader;", Cond.methodLink RX3 34 yX0_copyFrom, Cond.instanceMethod yX0_copyFrom, Cond.selects RX0 yX0_copyFrom yX0_copyFrom, Cond.initialized RX0, Cond.code yX0_copyFrom cX0_copyFrom 2 none, Cond.fieldLink RX0 19 "LikelyWalks$Code" "memory" "I", Cond.fieldLink RX0 9 "LikelyWalks$Code" "taps" "[I", Cond.methodLink RX0 15 yX0_choose, Cond.instanceMethod yX0_choose, Cond.selects RX0 yX0_choose yX0_choose]
def wsX5_keep_r2 : List Cond := [Cond.code yX0_choose cX0_choose 5 none, Cond.fieldLink RX0 23 "LikelyWalks$Code" "outputs" "I", Cond.methodLink RX3 38 yX2_copyFrom, Cond.instanceMethod yX2_copyFrom, Cond.selects RX2 yX2_copyFrom yX2_copyFrom, Cond.initialized RX2, Cond.code yX2_copyFrom cX2_copyFrom 2 none, Cond.fieldLink RX2 24 "LikelyWalks$Sender" "register" "I", Cond.fieldLink RX2 28 "LikelyWalks$Sender" "bitCount" "I", Cond.fieldLink RX2 9 "LikelyWalks$Sender" "bits" "[I", Cond.methodLink RX2 31 arraycopyName, Cond.native arraycopyName, Cond.static arraycopyName, Cond.initialized "java/lang/System", Cond.fieldLink RX2 15 "LikelyWalks$Sender" "symbols" "[I", Cond.fieldLink RX2 18 "LikelyWalks$Sender" "originals" "[I", Cond.methodLink RX3 41 yX1_copyFrom, Cond.instanceMethod yX1_copyFrom, Cond.selects RX1 yX1_copyFrom yX1_copyFrom, Cond.initialized RX1, Cond.code yX1_copyFrom cX1_copyFrom 2 none, Cond.fieldLink RX1 27 "LikelyWalks$Reader" "steps" "I", Cond.fieldLink RX1 31 "LikelyWalks$Reader" "lineSteps" "I", Cond.fieldLink RX1 34 "LikelyWalks$Reader" "releasedCount" "I"]
def wsX5_keep_r3 : List Cond := [Cond.fieldLink RX1 37 "LikelyWalks$Reader" "isFinished" "Z", Cond.fieldLink RX1 9 "LikelyWalks$Reader" "releasedBits" "[I", Cond.methodLink RX1 47 arraycopyName, Cond.fieldLink RX1 15 "LikelyWalks$Reader" "metrics" "[I", Cond.fieldLink RX1 21 "LikelyWalks$Reader" "fromUpper" "[I"]
def wsX5_keep : List Cond := .code yX5_keep cX5_keep 1 (some .int) :: ((wsX5_keep_r1 ++ (wsX5_keep_r2 ++ wsX5_keep_r3)) ++ wsX50 ++ wsX30 ++ wsX20 ++ wsX00 ++ wsX10)
def wsX5_restore_r1 : List Cond := [Cond.fieldLink RX5 19 "LikelyWalks" "isKept" "Z", Cond.fieldLink RX5 12 "LikelyWalks" "now" "LLikelyWalks$State;", Cond.fieldLink RX5 16 "LikelyWalks" "kept" "LLikelyWalks$State;", Cond.fieldLink RX5 55 "LikelyWalks$State" "sender" "LLikelyWalks$Sender;", Cond.fieldLink RX5 84 "LikelyWalks$Sender" "bitCount" "I", Cond.methodLink RX5 42 yX5_recordNow, Cond.instanceMethod yX5_recordNow, Cond.selects RX5 yX5_recordNow yX5_recordNow, Cond.initialized RX5, Cond.code yX5_recordNow cX5_recordNow 1 none, Cond.fieldLink RX5 27 "LikelyWalks" "pastCount" "I", Cond.fieldLink RX5 23 "LikelyWalks" "past" "[LLikelyWalks$State;", Cond.methodLink RX5 200 yX5_dropOldest, Cond.instanceMethod yX5_dropOldest, Cond.selects RX5 yX5_dropOldest yX5_dropOldest, Cond.code yX5_dropOldest cX5_dropOldest 3 none, Cond.methodLink RX5 138 yX3_copyFrom, Cond.instanceMethod yX3_copyFrom, Cond.selects RX3 yX3_copyFrom yX3_copyFrom, Cond.initialized RX3, Cond.code yX3_copyFrom cX3_copyFrom 2 none, Cond.fieldLink RX3 7 "LikelyWalks$State" "depth" "I", Cond.fieldLink RX3 16 "LikelyWalks$State" "code" "LLikelyWalks$Code;", Cond.fieldLink RX3 23 "LikelyWalks$State" "sender" "LLikelyWalks$Sender;"]
def wsX5_restore_r2 : List Cond := [Cond.fieldLink RX3 30 "LikelyWalks$State" "reader" "LLikelyWalks$Reader;", Cond.methodLink RX3 34 yX0_copyFrom, Cond.instanceMethod yX0_copyFrom, Cond.selects RX0 yX0_copyFrom yX0_copyFrom, Cond.initialized RX0, Cond.code yX0_copyFrom cX0_copyFrom 2 none, Cond.fieldLink RX0 19 "LikelyWalks$Code" "memory" "I", Cond.fieldLink RX0 9 "LikelyWalks$Code" "taps" "[I", Cond.methodLink RX0 15 yX0_choose, Cond.instanceMethod yX0_choose, Cond.selects RX0 yX0_choose yX0_choose, Cond.code yX0_choose cX0_choose 5 none, Cond.fieldLink RX0 23 "LikelyWalks$Code" "outputs" "I", Cond.methodLink RX3 38 yX2_copyFrom, Cond.instanceMethod yX2_copyFrom, Cond.selects RX2 yX2_copyFrom yX2_copyFrom, Cond.initialized RX2, Cond.code yX2_copyFrom cX2_copyFrom 2 none, Cond.fieldLink RX2 24 "LikelyWalks$Sender" "register" "I", Cond.fieldLink RX2 28 "LikelyWalks$Sender" "bitCount" "I", Cond.fieldLink RX2 9 "LikelyWalks$Sender" "bits" "[I", Cond.methodLink RX2 31 arraycopyName, Cond.native arraycopyName, Cond.static arraycopyName]
def wsX5_restore_r3 : List Cond := [Cond.initialized "java/lang/System", Cond.fieldLink RX2 15 "LikelyWalks$Sender" "symbols" "[I", Cond.fieldLink RX2 18 "LikelyWalks$Sender" "originals" "[I", Cond.methodLink RX3 41 yX1_copyFrom, Cond.instanceMethod yX1_copyFrom, Cond.selects RX1 yX1_copyFrom yX1_copyFrom, Cond.initialized RX1, Cond.code yX1_copyFrom cX1_copyFrom 2 none, Cond.fieldLink RX1 27 "LikelyWalks$Reader" "steps" "I", Cond.fieldLink RX1 31 "LikelyWalks$Reader" "lineSteps" "I", Cond.fieldLink RX1 34 "LikelyWalks$Reader" "releasedCount" "I", Cond.fieldLink RX1 37 "LikelyWalks$Reader" "isFinished" "Z", Cond.fieldLink RX1 9 "LikelyWalks$Reader" "releasedBits" "[I", Cond.methodLink RX1 47 arraycopyName, Cond.fieldLink RX1 15 "LikelyWalks$Reader" "metrics" "[I", Cond.fieldLink RX1 21 "LikelyWalks$Reader" "fromUpper" "[I"]
def wsX5_restore : List Cond := .code yX5_restore cX5_restore 1 (some .int) :: ((wsX5_restore_r1 ++ (wsX5_restore_r2 ++ wsX5_restore_r3)) ++ wsX50 ++ wsX30 ++ wsX20 ++ wsX00 ++ wsX10)
def wsX5_step_r1 : List Cond := [Cond.fieldLink RX5 12 "LikelyWalks" "now" "LLikelyWalks$State;", Cond.fieldLink RX5 45 "LikelyWalks$State" "code" "LLikelyWalks$Code;", Cond.methodLink RX5 142 yX0_hasState, Cond.instanceMethod yX0_hasState, Cond.selects RX0 yX0_hasState yX0_hasState, Cond.initialized RX0, Cond.code yX0_hasState cX0_hasState 2 (some .boolean), Cond.methodLink RX0 26 yX0_states, Cond.instanceMethod yX0_states, Cond.selects RX0 yX0_states yX0_states, Cond.code yX0_states cX0_states 1 (some .int), Cond.fieldLink RX0 19 "LikelyWalks$Code" "memory" "I", Cond.methodLink RX5 145 yX0_stateAfter, Cond.instanceMethod yX0_stateAfter, Cond.selects RX0 yX0_stateAfter yX0_stateAfter, Cond.code yX0_stateAfter cX0_stateAfter 3 (some .int), Cond.methodLink RX0 30 yX0_windowOf, Cond.instanceMethod yX0_windowOf, Cond.selects RX0 yX0_windowOf yX0_windowOf, Cond.code yX0_windowOf cX0_windowOf 3 (some .int), Cond.methodLink RX5 149 yX0_symbolsOf, Cond.instanceMethod yX0_symbolsOf, Cond.selects RX0 yX0_symbolsOf yX0_symbolsOf, Cond.code yX0_symbolsOf cX0_symbolsOf 6 (some .int)]
def wsX5_step_r2 : List Cond := [Cond.fieldLink RX0 23 "LikelyWalks$Code" "outputs" "I", Cond.methodLink RX0 40 yX0_symbolOf, Cond.instanceMethod yX0_symbolOf, Cond.selects RX0 yX0_symbolOf yX0_symbolOf, Cond.code yX0_symbolOf cX0_symbolOf 3 (some .int), Cond.fieldLink RX0 9 "LikelyWalks$Code" "taps" "[I", Cond.methodLink RX0 34 yJ6_bitCount_0f7a4, Cond.static yJ6_bitCount_0f7a4, Cond.initialized RJ6, Cond.code yJ6_bitCount_0f7a4 cJ6_bitCount_0f7a4 1 (some .int), Cond.constant RJ6 265 (1431655765), Cond.constant RJ6 266 (858993459), Cond.constant RJ6 267 (252645135)]
def wsX5_step : List Cond := .code yX5_step cX5_step 4 (some .int) :: ((wsX5_step_r1 ++ wsX5_step_r2) ++ wsX50 ++ wsX30 ++ wsX00)
def wsX5_line : List Cond := .code yX5_line cX5_line 3 (some .int) :: ([.fieldLink RX5 12 "LikelyWalks" "now" "LLikelyWalks$State;", .fieldLink RX5 55 "LikelyWalks$State" "sender" "LLikelyWalks$Sender;", .fieldLink RX5 104 "LikelyWalks$Sender" "symbols" "[I", .fieldLink RX5 152 "LikelyWalks$Sender" "originals" "[I", .methodLink RX5 100 yX5_isOnLine, .instanceMethod yX5_isOnLine, .selects RX5 yX5_isOnLine yX5_isOnLine, .initialized RX5, .code yX5_isOnLine cX5_isOnLine 2 (some .boolean), .methodLink RX5 184 yX5_lineLength, .instanceMethod yX5_lineLength, .selects RX5 yX5_lineLength yX5_lineLength, .code yX5_lineLength cX5_lineLength 1 (some .int), .fieldLink RX5 84 "LikelyWalks$Sender" "bitCount" "I", .fieldLink RX5 45 "LikelyWalks$State" "code" "LLikelyWalks$Code;", .fieldLink RX5 71 "LikelyWalks$Code" "outputs" "I", .methodLink RX5 107 yX5_isTaken, .instanceMethod yX5_isTaken, .selects RX5 yX5_isTaken yX5_isTaken, .code yX5_isTaken cX5_isTaken 2 (some .boolean), .fieldLink RX5 64 "LikelyWalks$State" "reader" "LLikelyWalks$Reader;", .fieldLink RX5 113 "LikelyWalks$Reader" "lineSteps" "I"] ++ wsX50 ++ wsX30 ++ wsX20 ++ wsX00 ++ wsX10)
def wsX5_sent : List Cond := .code yX5_sent cX5_sent 2 (some .int) :: ([.fieldLink RX5 12 "LikelyWalks" "now" "LLikelyWalks$State;", .fieldLink RX5 55 "LikelyWalks$State" "sender" "LLikelyWalks$Sender;", .fieldLink RX5 84 "LikelyWalks$Sender" "bitCount" "I", .fieldLink RX5 155 "LikelyWalks$Sender" "bits" "[I"] ++ wsX50 ++ wsX30 ++ wsX20)
def wsX5_released : List Cond := .code yX5_released cX5_released 2 (some .int) :: ([.fieldLink RX5 12 "LikelyWalks" "now" "LLikelyWalks$State;", .fieldLink RX5 64 "LikelyWalks$State" "reader" "LLikelyWalks$Reader;", .fieldLink RX5 120 "LikelyWalks$Reader" "releasedCount" "I", .fieldLink RX5 158 "LikelyWalks$Reader" "releasedBits" "[I"] ++ wsX50 ++ wsX30 ++ wsX10)
def wsX5_metric : List Cond := .code yX5_metric cX5_metric 3 (some .int) :: ([.fieldLink RX5 12 "LikelyWalks" "now" "LLikelyWalks$State;", .fieldLink RX5 45 "LikelyWalks$State" "code" "LLikelyWalks$Code;", .fieldLink RX5 64 "LikelyWalks$State" "reader" "LLikelyWalks$Reader;", .fieldLink RX5 123 "LikelyWalks$Reader" "metrics" "[I", .methodLink RX5 142 yX0_hasState, .instanceMethod yX0_hasState, .selects RX0 yX0_hasState yX0_hasState, .initialized RX0, .code yX0_hasState cX0_hasState 2 (some .boolean), .methodLink RX0 26 yX0_states, .instanceMethod yX0_states, .selects RX0 yX0_states yX0_states, .code yX0_states cX0_states 1 (some .int), .fieldLink RX0 19 "LikelyWalks$Code" "memory" "I"] ++ wsX50 ++ wsX30 ++ wsX10 ++ wsX00)
def wsX5_survivor_r1 : List Cond := [Cond.fieldLink RX5 12 "LikelyWalks" "now" "LLikelyWalks$State;", Cond.fieldLink RX5 45 "LikelyWalks$State" "code" "LLikelyWalks$Code;", Cond.fieldLink RX5 64 "LikelyWalks$State" "reader" "LLikelyWalks$Reader;", Cond.fieldLink RX5 123 "LikelyWalks$Reader" "metrics" "[I", Cond.fieldLink RX5 74 "LikelyWalks$Reader" "steps" "I", Cond.methodLink RX5 142 yX0_hasState, Cond.instanceMethod yX0_hasState, Cond.selects RX0 yX0_hasState yX0_hasState, Cond.initialized RX0, Cond.code yX0_hasState cX0_hasState 2 (some .boolean), Cond.methodLink RX0 26 yX0_states, Cond.instanceMethod yX0_states, Cond.selects RX0 yX0_states yX0_states, Cond.code yX0_states cX0_states 1 (some .int), Cond.fieldLink RX0 19 "LikelyWalks$Code" "memory" "I", Cond.methodLink RX5 161 yX1_survivorBit, Cond.instanceMethod yX1_survivorBit, Cond.selects RX1 yX1_survivorBit yX1_survivorBit, Cond.initialized RX1, Cond.code yX1_survivorBit cX1_survivorBit 6 (some .int), Cond.fieldLink RX1 27 "LikelyWalks$Reader" "steps" "I", Cond.methodLink RX1 82 yX1_stateBefore, Cond.instanceMethod yX1_stateBefore, Cond.selects RX1 yX1_stateBefore yX1_stateBefore]
def wsX5_survivor_r2 : List Cond := [Cond.code yX1_stateBefore cX1_stateBefore 4 (some .int), Cond.fieldLink RX1 21 "LikelyWalks$Reader" "fromUpper" "[I", Cond.methodLink RX1 59 yX0_lowerBefore, Cond.instanceMethod yX0_lowerBefore, Cond.selects RX0 yX0_lowerBefore yX0_lowerBefore, Cond.code yX0_lowerBefore cX0_lowerBefore 2 (some .int), Cond.methodLink RX1 63 yX0_bitInto, Cond.instanceMethod yX0_bitInto, Cond.selects RX0 yX0_bitInto yX0_bitInto, Cond.code yX0_bitInto cX0_bitInto 2 (some .int)]
def wsX5_survivor : List Cond := .code yX5_survivor cX5_survivor 3 (some .int) :: ((wsX5_survivor_r1 ++ wsX5_survivor_r2) ++ wsX50 ++ wsX30 ++ wsX10 ++ wsX00)
def wsX5_agreed_r1 : List Cond := [Cond.fieldLink RX5 12 "LikelyWalks" "now" "LLikelyWalks$State;", Cond.fieldLink RX5 64 "LikelyWalks$State" "reader" "LLikelyWalks$Reader;", Cond.fieldLink RX5 45 "LikelyWalks$State" "code" "LLikelyWalks$Code;", Cond.methodLink RX5 165 yX1_commonBits, Cond.instanceMethod yX1_commonBits, Cond.selects RX1 yX1_commonBits yX1_commonBits, Cond.initialized RX1, Cond.code yX1_commonBits cX1_commonBits 11 (some .int), Cond.fieldLink RX1 27 "LikelyWalks$Reader" "steps" "I", Cond.methodLink RX1 53 yX0_states, Cond.instanceMethod yX0_states, Cond.selects RX0 yX0_states yX0_states, Cond.initialized RX0, Cond.code yX0_states cX0_states 1 (some .int), Cond.fieldLink RX0 19 "LikelyWalks$Code" "memory" "I", Cond.methodLink RX1 86 yX1_reached, Cond.instanceMethod yX1_reached, Cond.selects RX1 yX1_reached yX1_reached, Cond.code yX1_reached cX1_reached 6 (some .long), Cond.fieldLink RX1 15 "LikelyWalks$Reader" "metrics" "[I", Cond.methodLink RX1 63 yX0_bitInto, Cond.instanceMethod yX0_bitInto, Cond.selects RX0 yX0_bitInto yX0_bitInto, Cond.code yX0_bitInto cX0_bitInto 2 (some .int)]
def wsX5_agreed_r2 : List Cond := [Cond.methodLink RX1 82 yX1_stateBefore, Cond.instanceMethod yX1_stateBefore, Cond.selects RX1 yX1_stateBefore yX1_stateBefore, Cond.code yX1_stateBefore cX1_stateBefore 4 (some .int), Cond.fieldLink RX1 21 "LikelyWalks$Reader" "fromUpper" "[I", Cond.methodLink RX1 59 yX0_lowerBefore, Cond.instanceMethod yX0_lowerBefore, Cond.selects RX0 yX0_lowerBefore yX0_lowerBefore, Cond.code yX0_lowerBefore cX0_lowerBefore 2 (some .int), Cond.methodLink RX0 26 yX0_states]
def wsX5_agreed : List Cond := .code yX5_agreed cX5_agreed 1 (some .int) :: ((wsX5_agreed_r1 ++ wsX5_agreed_r2) ++ wsX50 ++ wsX30 ++ wsX10 ++ wsX00)
def wsX5_freeDistance_r1 : List Cond := [Cond.fieldLink RX5 12 "LikelyWalks" "now" "LLikelyWalks$State;", Cond.fieldLink RX5 45 "LikelyWalks$State" "code" "LLikelyWalks$Code;", Cond.fieldLink RX5 38 "LikelyWalks" "distances" "[I", Cond.methodLink RX5 168 yX0_leastReturn, Cond.instanceMethod yX0_leastReturn, Cond.selects RX0 yX0_leastReturn yX0_leastReturn, Cond.initialized RX0, Cond.code yX0_leastReturn cX0_leastReturn 5 (some .int), Cond.methodLink RX0 26 yX0_states, Cond.instanceMethod yX0_states, Cond.selects RX0 yX0_states yX0_states, Cond.code yX0_states cX0_states 1 (some .int), Cond.fieldLink RX0 19 "LikelyWalks$Code" "memory" "I", Cond.methodLink RX0 46 yJ7_fill_53178, Cond.static yJ7_fill_53178, Cond.initialized RJ7, Cond.code yJ7_fill_53178 cJ7_fill_53178 4 none, Cond.methodLink RX0 52 yX0_stateAfter, Cond.instanceMethod yX0_stateAfter, Cond.selects RX0 yX0_stateAfter yX0_stateAfter, Cond.code yX0_stateAfter cX0_stateAfter 3 (some .int), Cond.methodLink RX0 30 yX0_windowOf, Cond.instanceMethod yX0_windowOf, Cond.selects RX0 yX0_windowOf yX0_windowOf]
def wsX5_freeDistance_r2 : List Cond := [Cond.code yX0_windowOf cX0_windowOf 3 (some .int), Cond.methodLink RX0 55 yX0_onesOf, Cond.instanceMethod yX0_onesOf, Cond.selects RX0 yX0_onesOf yX0_onesOf, Cond.code yX0_onesOf cX0_onesOf 3 (some .int), Cond.methodLink RX0 43 yX0_symbolsOf, Cond.instanceMethod yX0_symbolsOf, Cond.selects RX0 yX0_symbolsOf yX0_symbolsOf, Cond.code yX0_symbolsOf cX0_symbolsOf 6 (some .int), Cond.fieldLink RX0 23 "LikelyWalks$Code" "outputs" "I", Cond.methodLink RX0 40 yX0_symbolOf, Cond.instanceMethod yX0_symbolOf, Cond.selects RX0 yX0_symbolOf yX0_symbolOf, Cond.code yX0_symbolOf cX0_symbolOf 3 (some .int), Cond.fieldLink RX0 9 "LikelyWalks$Code" "taps" "[I", Cond.methodLink RX0 34 yJ6_bitCount_0f7a4, Cond.static yJ6_bitCount_0f7a4, Cond.initialized RJ6, Cond.code yJ6_bitCount_0f7a4 cJ6_bitCount_0f7a4 1 (some .int), Cond.constant RJ6 265 (1431655765), Cond.constant RJ6 266 (858993459), Cond.constant RJ6 267 (252645135), Cond.methodLink RX0 58 yX0_lowerAfter, Cond.instanceMethod yX0_lowerAfter]
def wsX5_freeDistance_r3 : List Cond := [Cond.selects RX0 yX0_lowerAfter yX0_lowerAfter, Cond.code yX0_lowerAfter cX0_lowerAfter 7 none]
def wsX5_freeDistance : List Cond := .code yX5_freeDistance cX5_freeDistance 2 (some .int) :: ((wsX5_freeDistance_r1 ++ (wsX5_freeDistance_r2 ++ wsX5_freeDistance_r3)) ++ wsX50 ++ wsX30 ++ wsX00)
def wsX5_hasIdleRing_r1 : List Cond := [Cond.fieldLink RX5 12 "LikelyWalks" "now" "LLikelyWalks$State;", Cond.fieldLink RX5 45 "LikelyWalks$State" "code" "LLikelyWalks$Code;", Cond.methodLink RX5 172 yX0_hasRingOfZeros, Cond.instanceMethod yX0_hasRingOfZeros, Cond.selects RX0 yX0_hasRingOfZeros yX0_hasRingOfZeros, Cond.initialized RX0, Cond.code yX0_hasRingOfZeros cX0_hasRingOfZeros 8 (some .boolean), Cond.constantLong RX0 62 (2), Cond.methodLink RX0 26 yX0_states, Cond.instanceMethod yX0_states, Cond.selects RX0 yX0_states yX0_states, Cond.code yX0_states cX0_states 1 (some .int), Cond.fieldLink RX0 19 "LikelyWalks$Code" "memory" "I", Cond.methodLink RX0 64 yX0_leadsOnByZeros, Cond.instanceMethod yX0_leadsOnByZeros, Cond.selects RX0 yX0_leadsOnByZeros yX0_leadsOnByZeros, Cond.code yX0_leadsOnByZeros cX0_leadsOnByZeros 5 (some .boolean), Cond.methodLink RX0 43 yX0_symbolsOf, Cond.instanceMethod yX0_symbolsOf, Cond.selects RX0 yX0_symbolsOf yX0_symbolsOf, Cond.code yX0_symbolsOf cX0_symbolsOf 6 (some .int), Cond.fieldLink RX0 23 "LikelyWalks$Code" "outputs" "I", Cond.methodLink RX0 30 yX0_windowOf, Cond.instanceMethod yX0_windowOf]
def wsX5_hasIdleRing_r2 : List Cond := [Cond.selects RX0 yX0_windowOf yX0_windowOf, Cond.code yX0_windowOf cX0_windowOf 3 (some .int), Cond.methodLink RX0 40 yX0_symbolOf, Cond.instanceMethod yX0_symbolOf, Cond.selects RX0 yX0_symbolOf yX0_symbolOf, Cond.code yX0_symbolOf cX0_symbolOf 3 (some .int), Cond.fieldLink RX0 9 "LikelyWalks$Code" "taps" "[I", Cond.methodLink RX0 34 yJ6_bitCount_0f7a4, Cond.static yJ6_bitCount_0f7a4, Cond.initialized RJ6, Cond.code yJ6_bitCount_0f7a4 cJ6_bitCount_0f7a4 1 (some .int), Cond.constant RJ6 265 (1431655765), Cond.constant RJ6 266 (858993459), Cond.constant RJ6 267 (252645135), Cond.methodLink RX0 52 yX0_stateAfter, Cond.instanceMethod yX0_stateAfter, Cond.selects RX0 yX0_stateAfter yX0_stateAfter, Cond.code yX0_stateAfter cX0_stateAfter 3 (some .int)]
def wsX5_hasIdleRing : List Cond := .code yX5_hasIdleRing cX5_hasIdleRing 1 (some .int) :: ((wsX5_hasIdleRing_r1 ++ wsX5_hasIdleRing_r2) ++ wsX50 ++ wsX30 ++ wsX00)
def wsX5_wrongBits : List Cond := .code yX5_wrongBits cX5_wrongBits 4 (some .int) :: ([.fieldLink RX5 12 "LikelyWalks" "now" "LLikelyWalks$State;", .fieldLink RX5 64 "LikelyWalks$State" "reader" "LLikelyWalks$Reader;", .fieldLink RX5 120 "LikelyWalks$Reader" "releasedCount" "I", .fieldLink RX5 55 "LikelyWalks$State" "sender" "LLikelyWalks$Sender;", .fieldLink RX5 84 "LikelyWalks$Sender" "bitCount" "I", .methodLink RX5 176 Lib.Math.min.name, .static Lib.Math.min.name, .initialized "java/lang/Math", .code Lib.Math.min.name Lib.Math.min.code 2 (some .int), .fieldLink RX5 158 "LikelyWalks$Reader" "releasedBits" "[I", .fieldLink RX5 155 "LikelyWalks$Sender" "bits" "[I"] ++ wsX50 ++ wsX30 ++ wsX10 ++ wsX20)
def wsX5_erasedSymbols : List Cond := .code yX5_erasedSymbols cX5_erasedSymbols 4 (some .int) :: ([.fieldLink RX5 12 "LikelyWalks" "now" "LLikelyWalks$State;", .fieldLink RX5 55 "LikelyWalks$State" "sender" "LLikelyWalks$Sender;", .fieldLink RX5 104 "LikelyWalks$Sender" "symbols" "[I", .methodLink RX5 184 yX5_lineLength, .instanceMethod yX5_lineLength, .selects RX5 yX5_lineLength yX5_lineLength, .initialized RX5, .code yX5_lineLength cX5_lineLength 1 (some .int), .fieldLink RX5 84 "LikelyWalks$Sender" "bitCount" "I", .fieldLink RX5 45 "LikelyWalks$State" "code" "LLikelyWalks$Code;", .fieldLink RX5 71 "LikelyWalks$Code" "outputs" "I"] ++ wsX50 ++ wsX30 ++ wsX20 ++ wsX00)
def wsX5_flippedSymbols : List Cond := .code yX5_flippedSymbols cX5_flippedSymbols 5 (some .int) :: ([.fieldLink RX5 12 "LikelyWalks" "now" "LLikelyWalks$State;", .fieldLink RX5 55 "LikelyWalks$State" "sender" "LLikelyWalks$Sender;", .fieldLink RX5 104 "LikelyWalks$Sender" "symbols" "[I", .fieldLink RX5 152 "LikelyWalks$Sender" "originals" "[I", .methodLink RX5 184 yX5_lineLength, .instanceMethod yX5_lineLength, .selects RX5 yX5_lineLength yX5_lineLength, .initialized RX5, .code yX5_lineLength cX5_lineLength 1 (some .int), .fieldLink RX5 84 "LikelyWalks$Sender" "bitCount" "I", .fieldLink RX5 45 "LikelyWalks$State" "code" "LLikelyWalks$Code;", .fieldLink RX5 71 "LikelyWalks$Code" "outputs" "I"] ++ wsX50 ++ wsX30 ++ wsX20 ++ wsX00)
def wsX5_count_r1 : List Cond := [Cond.fieldLink RX5 12 "LikelyWalks" "now" "LLikelyWalks$State;", Cond.fieldLink RX5 45 "LikelyWalks$State" "code" "LLikelyWalks$Code;", Cond.fieldLink RX5 97 "LikelyWalks$Code" "memory" "I", Cond.fieldLink RX5 71 "LikelyWalks$Code" "outputs" "I", Cond.fieldLink RX5 181 "LikelyWalks$Code" "taps" "[I", Cond.fieldLink RX5 77 "LikelyWalks$State" "depth" "I", Cond.fieldLink RX5 55 "LikelyWalks$State" "sender" "LLikelyWalks$Sender;", Cond.fieldLink RX5 84 "LikelyWalks$Sender" "bitCount" "I", Cond.fieldLink RX5 188 "LikelyWalks$Sender" "register" "I", Cond.fieldLink RX5 64 "LikelyWalks$State" "reader" "LLikelyWalks$Reader;", Cond.fieldLink RX5 74 "LikelyWalks$Reader" "steps" "I", Cond.fieldLink RX5 120 "LikelyWalks$Reader" "releasedCount" "I", Cond.fieldLink RX5 123 "LikelyWalks$Reader" "metrics" "[I", Cond.fieldLink RX5 110 "LikelyWalks$Reader" "isFinished" "Z", Cond.fieldLink RX5 27 "LikelyWalks" "pastCount" "I", Cond.fieldLink RX5 34 "LikelyWalks" "text" "LLikelyWalks$Text;", Cond.fieldLink RX5 87 "LikelyWalks$Text" "length" "I", Cond.methodLink RX5 184 yX5_lineLength, Cond.instanceMethod yX5_lineLength, Cond.selects RX5 yX5_lineLength yX5_lineLength, Cond.initialized RX5, Cond.code yX5_lineLength cX5_lineLength 1 (some .int), Cond.methodLink RX5 191 yX5_erasedSymbols, Cond.instanceMethod yX5_erasedSymbols]
def wsX5_count_r2 : List Cond := [Cond.selects RX5 yX5_erasedSymbols yX5_erasedSymbols, Cond.code yX5_erasedSymbols cX5_erasedSymbols 4 (some .int), Cond.fieldLink RX5 104 "LikelyWalks$Sender" "symbols" "[I", Cond.methodLink RX5 194 yX5_flippedSymbols, Cond.instanceMethod yX5_flippedSymbols, Cond.selects RX5 yX5_flippedSymbols yX5_flippedSymbols, Cond.code yX5_flippedSymbols cX5_flippedSymbols 5 (some .int), Cond.fieldLink RX5 152 "LikelyWalks$Sender" "originals" "[I", Cond.methodLink RX5 126 yX1_bestState, Cond.instanceMethod yX1_bestState, Cond.selects RX1 yX1_bestState yX1_bestState, Cond.initialized RX1, Cond.code yX1_bestState cX1_bestState 6 (some .int), Cond.fieldLink RX1 15 "LikelyWalks$Reader" "metrics" "[I", Cond.methodLink RX1 53 yX0_states, Cond.instanceMethod yX0_states, Cond.selects RX0 yX0_states yX0_states, Cond.initialized RX0, Cond.code yX0_states cX0_states 1 (some .int), Cond.fieldLink RX0 19 "LikelyWalks$Code" "memory" "I", Cond.methodLink RX5 197 yX1_reachedStates, Cond.instanceMethod yX1_reachedStates, Cond.selects RX1 yX1_reachedStates yX1_reachedStates, Cond.code yX1_reachedStates cX1_reachedStates 2 (some .int)]
def wsX5_count_r3 : List Cond := [Cond.methodLink RX1 86 yX1_reached, Cond.instanceMethod yX1_reached, Cond.selects RX1 yX1_reached yX1_reached, Cond.code yX1_reached cX1_reached 6 (some .long), Cond.methodLink RX1 90 yJ13_bitCount_95d88, Cond.static yJ13_bitCount_95d88, Cond.initialized RJ13, Cond.code yJ13_bitCount_95d88 cJ13_bitCount_95d88 2 (some .int), Cond.constantLong RJ13 314 (6148914691236517205), Cond.constantLong RJ13 316 (3689348814741910323), Cond.constantLong RJ13 318 (1085102592571150095)]
def wsX5_count : List Cond := .code yX5_count cX5_count 2 (some .int) :: ((wsX5_count_r1 ++ (wsX5_count_r2 ++ wsX5_count_r3)) ++ wsX50 ++ wsX30 ++ wsX00 ++ wsX20 ++ wsX10 ++ wsX40)
def wsX6_clearReader : List Cond := .code yX6_clearReader cX6_clearReader 2 none :: ([.fieldLink RX6 7 "LikelyWalksModel" "now" "[I"] ++ wsX60)
def wsX6_init : List Cond := .code yX6_init cX6_init 1 none :: ([.methodLink RX6 1 objectInit, .instanceMethod objectInit, .code objectInit ⟨#[0xb1]⟩ 1 none, .arrayClass .int, .fieldLink RX6 7 "LikelyWalksModel" "now" "[I", .fieldLink RX6 13 "LikelyWalksModel" "history" "[I", .fieldLink RX6 16 "LikelyWalksModel" "shot" "[I", .fieldLink RX6 19 "LikelyWalksModel" "text" "[I", .fieldLink RX6 22 "LikelyWalksModel" "heard" "[I", .fieldLink RX6 25 "LikelyWalksModel" "metrics" "[I", .fieldLink RX6 28 "LikelyWalksModel" "walks" "[I", .fieldLink RX6 31 "LikelyWalksModel" "far" "[I", .methodLink RX6 34 yX6_clearReader, .instanceMethod yX6_clearReader, .selects RX6 yX6_clearReader yX6_clearReader, .initialized RX6, .code yX6_clearReader cX6_clearReader 2 none] ++ wsX60)
def wsX6_in : List Cond := .code yX6_in cX6_in 3 (some .boolean) :: ([])
def wsX6_record : List Cond := .code yX6_record cX6_record 2 none :: ([.fieldLink RX6 37 "LikelyWalksModel" "states" "I", .fieldLink RX6 13 "LikelyWalksModel" "history" "[I", .fieldLink RX6 7 "LikelyWalksModel" "now" "[I"] ++ wsX60)
def wsX6_registers : List Cond := .code yX6_registers cX6_registers 1 (some .int) :: ([.fieldLink RX6 7 "LikelyWalksModel" "now" "[I"] ++ wsX60)
def wsX6_window : List Cond := .code yX6_window cX6_window 3 (some .int) :: ([.methodLink RX6 41 yX6_registers, .instanceMethod yX6_registers, .selects RX6 yX6_registers yX6_registers, .initialized RX6, .code yX6_registers cX6_registers 1 (some .int), .fieldLink RX6 7 "LikelyWalksModel" "now" "[I"] ++ wsX60)
def wsX6_symbol : List Cond := .code yX6_symbol cX6_symbol 5 (some .int) :: ([.fieldLink RX6 7 "LikelyWalksModel" "now" "[I"] ++ wsX60)
def wsX6_ones : List Cond := .code yX6_ones cX6_ones 4 (some .int) :: ([.fieldLink RX6 7 "LikelyWalksModel" "now" "[I", .methodLink RX6 45 yX6_symbol, .instanceMethod yX6_symbol, .selects RX6 yX6_symbol yX6_symbol, .initialized RX6, .code yX6_symbol cX6_symbol 5 (some .int)] ++ wsX60)
def wsX6_setCode : List Cond := .code yX6_setCode cX6_setCode 6 (some .int) :: ([.fieldLink RX6 7 "LikelyWalksModel" "now" "[I", .methodLink RX6 49 yX6_in, .static yX6_in, .initialized RX6, .code yX6_in cX6_in 3 (some .boolean), .methodLink RX6 53 yX6_record, .instanceMethod yX6_record, .selects RX6 yX6_record yX6_record, .code yX6_record cX6_record 2 none, .fieldLink RX6 37 "LikelyWalksModel" "states" "I", .fieldLink RX6 13 "LikelyWalksModel" "history" "[I", .methodLink RX6 34 yX6_clearReader, .instanceMethod yX6_clearReader, .selects RX6 yX6_clearReader yX6_clearReader, .code yX6_clearReader cX6_clearReader 2 none] ++ wsX60)
def wsX6_setDepth : List Cond := .code yX6_setDepth cX6_setDepth 3 (some .int) :: ([.fieldLink RX6 7 "LikelyWalksModel" "now" "[I", .methodLink RX6 49 yX6_in, .static yX6_in, .initialized RX6, .code yX6_in cX6_in 3 (some .boolean), .methodLink RX6 53 yX6_record, .instanceMethod yX6_record, .selects RX6 yX6_record yX6_record, .code yX6_record cX6_record 2 none, .fieldLink RX6 37 "LikelyWalksModel" "states" "I", .fieldLink RX6 13 "LikelyWalksModel" "history" "[I"] ++ wsX60)
def wsX6_type : List Cond := .code yX6_type cX6_type 2 (some .int) :: ([.fieldLink RX6 56 "LikelyWalksModel" "typed" "I", .fieldLink RX6 19 "LikelyWalksModel" "text" "[I"] ++ wsX60)
def wsX6_clearText : List Cond := .code yX6_clearText cX6_clearText 2 (some .int) :: ([.fieldLink RX6 56 "LikelyWalksModel" "typed" "I"] ++ wsX60)
def wsX6_fault : List Cond := .code yX6_fault cX6_fault 3 (some .int) :: ([.fieldLink RX6 56 "LikelyWalksModel" "typed" "I", .fieldLink RX6 19 "LikelyWalksModel" "text" "[I"] ++ wsX60)
def wsX6_symbols : List Cond := .code yX6_symbols cX6_symbols 1 (some .int) :: ([.fieldLink RX6 7 "LikelyWalksModel" "now" "[I"] ++ wsX60)
def wsX6_sendBit : List Cond := .code yX6_sendBit cX6_sendBit 5 none :: ([.fieldLink RX6 7 "LikelyWalksModel" "now" "[I", .methodLink RX6 59 yX6_window, .instanceMethod yX6_window, .selects RX6 yX6_window yX6_window, .initialized RX6, .code yX6_window cX6_window 3 (some .int), .methodLink RX6 41 yX6_registers, .instanceMethod yX6_registers, .selects RX6 yX6_registers yX6_registers, .code yX6_registers cX6_registers 1 (some .int), .methodLink RX6 62 yX6_symbols, .instanceMethod yX6_symbols, .selects RX6 yX6_symbols yX6_symbols, .code yX6_symbols cX6_symbols 1 (some .int), .methodLink RX6 45 yX6_symbol, .instanceMethod yX6_symbol, .selects RX6 yX6_symbol yX6_symbol, .code yX6_symbol cX6_symbol 5 (some .int)] ++ wsX60)
def wsX6_send_r1 : List Cond := [Cond.fieldLink RX6 7 "LikelyWalksModel" "now" "[I", Cond.fieldLink RX6 56 "LikelyWalksModel" "typed" "I", Cond.fieldLink RX6 19 "LikelyWalksModel" "text" "[I", Cond.methodLink RX6 65 yX6_fault, Cond.instanceMethod yX6_fault, Cond.selects RX6 yX6_fault yX6_fault, Cond.initialized RX6, Cond.code yX6_fault cX6_fault 3 (some .int), Cond.methodLink RX6 53 yX6_record, Cond.instanceMethod yX6_record, Cond.selects RX6 yX6_record yX6_record, Cond.code yX6_record cX6_record 2 none, Cond.fieldLink RX6 37 "LikelyWalksModel" "states" "I", Cond.fieldLink RX6 13 "LikelyWalksModel" "history" "[I", Cond.methodLink RX6 69 yX6_sendBit, Cond.instanceMethod yX6_sendBit, Cond.selects RX6 yX6_sendBit yX6_sendBit, Cond.code yX6_sendBit cX6_sendBit 5 none, Cond.methodLink RX6 59 yX6_window, Cond.instanceMethod yX6_window, Cond.selects RX6 yX6_window yX6_window, Cond.code yX6_window cX6_window 3 (some .int), Cond.methodLink RX6 41 yX6_registers, Cond.instanceMethod yX6_registers]
def wsX6_send_r2 : List Cond := [Cond.selects RX6 yX6_registers yX6_registers, Cond.code yX6_registers cX6_registers 1 (some .int), Cond.methodLink RX6 62 yX6_symbols, Cond.instanceMethod yX6_symbols, Cond.selects RX6 yX6_symbols yX6_symbols, Cond.code yX6_symbols cX6_symbols 1 (some .int), Cond.methodLink RX6 45 yX6_symbol, Cond.instanceMethod yX6_symbol, Cond.selects RX6 yX6_symbol yX6_symbol, Cond.code yX6_symbol cX6_symbol 5 (some .int)]
def wsX6_send : List Cond := .code yX6_send cX6_send 3 (some .int) :: ((wsX6_send_r1 ++ wsX6_send_r2) ++ wsX60)
def wsX6_sendTail_r1 : List Cond := [Cond.fieldLink RX6 7 "LikelyWalksModel" "now" "[I", Cond.methodLink RX6 53 yX6_record, Cond.instanceMethod yX6_record, Cond.selects RX6 yX6_record yX6_record, Cond.initialized RX6, Cond.code yX6_record cX6_record 2 none, Cond.fieldLink RX6 37 "LikelyWalksModel" "states" "I", Cond.fieldLink RX6 13 "LikelyWalksModel" "history" "[I", Cond.methodLink RX6 69 yX6_sendBit, Cond.instanceMethod yX6_sendBit, Cond.selects RX6 yX6_sendBit yX6_sendBit, Cond.code yX6_sendBit cX6_sendBit 5 none, Cond.methodLink RX6 59 yX6_window, Cond.instanceMethod yX6_window, Cond.selects RX6 yX6_window yX6_window, Cond.code yX6_window cX6_window 3 (some .int), Cond.methodLink RX6 41 yX6_registers, Cond.instanceMethod yX6_registers, Cond.selects RX6 yX6_registers yX6_registers, Cond.code yX6_registers cX6_registers 1 (some .int), Cond.methodLink RX6 62 yX6_symbols, Cond.instanceMethod yX6_symbols, Cond.selects RX6 yX6_symbols yX6_symbols, Cond.code yX6_symbols cX6_symbols 1 (some .int)]
def wsX6_sendTail_r2 : List Cond := [Cond.methodLink RX6 45 yX6_symbol, Cond.instanceMethod yX6_symbol, Cond.selects RX6 yX6_symbol yX6_symbol, Cond.code yX6_symbol cX6_symbol 5 (some .int)]
def wsX6_sendTail : List Cond := .code yX6_sendTail cX6_sendTail 2 (some .int) :: ((wsX6_sendTail_r1 ++ wsX6_sendTail_r2) ++ wsX60)
def wsX6_flip : List Cond := .code yX6_flip cX6_flip 2 (some .int) :: ([.fieldLink RX6 7 "LikelyWalksModel" "now" "[I", .methodLink RX6 62 yX6_symbols, .instanceMethod yX6_symbols, .selects RX6 yX6_symbols yX6_symbols, .initialized RX6, .code yX6_symbols cX6_symbols 1 (some .int), .methodLink RX6 49 yX6_in, .static yX6_in, .code yX6_in cX6_in 3 (some .boolean), .methodLink RX6 53 yX6_record, .instanceMethod yX6_record, .selects RX6 yX6_record yX6_record, .code yX6_record cX6_record 2 none, .fieldLink RX6 37 "LikelyWalksModel" "states" "I", .fieldLink RX6 13 "LikelyWalksModel" "history" "[I"] ++ wsX60)
def wsX6_erase : List Cond := .code yX6_erase cX6_erase 3 (some .int) :: ([.fieldLink RX6 7 "LikelyWalksModel" "now" "[I", .methodLink RX6 62 yX6_symbols, .instanceMethod yX6_symbols, .selects RX6 yX6_symbols yX6_symbols, .initialized RX6, .code yX6_symbols cX6_symbols 1 (some .int), .methodLink RX6 49 yX6_in, .static yX6_in, .code yX6_in cX6_in 3 (some .boolean), .methodLink RX6 53 yX6_record, .instanceMethod yX6_record, .selects RX6 yX6_record yX6_record, .code yX6_record cX6_record 2 none, .fieldLink RX6 37 "LikelyWalksModel" "states" "I", .fieldLink RX6 13 "LikelyWalksModel" "history" "[I"] ++ wsX60)
def wsX6_walkBit : List Cond := .code yX6_walkBit cX6_walkBit 3 (some .int) :: ([.fieldLink RX6 7 "LikelyWalksModel" "now" "[I"] ++ wsX60)
def wsX6_bestState : List Cond := .code yX6_bestState cX6_bestState 4 (some .int) :: ([.fieldLink RX6 7 "LikelyWalksModel" "now" "[I", .methodLink RX6 41 yX6_registers, .instanceMethod yX6_registers, .selects RX6 yX6_registers yX6_registers, .initialized RX6, .code yX6_registers cX6_registers 1 (some .int)] ++ wsX60)
def wsX6_release : List Cond := .code yX6_release cX6_release 2 none :: ([.fieldLink RX6 7 "LikelyWalksModel" "now" "[I", .methodLink RX6 73 yX6_walkBit, .instanceMethod yX6_walkBit, .selects RX6 yX6_walkBit yX6_walkBit, .initialized RX6, .code yX6_walkBit cX6_walkBit 3 (some .int)] ++ wsX60)
def wsX6_price : List Cond := .code yX6_price cX6_price 4 (some .int) :: ([.fieldLink RX6 7 "LikelyWalksModel" "now" "[I", .fieldLink RX6 22 "LikelyWalksModel" "heard" "[I", .methodLink RX6 45 yX6_symbol, .instanceMethod yX6_symbol, .selects RX6 yX6_symbol yX6_symbol, .initialized RX6, .code yX6_symbol cX6_symbol 5 (some .int)] ++ wsX60)
def wsX6_lay : List Cond := .code yX6_lay cX6_lay 9 none :: ([.fieldLink RX6 7 "LikelyWalksModel" "now" "[I", .fieldLink RX6 25 "LikelyWalksModel" "metrics" "[I", .fieldLink RX6 28 "LikelyWalksModel" "walks" "[I", .methodLink RX6 41 yX6_registers, .instanceMethod yX6_registers, .selects RX6 yX6_registers yX6_registers, .initialized RX6, .code yX6_registers cX6_registers 1 (some .int), .methodLink RX6 59 yX6_window, .instanceMethod yX6_window, .selects RX6 yX6_window yX6_window, .code yX6_window cX6_window 3 (some .int), .methodLink RX6 76 yX6_price, .instanceMethod yX6_price, .selects RX6 yX6_price yX6_price, .code yX6_price cX6_price 4 (some .int), .fieldLink RX6 22 "LikelyWalksModel" "heard" "[I", .methodLink RX6 45 yX6_symbol, .instanceMethod yX6_symbol, .selects RX6 yX6_symbol yX6_symbol, .code yX6_symbol cX6_symbol 5 (some .int)] ++ wsX60)
def wsX6_go_r1 : List Cond := [Cond.fieldLink RX6 7 "LikelyWalksModel" "now" "[I", Cond.fieldLink RX6 25 "LikelyWalksModel" "metrics" "[I", Cond.fieldLink RX6 28 "LikelyWalksModel" "walks" "[I", Cond.methodLink RX6 41 yX6_registers, Cond.instanceMethod yX6_registers, Cond.selects RX6 yX6_registers yX6_registers, Cond.initialized RX6, Cond.code yX6_registers cX6_registers 1 (some .int), Cond.methodLink RX6 80 yX6_lay, Cond.instanceMethod yX6_lay, Cond.selects RX6 yX6_lay yX6_lay, Cond.code yX6_lay cX6_lay 9 none, Cond.methodLink RX6 59 yX6_window, Cond.instanceMethod yX6_window, Cond.selects RX6 yX6_window yX6_window, Cond.code yX6_window cX6_window 3 (some .int), Cond.methodLink RX6 76 yX6_price, Cond.instanceMethod yX6_price, Cond.selects RX6 yX6_price yX6_price, Cond.code yX6_price cX6_price 4 (some .int), Cond.fieldLink RX6 22 "LikelyWalksModel" "heard" "[I", Cond.methodLink RX6 45 yX6_symbol, Cond.instanceMethod yX6_symbol, Cond.selects RX6 yX6_symbol yX6_symbol]
def wsX6_go_r2 : List Cond := [Cond.code yX6_symbol cX6_symbol 5 (some .int), Cond.methodLink RX6 83 yX6_bestState, Cond.instanceMethod yX6_bestState, Cond.selects RX6 yX6_bestState yX6_bestState, Cond.code yX6_bestState cX6_bestState 4 (some .int), Cond.methodLink RX6 86 yX6_release, Cond.instanceMethod yX6_release, Cond.selects RX6 yX6_release yX6_release, Cond.code yX6_release cX6_release 2 none, Cond.methodLink RX6 73 yX6_walkBit, Cond.instanceMethod yX6_walkBit, Cond.selects RX6 yX6_walkBit yX6_walkBit, Cond.code yX6_walkBit cX6_walkBit 3 (some .int)]
def wsX6_go : List Cond := .code yX6_go cX6_go 2 none :: ((wsX6_go_r1 ++ wsX6_go_r2) ++ wsX60)
def wsX6_take_r1 : List Cond := [Cond.fieldLink RX6 7 "LikelyWalksModel" "now" "[I", Cond.fieldLink RX6 22 "LikelyWalksModel" "heard" "[I", Cond.methodLink RX6 49 yX6_in, Cond.static yX6_in, Cond.initialized RX6, Cond.code yX6_in cX6_in 3 (some .boolean), Cond.methodLink RX6 62 yX6_symbols, Cond.instanceMethod yX6_symbols, Cond.selects RX6 yX6_symbols yX6_symbols, Cond.code yX6_symbols cX6_symbols 1 (some .int), Cond.methodLink RX6 53 yX6_record, Cond.instanceMethod yX6_record, Cond.selects RX6 yX6_record yX6_record, Cond.code yX6_record cX6_record 2 none, Cond.fieldLink RX6 37 "LikelyWalksModel" "states" "I", Cond.fieldLink RX6 13 "LikelyWalksModel" "history" "[I", Cond.methodLink RX6 89 yX6_go, Cond.instanceMethod yX6_go, Cond.selects RX6 yX6_go yX6_go, Cond.code yX6_go cX6_go 2 none, Cond.fieldLink RX6 25 "LikelyWalksModel" "metrics" "[I", Cond.fieldLink RX6 28 "LikelyWalksModel" "walks" "[I", Cond.methodLink RX6 41 yX6_registers, Cond.instanceMethod yX6_registers]
def wsX6_take_r2 : List Cond := [Cond.selects RX6 yX6_registers yX6_registers, Cond.code yX6_registers cX6_registers 1 (some .int), Cond.methodLink RX6 80 yX6_lay, Cond.instanceMethod yX6_lay, Cond.selects RX6 yX6_lay yX6_lay, Cond.code yX6_lay cX6_lay 9 none, Cond.methodLink RX6 59 yX6_window, Cond.instanceMethod yX6_window, Cond.selects RX6 yX6_window yX6_window, Cond.code yX6_window cX6_window 3 (some .int), Cond.methodLink RX6 76 yX6_price, Cond.instanceMethod yX6_price, Cond.selects RX6 yX6_price yX6_price, Cond.code yX6_price cX6_price 4 (some .int), Cond.methodLink RX6 45 yX6_symbol, Cond.instanceMethod yX6_symbol, Cond.selects RX6 yX6_symbol yX6_symbol, Cond.code yX6_symbol cX6_symbol 5 (some .int), Cond.methodLink RX6 83 yX6_bestState, Cond.instanceMethod yX6_bestState, Cond.selects RX6 yX6_bestState yX6_bestState, Cond.code yX6_bestState cX6_bestState 4 (some .int), Cond.methodLink RX6 86 yX6_release, Cond.instanceMethod yX6_release]
def wsX6_take_r3 : List Cond := [Cond.selects RX6 yX6_release yX6_release, Cond.code yX6_release cX6_release 2 none, Cond.methodLink RX6 73 yX6_walkBit, Cond.instanceMethod yX6_walkBit, Cond.selects RX6 yX6_walkBit yX6_walkBit, Cond.code yX6_walkBit cX6_walkBit 3 (some .int)]
def wsX6_take : List Cond := .code yX6_take cX6_take 4 (some .int) :: ((wsX6_take_r1 ++ (wsX6_take_r2 ++ wsX6_take_r3)) ++ wsX60)
def wsX6_hear_r1 : List Cond := [Cond.fieldLink RX6 56 "LikelyWalksModel" "typed" "I", Cond.fieldLink RX6 7 "LikelyWalksModel" "now" "[I", Cond.fieldLink RX6 22 "LikelyWalksModel" "heard" "[I", Cond.fieldLink RX6 19 "LikelyWalksModel" "text" "[I", Cond.methodLink RX6 65 yX6_fault, Cond.instanceMethod yX6_fault, Cond.selects RX6 yX6_fault yX6_fault, Cond.initialized RX6, Cond.code yX6_fault cX6_fault 3 (some .int), Cond.methodLink RX6 53 yX6_record, Cond.instanceMethod yX6_record, Cond.selects RX6 yX6_record yX6_record, Cond.code yX6_record cX6_record 2 none, Cond.fieldLink RX6 37 "LikelyWalksModel" "states" "I", Cond.fieldLink RX6 13 "LikelyWalksModel" "history" "[I", Cond.methodLink RX6 89 yX6_go, Cond.instanceMethod yX6_go, Cond.selects RX6 yX6_go yX6_go, Cond.code yX6_go cX6_go 2 none, Cond.fieldLink RX6 25 "LikelyWalksModel" "metrics" "[I", Cond.fieldLink RX6 28 "LikelyWalksModel" "walks" "[I", Cond.methodLink RX6 41 yX6_registers, Cond.instanceMethod yX6_registers, Cond.selects RX6 yX6_registers yX6_registers]
def wsX6_hear_r2 : List Cond := [Cond.code yX6_registers cX6_registers 1 (some .int), Cond.methodLink RX6 80 yX6_lay, Cond.instanceMethod yX6_lay, Cond.selects RX6 yX6_lay yX6_lay, Cond.code yX6_lay cX6_lay 9 none, Cond.methodLink RX6 59 yX6_window, Cond.instanceMethod yX6_window, Cond.selects RX6 yX6_window yX6_window, Cond.code yX6_window cX6_window 3 (some .int), Cond.methodLink RX6 76 yX6_price, Cond.instanceMethod yX6_price, Cond.selects RX6 yX6_price yX6_price, Cond.code yX6_price cX6_price 4 (some .int), Cond.methodLink RX6 45 yX6_symbol, Cond.instanceMethod yX6_symbol, Cond.selects RX6 yX6_symbol yX6_symbol, Cond.code yX6_symbol cX6_symbol 5 (some .int), Cond.methodLink RX6 83 yX6_bestState, Cond.instanceMethod yX6_bestState, Cond.selects RX6 yX6_bestState yX6_bestState, Cond.code yX6_bestState cX6_bestState 4 (some .int), Cond.methodLink RX6 86 yX6_release, Cond.instanceMethod yX6_release, Cond.selects RX6 yX6_release yX6_release]
def wsX6_hear_r3 : List Cond := [Cond.code yX6_release cX6_release 2 none, Cond.methodLink RX6 73 yX6_walkBit, Cond.instanceMethod yX6_walkBit, Cond.selects RX6 yX6_walkBit yX6_walkBit, Cond.code yX6_walkBit cX6_walkBit 3 (some .int)]
def wsX6_hear : List Cond := .code yX6_hear cX6_hear 4 (some .int) :: ((wsX6_hear_r1 ++ (wsX6_hear_r2 ++ wsX6_hear_r3)) ++ wsX60)
def wsX6_finish : List Cond := .code yX6_finish cX6_finish 3 (some .int) :: ([.fieldLink RX6 7 "LikelyWalksModel" "now" "[I", .methodLink RX6 53 yX6_record, .instanceMethod yX6_record, .selects RX6 yX6_record yX6_record, .initialized RX6, .code yX6_record cX6_record 2 none, .fieldLink RX6 37 "LikelyWalksModel" "states" "I", .fieldLink RX6 13 "LikelyWalksModel" "history" "[I", .methodLink RX6 83 yX6_bestState, .instanceMethod yX6_bestState, .selects RX6 yX6_bestState yX6_bestState, .code yX6_bestState cX6_bestState 4 (some .int), .methodLink RX6 41 yX6_registers, .instanceMethod yX6_registers, .selects RX6 yX6_registers yX6_registers, .code yX6_registers cX6_registers 1 (some .int), .methodLink RX6 86 yX6_release, .instanceMethod yX6_release, .selects RX6 yX6_release yX6_release, .code yX6_release cX6_release 2 none, .methodLink RX6 73 yX6_walkBit, .instanceMethod yX6_walkBit, .selects RX6 yX6_walkBit yX6_walkBit, .code yX6_walkBit cX6_walkBit 3 (some .int)] ++ wsX60)
def wsX6_reset : List Cond := .code yX6_reset cX6_reset 2 (some .int) :: ([.fieldLink RX6 7 "LikelyWalksModel" "now" "[I", .methodLink RX6 53 yX6_record, .instanceMethod yX6_record, .selects RX6 yX6_record yX6_record, .initialized RX6, .code yX6_record cX6_record 2 none, .fieldLink RX6 37 "LikelyWalksModel" "states" "I", .fieldLink RX6 13 "LikelyWalksModel" "history" "[I", .methodLink RX6 34 yX6_clearReader, .instanceMethod yX6_clearReader, .selects RX6 yX6_clearReader yX6_clearReader, .code yX6_clearReader cX6_clearReader 2 none] ++ wsX60)
def wsX6_undo : List Cond := .code yX6_undo cX6_undo 2 (some .int) :: ([.fieldLink RX6 37 "LikelyWalksModel" "states" "I", .fieldLink RX6 7 "LikelyWalksModel" "now" "[I", .fieldLink RX6 13 "LikelyWalksModel" "history" "[I"] ++ wsX60)
def wsX6_keep : List Cond := .code yX6_keep cX6_keep 2 (some .int) :: ([.fieldLink RX6 16 "LikelyWalksModel" "shot" "[I", .fieldLink RX6 7 "LikelyWalksModel" "now" "[I", .fieldLink RX6 92 "LikelyWalksModel" "isShot" "Z"] ++ wsX60)
def wsX6_restore : List Cond := .code yX6_restore cX6_restore 2 (some .int) :: ([.fieldLink RX6 92 "LikelyWalksModel" "isShot" "Z", .fieldLink RX6 7 "LikelyWalksModel" "now" "[I", .fieldLink RX6 16 "LikelyWalksModel" "shot" "[I", .methodLink RX6 53 yX6_record, .instanceMethod yX6_record, .selects RX6 yX6_record yX6_record, .initialized RX6, .code yX6_record cX6_record 2 none, .fieldLink RX6 37 "LikelyWalksModel" "states" "I", .fieldLink RX6 13 "LikelyWalksModel" "history" "[I"] ++ wsX60)
def wsX6_isState : List Cond := .code yX6_isState cX6_isState 2 (some .boolean) :: ([.methodLink RX6 41 yX6_registers, .instanceMethod yX6_registers, .selects RX6 yX6_registers yX6_registers, .initialized RX6, .code yX6_registers cX6_registers 1 (some .int), .fieldLink RX6 7 "LikelyWalksModel" "now" "[I", .methodLink RX6 49 yX6_in, .static yX6_in, .code yX6_in cX6_in 3 (some .boolean)] ++ wsX60)
def wsX6_step : List Cond := .code yX6_step cX6_step 7 (some .int) :: ([.fieldLink RX6 7 "LikelyWalksModel" "now" "[I", .methodLink RX6 96 yX6_isState, .instanceMethod yX6_isState, .selects RX6 yX6_isState yX6_isState, .initialized RX6, .code yX6_isState cX6_isState 2 (some .boolean), .methodLink RX6 41 yX6_registers, .instanceMethod yX6_registers, .selects RX6 yX6_registers yX6_registers, .code yX6_registers cX6_registers 1 (some .int), .methodLink RX6 49 yX6_in, .static yX6_in, .code yX6_in cX6_in 3 (some .boolean), .methodLink RX6 59 yX6_window, .instanceMethod yX6_window, .selects RX6 yX6_window yX6_window, .code yX6_window cX6_window 3 (some .int), .methodLink RX6 45 yX6_symbol, .instanceMethod yX6_symbol, .selects RX6 yX6_symbol yX6_symbol, .code yX6_symbol cX6_symbol 5 (some .int)] ++ wsX60)
def wsX6_line : List Cond := .code yX6_line cX6_line 3 (some .int) :: ([.fieldLink RX6 7 "LikelyWalksModel" "now" "[I", .methodLink RX6 62 yX6_symbols, .instanceMethod yX6_symbols, .selects RX6 yX6_symbols yX6_symbols, .initialized RX6, .code yX6_symbols cX6_symbols 1 (some .int), .methodLink RX6 49 yX6_in, .static yX6_in, .code yX6_in cX6_in 3 (some .boolean)] ++ wsX60)
def wsX6_sent : List Cond := .code yX6_sent cX6_sent 2 (some .int) :: ([.fieldLink RX6 7 "LikelyWalksModel" "now" "[I", .methodLink RX6 49 yX6_in, .static yX6_in, .initialized RX6, .code yX6_in cX6_in 3 (some .boolean)] ++ wsX60)
def wsX6_released : List Cond := .code yX6_released cX6_released 2 (some .int) :: ([.fieldLink RX6 7 "LikelyWalksModel" "now" "[I", .methodLink RX6 49 yX6_in, .static yX6_in, .initialized RX6, .code yX6_in cX6_in 3 (some .boolean)] ++ wsX60)
def wsX6_metric : List Cond := .code yX6_metric cX6_metric 2 (some .int) :: ([.fieldLink RX6 7 "LikelyWalksModel" "now" "[I", .methodLink RX6 96 yX6_isState, .instanceMethod yX6_isState, .selects RX6 yX6_isState yX6_isState, .initialized RX6, .code yX6_isState cX6_isState 2 (some .boolean), .methodLink RX6 41 yX6_registers, .instanceMethod yX6_registers, .selects RX6 yX6_registers yX6_registers, .code yX6_registers cX6_registers 1 (some .int), .methodLink RX6 49 yX6_in, .static yX6_in, .code yX6_in cX6_in 3 (some .boolean)] ++ wsX60)
def wsX6_survivor : List Cond := .code yX6_survivor cX6_survivor 3 (some .int) :: ([.fieldLink RX6 7 "LikelyWalksModel" "now" "[I", .methodLink RX6 96 yX6_isState, .instanceMethod yX6_isState, .selects RX6 yX6_isState yX6_isState, .initialized RX6, .code yX6_isState cX6_isState 2 (some .boolean), .methodLink RX6 41 yX6_registers, .instanceMethod yX6_registers, .selects RX6 yX6_registers yX6_registers, .code yX6_registers cX6_registers 1 (some .int), .methodLink RX6 49 yX6_in, .static yX6_in, .code yX6_in cX6_in 3 (some .boolean), .methodLink RX6 73 yX6_walkBit, .instanceMethod yX6_walkBit, .selects RX6 yX6_walkBit yX6_walkBit, .code yX6_walkBit cX6_walkBit 3 (some .int)] ++ wsX60)
def wsX6_areAlikeAt : List Cond := .code yX6_areAlikeAt cX6_areAlikeAt 5 (some .boolean) :: ([.fieldLink RX6 7 "LikelyWalksModel" "now" "[I", .methodLink RX6 83 yX6_bestState, .instanceMethod yX6_bestState, .selects RX6 yX6_bestState yX6_bestState, .initialized RX6, .code yX6_bestState cX6_bestState 4 (some .int), .methodLink RX6 41 yX6_registers, .instanceMethod yX6_registers, .selects RX6 yX6_registers yX6_registers, .code yX6_registers cX6_registers 1 (some .int), .methodLink RX6 73 yX6_walkBit, .instanceMethod yX6_walkBit, .selects RX6 yX6_walkBit yX6_walkBit, .code yX6_walkBit cX6_walkBit 3 (some .int)] ++ wsX60)
def wsX6_agreed : List Cond := .code yX6_agreed cX6_agreed 2 (some .int) :: ([.fieldLink RX6 7 "LikelyWalksModel" "now" "[I", .methodLink RX6 100 yX6_areAlikeAt, .instanceMethod yX6_areAlikeAt, .selects RX6 yX6_areAlikeAt yX6_areAlikeAt, .initialized RX6, .code yX6_areAlikeAt cX6_areAlikeAt 5 (some .boolean), .methodLink RX6 83 yX6_bestState, .instanceMethod yX6_bestState, .selects RX6 yX6_bestState yX6_bestState, .code yX6_bestState cX6_bestState 4 (some .int), .methodLink RX6 41 yX6_registers, .instanceMethod yX6_registers, .selects RX6 yX6_registers yX6_registers, .code yX6_registers cX6_registers 1 (some .int), .methodLink RX6 73 yX6_walkBit, .instanceMethod yX6_walkBit, .selects RX6 yX6_walkBit yX6_walkBit, .code yX6_walkBit cX6_walkBit 3 (some .int)] ++ wsX60)
def wsX6_layFar : List Cond := .code yX6_layFar cX6_layFar 6 none :: ([.fieldLink RX6 31 "LikelyWalksModel" "far" "[I", .methodLink RX6 41 yX6_registers, .instanceMethod yX6_registers, .selects RX6 yX6_registers yX6_registers, .initialized RX6, .code yX6_registers cX6_registers 1 (some .int), .fieldLink RX6 7 "LikelyWalksModel" "now" "[I", .methodLink RX6 103 yX6_ones, .instanceMethod yX6_ones, .selects RX6 yX6_ones yX6_ones, .code yX6_ones cX6_ones 4 (some .int), .methodLink RX6 45 yX6_symbol, .instanceMethod yX6_symbol, .selects RX6 yX6_symbol yX6_symbol, .code yX6_symbol cX6_symbol 5 (some .int), .methodLink RX6 59 yX6_window, .instanceMethod yX6_window, .selects RX6 yX6_window yX6_window, .code yX6_window cX6_window 3 (some .int)] ++ wsX60)
def wsX6_freeDistance : List Cond := .code yX6_freeDistance cX6_freeDistance 2 (some .int) :: ([.fieldLink RX6 31 "LikelyWalksModel" "far" "[I", .methodLink RX6 106 yX6_layFar, .instanceMethod yX6_layFar, .selects RX6 yX6_layFar yX6_layFar, .initialized RX6, .code yX6_layFar cX6_layFar 6 none, .methodLink RX6 41 yX6_registers, .instanceMethod yX6_registers, .selects RX6 yX6_registers yX6_registers, .code yX6_registers cX6_registers 1 (some .int), .fieldLink RX6 7 "LikelyWalksModel" "now" "[I", .methodLink RX6 103 yX6_ones, .instanceMethod yX6_ones, .selects RX6 yX6_ones yX6_ones, .code yX6_ones cX6_ones 4 (some .int), .methodLink RX6 45 yX6_symbol, .instanceMethod yX6_symbol, .selects RX6 yX6_symbol yX6_symbol, .code yX6_symbol cX6_symbol 5 (some .int), .methodLink RX6 59 yX6_window, .instanceMethod yX6_window, .selects RX6 yX6_window yX6_window, .code yX6_window cX6_window 3 (some .int)] ++ wsX60)
def wsX6_goesOn : List Cond := .code yX6_goesOn cX6_goesOn 6 (some .boolean) :: ([.methodLink RX6 59 yX6_window, .instanceMethod yX6_window, .selects RX6 yX6_window yX6_window, .initialized RX6, .code yX6_window cX6_window 3 (some .int), .methodLink RX6 41 yX6_registers, .instanceMethod yX6_registers, .selects RX6 yX6_registers yX6_registers, .code yX6_registers cX6_registers 1 (some .int), .fieldLink RX6 7 "LikelyWalksModel" "now" "[I", .methodLink RX6 103 yX6_ones, .instanceMethod yX6_ones, .selects RX6 yX6_ones yX6_ones, .code yX6_ones cX6_ones 4 (some .int), .methodLink RX6 45 yX6_symbol, .instanceMethod yX6_symbol, .selects RX6 yX6_symbol yX6_symbol, .code yX6_symbol cX6_symbol 5 (some .int)] ++ wsX60)
def wsX6_hasIdleRing : List Cond := .code yX6_hasIdleRing cX6_hasIdleRing 5 (some .int) :: ([.methodLink RX6 41 yX6_registers, .instanceMethod yX6_registers, .selects RX6 yX6_registers yX6_registers, .initialized RX6, .code yX6_registers cX6_registers 1 (some .int), .fieldLink RX6 7 "LikelyWalksModel" "now" "[I", .methodLink RX6 109 yX6_goesOn, .instanceMethod yX6_goesOn, .selects RX6 yX6_goesOn yX6_goesOn, .code yX6_goesOn cX6_goesOn 6 (some .boolean), .methodLink RX6 59 yX6_window, .instanceMethod yX6_window, .selects RX6 yX6_window yX6_window, .code yX6_window cX6_window 3 (some .int), .methodLink RX6 103 yX6_ones, .instanceMethod yX6_ones, .selects RX6 yX6_ones yX6_ones, .code yX6_ones cX6_ones 4 (some .int), .methodLink RX6 45 yX6_symbol, .instanceMethod yX6_symbol, .selects RX6 yX6_symbol yX6_symbol, .code yX6_symbol cX6_symbol 5 (some .int)] ++ wsX60)
def wsX6_wrongBits : List Cond := .code yX6_wrongBits cX6_wrongBits 3 (some .int) :: ([.fieldLink RX6 7 "LikelyWalksModel" "now" "[I"] ++ wsX60)
def wsX6_changedSymbols : List Cond := .code yX6_changedSymbols cX6_changedSymbols 5 (some .int) :: ([.fieldLink RX6 7 "LikelyWalksModel" "now" "[I", .methodLink RX6 62 yX6_symbols, .instanceMethod yX6_symbols, .selects RX6 yX6_symbols yX6_symbols, .initialized RX6, .code yX6_symbols cX6_symbols 1 (some .int)] ++ wsX60)
def wsX6_reached : List Cond := .code yX6_reached cX6_reached 3 (some .int) :: ([.fieldLink RX6 7 "LikelyWalksModel" "now" "[I", .methodLink RX6 41 yX6_registers, .instanceMethod yX6_registers, .selects RX6 yX6_registers yX6_registers, .initialized RX6, .code yX6_registers cX6_registers 1 (some .int)] ++ wsX60)
def wsX6_count : List Cond := .code yX6_count cX6_count 2 (some .int) :: ([.fieldLink RX6 7 "LikelyWalksModel" "now" "[I", .fieldLink RX6 37 "LikelyWalksModel" "states" "I", .fieldLink RX6 56 "LikelyWalksModel" "typed" "I", .methodLink RX6 62 yX6_symbols, .instanceMethod yX6_symbols, .selects RX6 yX6_symbols yX6_symbols, .initialized RX6, .code yX6_symbols cX6_symbols 1 (some .int), .methodLink RX6 113 yX6_changedSymbols, .instanceMethod yX6_changedSymbols, .selects RX6 yX6_changedSymbols yX6_changedSymbols, .code yX6_changedSymbols cX6_changedSymbols 5 (some .int), .methodLink RX6 83 yX6_bestState, .instanceMethod yX6_bestState, .selects RX6 yX6_bestState yX6_bestState, .code yX6_bestState cX6_bestState 4 (some .int), .methodLink RX6 41 yX6_registers, .instanceMethod yX6_registers, .selects RX6 yX6_registers yX6_registers, .code yX6_registers cX6_registers 1 (some .int), .methodLink RX6 116 yX6_reached, .instanceMethod yX6_reached, .selects RX6 yX6_reached yX6_reached, .code yX6_reached cX6_reached 3 (some .int)] ++ wsX60)
def wsJ9_min_7cf53 : List Cond := .code yJ9_min_7cf53 cJ9_min_7cf53 2 (some .int) :: ([])
def wsL_law_r1 : List Cond := [Cond.classLink RL 7 RX5, Cond.instantiable RX5 7, Cond.initialized RX5, Cond.classLink RL 10 RX6, Cond.instantiable RX6 11, Cond.initialized RX6, Cond.methodLink RL 9 yX5_init, Cond.instanceMethod yX5_init, Cond.code yX5_init cX5_init 2 none, Cond.methodLink RX5 3 objectInit, Cond.instanceMethod objectInit, Cond.code objectInit ⟨#[0xb1]⟩ 1 none, Cond.classLink RX5 9 RX3, Cond.instantiable RX3 4, Cond.initialized RX3, Cond.fieldLink RX5 12 "LikelyWalks" "now" "LLikelyWalks$State;", Cond.fieldLink RX5 16 "LikelyWalks" "kept" "LLikelyWalks$State;", Cond.fieldLink RX5 19 "LikelyWalks" "isKept" "Z", Cond.fieldLink RX5 23 "LikelyWalks" "past" "[LLikelyWalks$State;", Cond.fieldLink RX5 27 "LikelyWalks" "pastCount" "I", Cond.classLink RX5 31 RX4, Cond.instantiable RX4 2, Cond.initialized RX4, Cond.fieldLink RX5 34 "LikelyWalks" "text" "LLikelyWalks$Text;"]
def wsL_law_r2 : List Cond := [Cond.arrayClass .int, Cond.fieldLink RX5 38 "LikelyWalks" "distances" "[I", Cond.methodLink RX5 11 yX3_init, Cond.instanceMethod yX3_init, Cond.code yX3_init cX3_init 1 none, Cond.methodLink RX3 1 objectInit, Cond.fieldLink RX3 7 "LikelyWalks$State" "depth" "I", Cond.classLink RX3 13 RX0, Cond.instantiable RX0 3, Cond.initialized RX0, Cond.fieldLink RX3 16 "LikelyWalks$State" "code" "LLikelyWalks$Code;", Cond.classLink RX3 20 RX2, Cond.instantiable RX2 5, Cond.initialized RX2, Cond.fieldLink RX3 23 "LikelyWalks$State" "sender" "LLikelyWalks$Sender;", Cond.classLink RX3 27 RX1, Cond.instantiable RX1 8, Cond.initialized RX1, Cond.fieldLink RX3 30 "LikelyWalks$State" "reader" "LLikelyWalks$Reader;", Cond.methodLink RX3 15 yX0_init, Cond.instanceMethod yX0_init, Cond.code yX0_init cX0_init 1 none, Cond.methodLink RX0 3 objectInit, Cond.fieldLink RX0 9 "LikelyWalks$Code" "taps" "[I"]
def wsL_law_r3 : List Cond := [Cond.methodLink RX0 15 yX0_choose, Cond.instanceMethod yX0_choose, Cond.selects RX0 yX0_choose yX0_choose, Cond.code yX0_choose cX0_choose 5 none, Cond.fieldLink RX0 19 "LikelyWalks$Code" "memory" "I", Cond.fieldLink RX0 23 "LikelyWalks$Code" "outputs" "I", Cond.methodLink RX3 22 yX2_init, Cond.instanceMethod yX2_init, Cond.code yX2_init cX2_init 1 none, Cond.methodLink RX2 3 objectInit, Cond.fieldLink RX2 9 "LikelyWalks$Sender" "bits" "[I", Cond.fieldLink RX2 15 "LikelyWalks$Sender" "symbols" "[I", Cond.fieldLink RX2 18 "LikelyWalks$Sender" "originals" "[I", Cond.methodLink RX2 21 yX2_clear, Cond.instanceMethod yX2_clear, Cond.selects RX2 yX2_clear yX2_clear, Cond.code yX2_clear cX2_clear 1 none, Cond.fieldLink RX2 24 "LikelyWalks$Sender" "register" "I", Cond.fieldLink RX2 28 "LikelyWalks$Sender" "bitCount" "I", Cond.methodLink RX3 29 yX1_init, Cond.instanceMethod yX1_init, Cond.code yX1_init cX1_init 1 none, Cond.methodLink RX1 3 objectInit, Cond.fieldLink RX1 9 "LikelyWalks$Reader" "releasedBits" "[I"]
def wsL_law_r4 : List Cond := [Cond.fieldLink RX1 15 "LikelyWalks$Reader" "metrics" "[I", Cond.fieldLink RX1 18 "LikelyWalks$Reader" "newMetrics" "[I", Cond.fieldLink RX1 21 "LikelyWalks$Reader" "fromUpper" "[I", Cond.methodLink RX1 24 yX1_clear, Cond.instanceMethod yX1_clear, Cond.selects RX1 yX1_clear yX1_clear, Cond.code yX1_clear cX1_clear 1 none, Cond.fieldLink RX1 27 "LikelyWalks$Reader" "steps" "I", Cond.fieldLink RX1 31 "LikelyWalks$Reader" "lineSteps" "I", Cond.fieldLink RX1 34 "LikelyWalks$Reader" "releasedCount" "I", Cond.fieldLink RX1 37 "LikelyWalks$Reader" "isFinished" "Z", Cond.methodLink RX1 41 yJ7_fill_53178, Cond.static yJ7_fill_53178, Cond.initialized RJ7, Cond.code yJ7_fill_53178 cJ7_fill_53178 4 none, Cond.methodLink RX5 33 yX4_init, Cond.instanceMethod yX4_init, Cond.code yX4_init cX4_init 1 none, Cond.methodLink RX4 3 objectInit, Cond.fieldLink RX4 9 "LikelyWalks$Text" "length" "I", Cond.fieldLink RX4 15 "LikelyWalks$Text" "values" "[I", Cond.methodLink RL 12 yX6_init, Cond.instanceMethod yX6_init, Cond.code yX6_init cX6_init 1 none]
def wsL_law_r5 : List Cond := [Cond.methodLink RX6 1 objectInit, Cond.fieldLink RX6 7 "LikelyWalksModel" "now" "[I", Cond.fieldLink RX6 13 "LikelyWalksModel" "history" "[I", Cond.fieldLink RX6 16 "LikelyWalksModel" "shot" "[I", Cond.fieldLink RX6 19 "LikelyWalksModel" "text" "[I", Cond.fieldLink RX6 22 "LikelyWalksModel" "heard" "[I", Cond.fieldLink RX6 25 "LikelyWalksModel" "metrics" "[I", Cond.fieldLink RX6 28 "LikelyWalksModel" "walks" "[I", Cond.fieldLink RX6 31 "LikelyWalksModel" "far" "[I", Cond.methodLink RX6 34 yX6_clearReader, Cond.instanceMethod yX6_clearReader, Cond.selects RX6 yX6_clearReader yX6_clearReader, Cond.code yX6_clearReader cX6_clearReader 2 none, Cond.methodLink RL 13 yX5_setCode, Cond.instanceMethod yX5_setCode, Cond.selects RX5 yX5_setCode yX5_setCode, Cond.code yX5_setCode cX5_setCode 6 (some .int), Cond.fieldLink RX5 45 "LikelyWalks$State" "code" "LLikelyWalks$Code;", Cond.fieldLink RX5 55 "LikelyWalks$State" "sender" "LLikelyWalks$Sender;", Cond.fieldLink RX5 64 "LikelyWalks$State" "reader" "LLikelyWalks$Reader;", Cond.fieldLink RX5 71 "LikelyWalks$Code" "outputs" "I", Cond.methodLink RX5 42 yX5_recordNow, Cond.instanceMethod yX5_recordNow, Cond.selects RX5 yX5_recordNow yX5_recordNow]
def wsL_law_r6 : List Cond := [Cond.code yX5_recordNow cX5_recordNow 1 none, Cond.methodLink RX5 200 yX5_dropOldest, Cond.instanceMethod yX5_dropOldest, Cond.selects RX5 yX5_dropOldest yX5_dropOldest, Cond.code yX5_dropOldest cX5_dropOldest 3 none, Cond.methodLink RX5 138 yX3_copyFrom, Cond.instanceMethod yX3_copyFrom, Cond.selects RX3 yX3_copyFrom yX3_copyFrom, Cond.code yX3_copyFrom cX3_copyFrom 2 none, Cond.methodLink RX3 34 yX0_copyFrom, Cond.instanceMethod yX0_copyFrom, Cond.selects RX0 yX0_copyFrom yX0_copyFrom, Cond.code yX0_copyFrom cX0_copyFrom 2 none, Cond.methodLink RX3 38 yX2_copyFrom, Cond.instanceMethod yX2_copyFrom, Cond.selects RX2 yX2_copyFrom yX2_copyFrom, Cond.code yX2_copyFrom cX2_copyFrom 2 none, Cond.methodLink RX2 31 arraycopyName, Cond.native arraycopyName, Cond.static arraycopyName, Cond.initialized "java/lang/System", Cond.methodLink RX3 41 yX1_copyFrom, Cond.instanceMethod yX1_copyFrom, Cond.selects RX1 yX1_copyFrom yX1_copyFrom]
def wsL_law_r7 : List Cond := [Cond.code yX1_copyFrom cX1_copyFrom 2 none, Cond.methodLink RX1 47 arraycopyName, Cond.methodLink RX5 49 yX0_choose, Cond.methodLink RX5 59 yX2_clear, Cond.methodLink RX5 68 yX1_clear, Cond.methodLink RL 17 yX6_setCode, Cond.instanceMethod yX6_setCode, Cond.selects RX6 yX6_setCode yX6_setCode, Cond.code yX6_setCode cX6_setCode 6 (some .int), Cond.methodLink RX6 49 yX6_in, Cond.static yX6_in, Cond.code yX6_in cX6_in 3 (some .boolean), Cond.methodLink RX6 53 yX6_record, Cond.instanceMethod yX6_record, Cond.selects RX6 yX6_record yX6_record, Cond.code yX6_record cX6_record 2 none, Cond.fieldLink RX6 37 "LikelyWalksModel" "states" "I", Cond.methodLink RL 18 yX5_setDepth, Cond.instanceMethod yX5_setDepth, Cond.selects RX5 yX5_setDepth yX5_setDepth, Cond.code yX5_setDepth cX5_setDepth 3 (some .int), Cond.fieldLink RX5 74 "LikelyWalks$Reader" "steps" "I", Cond.fieldLink RX5 77 "LikelyWalks$State" "depth" "I", Cond.methodLink RL 22 yX6_setDepth]
def wsL_law_r8 : List Cond := [Cond.instanceMethod yX6_setDepth, Cond.selects RX6 yX6_setDepth yX6_setDepth, Cond.code yX6_setDepth cX6_setDepth 3 (some .int), Cond.methodLink RL 23 yX5_send, Cond.instanceMethod yX5_send, Cond.selects RX5 yX5_send yX5_send, Cond.code yX5_send cX5_send 3 (some .int), Cond.fieldLink RX5 84 "LikelyWalks$Sender" "bitCount" "I", Cond.fieldLink RX5 87 "LikelyWalks$Text" "length" "I", Cond.fieldLink RX5 90 "LikelyWalks$Text" "values" "[I", Cond.methodLink RX5 80 yX4_firstFault, Cond.instanceMethod yX4_firstFault, Cond.selects RX4 yX4_firstFault yX4_firstFault, Cond.code yX4_firstFault cX4_firstFault 3 (some .int), Cond.methodLink RX5 93 yX2_push, Cond.instanceMethod yX2_push, Cond.selects RX2 yX2_push yX2_push, Cond.code yX2_push cX2_push 7 none, Cond.fieldLink RX2 43 "LikelyWalks$Code" "outputs" "I", Cond.methodLink RX2 37 yX0_windowOf, Cond.instanceMethod yX0_windowOf, Cond.selects RX0 yX0_windowOf yX0_windowOf, Cond.code yX0_windowOf cX0_windowOf 3 (some .int), Cond.methodLink RX2 46 yX0_symbolOf]
def wsL_law_r9 : List Cond := [Cond.instanceMethod yX0_symbolOf, Cond.selects RX0 yX0_symbolOf yX0_symbolOf, Cond.code yX0_symbolOf cX0_symbolOf 3 (some .int), Cond.methodLink RX0 34 yJ6_bitCount_0f7a4, Cond.static yJ6_bitCount_0f7a4, Cond.initialized RJ6, Cond.code yJ6_bitCount_0f7a4 cJ6_bitCount_0f7a4 1 (some .int), Cond.constant RJ6 265 (1431655765), Cond.constant RJ6 266 (858993459), Cond.constant RJ6 267 (252645135), Cond.methodLink RX2 49 yX0_stateAfter, Cond.instanceMethod yX0_stateAfter, Cond.selects RX0 yX0_stateAfter yX0_stateAfter, Cond.code yX0_stateAfter cX0_stateAfter 3 (some .int), Cond.methodLink RX0 30 yX0_windowOf, Cond.methodLink RL 27 yX6_send, Cond.instanceMethod yX6_send, Cond.selects RX6 yX6_send yX6_send, Cond.code yX6_send cX6_send 3 (some .int), Cond.fieldLink RX6 56 "LikelyWalksModel" "typed" "I", Cond.methodLink RX6 65 yX6_fault, Cond.instanceMethod yX6_fault, Cond.selects RX6 yX6_fault yX6_fault, Cond.code yX6_fault cX6_fault 3 (some .int)]
def wsL_law_r10 : List Cond := [Cond.methodLink RX6 69 yX6_sendBit, Cond.instanceMethod yX6_sendBit, Cond.selects RX6 yX6_sendBit yX6_sendBit, Cond.code yX6_sendBit cX6_sendBit 5 none, Cond.methodLink RX6 59 yX6_window, Cond.instanceMethod yX6_window, Cond.selects RX6 yX6_window yX6_window, Cond.code yX6_window cX6_window 3 (some .int), Cond.methodLink RX6 41 yX6_registers, Cond.instanceMethod yX6_registers, Cond.selects RX6 yX6_registers yX6_registers, Cond.code yX6_registers cX6_registers 1 (some .int), Cond.methodLink RX6 62 yX6_symbols, Cond.instanceMethod yX6_symbols, Cond.selects RX6 yX6_symbols yX6_symbols, Cond.code yX6_symbols cX6_symbols 1 (some .int), Cond.methodLink RX6 45 yX6_symbol, Cond.instanceMethod yX6_symbol, Cond.selects RX6 yX6_symbol yX6_symbol, Cond.code yX6_symbol cX6_symbol 5 (some .int), Cond.methodLink RL 28 yX5_sendTail, Cond.instanceMethod yX5_sendTail, Cond.selects RX5 yX5_sendTail yX5_sendTail, Cond.code yX5_sendTail cX5_sendTail 3 (some .int)]
def wsL_law_r11 : List Cond := [Cond.fieldLink RX5 97 "LikelyWalks$Code" "memory" "I", Cond.methodLink RL 31 yX6_sendTail, Cond.instanceMethod yX6_sendTail, Cond.selects RX6 yX6_sendTail yX6_sendTail, Cond.code yX6_sendTail cX6_sendTail 2 (some .int), Cond.methodLink RL 32 yX5_flip, Cond.instanceMethod yX5_flip, Cond.selects RX5 yX5_flip yX5_flip, Cond.code yX5_flip cX5_flip 3 (some .int), Cond.fieldLink RX5 104 "LikelyWalks$Sender" "symbols" "[I", Cond.methodLink RX5 100 yX5_isOnLine, Cond.instanceMethod yX5_isOnLine, Cond.selects RX5 yX5_isOnLine yX5_isOnLine, Cond.code yX5_isOnLine cX5_isOnLine 2 (some .boolean), Cond.methodLink RX5 184 yX5_lineLength, Cond.instanceMethod yX5_lineLength, Cond.selects RX5 yX5_lineLength yX5_lineLength, Cond.code yX5_lineLength cX5_lineLength 1 (some .int), Cond.methodLink RX5 107 yX5_isTaken, Cond.instanceMethod yX5_isTaken, Cond.selects RX5 yX5_isTaken yX5_isTaken, Cond.code yX5_isTaken cX5_isTaken 2 (some .boolean), Cond.fieldLink RX5 113 "LikelyWalks$Reader" "lineSteps" "I", Cond.methodLink RL 35 yX6_flip]
def wsL_law_r12 : List Cond := [Cond.instanceMethod yX6_flip, Cond.selects RX6 yX6_flip yX6_flip, Cond.code yX6_flip cX6_flip 2 (some .int), Cond.methodLink RL 36 yX5_erase, Cond.instanceMethod yX5_erase, Cond.selects RX5 yX5_erase yX5_erase, Cond.code yX5_erase cX5_erase 3 (some .int), Cond.methodLink RL 39 yX6_erase, Cond.instanceMethod yX6_erase, Cond.selects RX6 yX6_erase yX6_erase, Cond.code yX6_erase cX6_erase 3 (some .int), Cond.methodLink RL 40 yX5_take, Cond.instanceMethod yX5_take, Cond.selects RX5 yX5_take yX5_take, Cond.code yX5_take cX5_take 5 (some .int), Cond.fieldLink RX5 110 "LikelyWalks$Reader" "isFinished" "Z", Cond.fieldLink RX5 120 "LikelyWalks$Reader" "releasedCount" "I", Cond.methodLink RX5 116 yX1_advance, Cond.instanceMethod yX1_advance, Cond.selects RX1 yX1_advance yX1_advance, Cond.code yX1_advance cX1_advance 13 none, Cond.methodLink RX1 53 yX0_states, Cond.instanceMethod yX0_states, Cond.selects RX0 yX0_states yX0_states]
def wsL_law_r13 : List Cond := [Cond.code yX0_states cX0_states 1 (some .int), Cond.methodLink RX1 59 yX0_lowerBefore, Cond.instanceMethod yX0_lowerBefore, Cond.selects RX0 yX0_lowerBefore yX0_lowerBefore, Cond.code yX0_lowerBefore cX0_lowerBefore 2 (some .int), Cond.methodLink RX0 26 yX0_states, Cond.methodLink RX1 63 yX0_bitInto, Cond.instanceMethod yX0_bitInto, Cond.selects RX0 yX0_bitInto yX0_bitInto, Cond.code yX0_bitInto cX0_bitInto 2 (some .int), Cond.methodLink RX1 66 yX1_metricOver, Cond.instanceMethod yX1_metricOver, Cond.selects RX1 yX1_metricOver yX1_metricOver, Cond.code yX1_metricOver cX1_metricOver 6 (some .int), Cond.methodLink RX1 78 yX0_priceOf, Cond.instanceMethod yX0_priceOf, Cond.selects RX0 yX0_priceOf yX0_priceOf, Cond.code yX0_priceOf cX0_priceOf 9 (some .int), Cond.methodLink RX0 40 yX0_symbolOf, Cond.methodLink RX1 70 yX1_bestState, Cond.instanceMethod yX1_bestState, Cond.selects RX1 yX1_bestState yX1_bestState, Cond.code yX1_bestState cX1_bestState 6 (some .int), Cond.methodLink RX1 74 yX1_releaseUpTo]
def wsL_law_r14 : List Cond := [Cond.instanceMethod yX1_releaseUpTo, Cond.selects RX1 yX1_releaseUpTo yX1_releaseUpTo, Cond.code yX1_releaseUpTo cX1_releaseUpTo 6 none, Cond.methodLink RX1 82 yX1_stateBefore, Cond.instanceMethod yX1_stateBefore, Cond.selects RX1 yX1_stateBefore yX1_stateBefore, Cond.code yX1_stateBefore cX1_stateBefore 4 (some .int), Cond.methodLink RL 43 yX6_take, Cond.instanceMethod yX6_take, Cond.selects RX6 yX6_take yX6_take, Cond.code yX6_take cX6_take 4 (some .int), Cond.methodLink RX6 89 yX6_go, Cond.instanceMethod yX6_go, Cond.selects RX6 yX6_go yX6_go, Cond.code yX6_go cX6_go 2 none, Cond.methodLink RX6 80 yX6_lay, Cond.instanceMethod yX6_lay, Cond.selects RX6 yX6_lay yX6_lay, Cond.code yX6_lay cX6_lay 9 none, Cond.methodLink RX6 76 yX6_price, Cond.instanceMethod yX6_price, Cond.selects RX6 yX6_price yX6_price, Cond.code yX6_price cX6_price 4 (some .int), Cond.methodLink RX6 83 yX6_bestState]
def wsL_law_r15 : List Cond := [Cond.instanceMethod yX6_bestState, Cond.selects RX6 yX6_bestState yX6_bestState, Cond.code yX6_bestState cX6_bestState 4 (some .int), Cond.methodLink RX6 86 yX6_release, Cond.instanceMethod yX6_release, Cond.selects RX6 yX6_release yX6_release, Cond.code yX6_release cX6_release 2 none, Cond.methodLink RX6 73 yX6_walkBit, Cond.instanceMethod yX6_walkBit, Cond.selects RX6 yX6_walkBit yX6_walkBit, Cond.code yX6_walkBit cX6_walkBit 3 (some .int), Cond.methodLink RL 44 yX5_hear, Cond.instanceMethod yX5_hear, Cond.selects RX5 yX5_hear yX5_hear, Cond.code yX5_hear cX5_hear 6 (some .int), Cond.methodLink RL 47 yX6_hear, Cond.instanceMethod yX6_hear, Cond.selects RX6 yX6_hear yX6_hear, Cond.code yX6_hear cX6_hear 4 (some .int), Cond.methodLink RL 48 yX5_finish, Cond.instanceMethod yX5_finish, Cond.selects RX5 yX5_finish yX5_finish, Cond.code yX5_finish cX5_finish 4 (some .int), Cond.fieldLink RX5 123 "LikelyWalks$Reader" "metrics" "[I"]
def wsL_law_r16 : List Cond := [Cond.methodLink RX5 126 yX1_bestState, Cond.methodLink RX5 130 yX1_releaseUpTo, Cond.methodLink RL 52 yX6_finish, Cond.instanceMethod yX6_finish, Cond.selects RX6 yX6_finish yX6_finish, Cond.code yX6_finish cX6_finish 3 (some .int), Cond.methodLink RL 53 yX5_reset, Cond.instanceMethod yX5_reset, Cond.selects RX5 yX5_reset yX5_reset, Cond.code yX5_reset cX5_reset 2 (some .int), Cond.methodLink RL 56 yX6_reset, Cond.instanceMethod yX6_reset, Cond.selects RX6 yX6_reset yX6_reset, Cond.code yX6_reset cX6_reset 2 (some .int), Cond.methodLink RL 57 yX5_type, Cond.instanceMethod yX5_type, Cond.selects RX5 yX5_type yX5_type, Cond.code yX5_type cX5_type 2 (some .int), Cond.methodLink RX5 134 yX4_append, Cond.instanceMethod yX4_append, Cond.selects RX4 yX4_append yX4_append, Cond.code yX4_append cX4_append 2 none, Cond.methodLink RX4 19 yX4_valueOf, Cond.static yX4_valueOf]
def wsL_law_r17 : List Cond := [Cond.code yX4_valueOf cX4_valueOf 1 (some .int), Cond.methodLink RL 61 yX6_type, Cond.instanceMethod yX6_type, Cond.selects RX6 yX6_type yX6_type, Cond.code yX6_type cX6_type 2 (some .int), Cond.methodLink RL 62 yX5_clearText, Cond.instanceMethod yX5_clearText, Cond.selects RX5 yX5_clearText yX5_clearText, Cond.code yX5_clearText cX5_clearText 2 (some .int), Cond.methodLink RL 65 yX6_clearText, Cond.instanceMethod yX6_clearText, Cond.selects RX6 yX6_clearText yX6_clearText, Cond.code yX6_clearText cX6_clearText 2 (some .int), Cond.methodLink RL 66 yX5_undo, Cond.instanceMethod yX5_undo, Cond.selects RX5 yX5_undo yX5_undo, Cond.code yX5_undo cX5_undo 1 (some .int), Cond.methodLink RL 69 yX6_undo, Cond.instanceMethod yX6_undo, Cond.selects RX6 yX6_undo yX6_undo, Cond.code yX6_undo cX6_undo 2 (some .int), Cond.methodLink RL 70 yX5_keep, Cond.instanceMethod yX5_keep, Cond.selects RX5 yX5_keep yX5_keep]
def wsL_law_r18 : List Cond := [Cond.code yX5_keep cX5_keep 1 (some .int), Cond.methodLink RL 73 yX6_keep, Cond.instanceMethod yX6_keep, Cond.selects RX6 yX6_keep yX6_keep, Cond.code yX6_keep cX6_keep 2 (some .int), Cond.fieldLink RX6 92 "LikelyWalksModel" "isShot" "Z", Cond.methodLink RL 74 yX5_restore, Cond.instanceMethod yX5_restore, Cond.selects RX5 yX5_restore yX5_restore, Cond.code yX5_restore cX5_restore 1 (some .int), Cond.methodLink RL 77 yX6_restore, Cond.instanceMethod yX6_restore, Cond.selects RX6 yX6_restore yX6_restore, Cond.code yX6_restore cX6_restore 2 (some .int), Cond.methodLink RL 78 yX5_step, Cond.instanceMethod yX5_step, Cond.selects RX5 yX5_step yX5_step, Cond.code yX5_step cX5_step 4 (some .int), Cond.methodLink RX5 142 yX0_hasState, Cond.instanceMethod yX0_hasState, Cond.selects RX0 yX0_hasState yX0_hasState, Cond.code yX0_hasState cX0_hasState 2 (some .boolean), Cond.methodLink RX5 145 yX0_stateAfter, Cond.methodLink RX5 149 yX0_symbolsOf]
def wsL_law_r19 : List Cond := [Cond.instanceMethod yX0_symbolsOf, Cond.selects RX0 yX0_symbolsOf yX0_symbolsOf, Cond.code yX0_symbolsOf cX0_symbolsOf 6 (some .int), Cond.methodLink RL 82 yX6_step, Cond.instanceMethod yX6_step, Cond.selects RX6 yX6_step yX6_step, Cond.code yX6_step cX6_step 7 (some .int), Cond.methodLink RX6 96 yX6_isState, Cond.instanceMethod yX6_isState, Cond.selects RX6 yX6_isState yX6_isState, Cond.code yX6_isState cX6_isState 2 (some .boolean), Cond.methodLink RL 83 yX5_line, Cond.instanceMethod yX5_line, Cond.selects RX5 yX5_line yX5_line, Cond.code yX5_line cX5_line 3 (some .int), Cond.fieldLink RX5 152 "LikelyWalks$Sender" "originals" "[I", Cond.methodLink RL 87 yX6_line, Cond.instanceMethod yX6_line, Cond.selects RX6 yX6_line yX6_line, Cond.code yX6_line cX6_line 3 (some .int), Cond.methodLink RL 88 yX5_sent, Cond.instanceMethod yX5_sent, Cond.selects RX5 yX5_sent yX5_sent, Cond.code yX5_sent cX5_sent 2 (some .int)]
def wsL_law_r20 : List Cond := [Cond.fieldLink RX5 155 "LikelyWalks$Sender" "bits" "[I", Cond.methodLink RL 91 yX6_sent, Cond.instanceMethod yX6_sent, Cond.selects RX6 yX6_sent yX6_sent, Cond.code yX6_sent cX6_sent 2 (some .int), Cond.methodLink RL 92 yX5_released, Cond.instanceMethod yX5_released, Cond.selects RX5 yX5_released yX5_released, Cond.code yX5_released cX5_released 2 (some .int), Cond.fieldLink RX5 158 "LikelyWalks$Reader" "releasedBits" "[I", Cond.methodLink RL 95 yX6_released, Cond.instanceMethod yX6_released, Cond.selects RX6 yX6_released yX6_released, Cond.code yX6_released cX6_released 2 (some .int), Cond.methodLink RL 96 yX5_metric, Cond.instanceMethod yX5_metric, Cond.selects RX5 yX5_metric yX5_metric, Cond.code yX5_metric cX5_metric 3 (some .int), Cond.methodLink RL 99 yX6_metric, Cond.instanceMethod yX6_metric, Cond.selects RX6 yX6_metric yX6_metric, Cond.code yX6_metric cX6_metric 2 (some .int), Cond.methodLink RL 100 yX5_survivor, Cond.instanceMethod yX5_survivor]
def wsL_law_r21 : List Cond := [Cond.selects RX5 yX5_survivor yX5_survivor, Cond.code yX5_survivor cX5_survivor 3 (some .int), Cond.methodLink RX5 161 yX1_survivorBit, Cond.instanceMethod yX1_survivorBit, Cond.selects RX1 yX1_survivorBit yX1_survivorBit, Cond.code yX1_survivorBit cX1_survivorBit 6 (some .int), Cond.methodLink RL 103 yX6_survivor, Cond.instanceMethod yX6_survivor, Cond.selects RX6 yX6_survivor yX6_survivor, Cond.code yX6_survivor cX6_survivor 3 (some .int), Cond.methodLink RL 104 yX5_agreed, Cond.instanceMethod yX5_agreed, Cond.selects RX5 yX5_agreed yX5_agreed, Cond.code yX5_agreed cX5_agreed 1 (some .int), Cond.methodLink RX5 165 yX1_commonBits, Cond.instanceMethod yX1_commonBits, Cond.selects RX1 yX1_commonBits yX1_commonBits, Cond.code yX1_commonBits cX1_commonBits 11 (some .int), Cond.methodLink RX1 86 yX1_reached, Cond.instanceMethod yX1_reached, Cond.selects RX1 yX1_reached yX1_reached, Cond.code yX1_reached cX1_reached 6 (some .long), Cond.methodLink RL 107 yX6_agreed, Cond.instanceMethod yX6_agreed]
def wsL_law_r22 : List Cond := [Cond.selects RX6 yX6_agreed yX6_agreed, Cond.code yX6_agreed cX6_agreed 2 (some .int), Cond.methodLink RX6 100 yX6_areAlikeAt, Cond.instanceMethod yX6_areAlikeAt, Cond.selects RX6 yX6_areAlikeAt yX6_areAlikeAt, Cond.code yX6_areAlikeAt cX6_areAlikeAt 5 (some .boolean), Cond.methodLink RL 108 yX5_freeDistance, Cond.instanceMethod yX5_freeDistance, Cond.selects RX5 yX5_freeDistance yX5_freeDistance, Cond.code yX5_freeDistance cX5_freeDistance 2 (some .int), Cond.methodLink RX5 168 yX0_leastReturn, Cond.instanceMethod yX0_leastReturn, Cond.selects RX0 yX0_leastReturn yX0_leastReturn, Cond.code yX0_leastReturn cX0_leastReturn 5 (some .int), Cond.methodLink RX0 46 yJ7_fill_53178, Cond.methodLink RX0 52 yX0_stateAfter, Cond.methodLink RX0 55 yX0_onesOf, Cond.instanceMethod yX0_onesOf, Cond.selects RX0 yX0_onesOf yX0_onesOf, Cond.code yX0_onesOf cX0_onesOf 3 (some .int), Cond.methodLink RX0 43 yX0_symbolsOf, Cond.methodLink RX0 58 yX0_lowerAfter, Cond.instanceMethod yX0_lowerAfter, Cond.selects RX0 yX0_lowerAfter yX0_lowerAfter]
def wsL_law_r23 : List Cond := [Cond.code yX0_lowerAfter cX0_lowerAfter 7 none, Cond.methodLink RL 111 yX6_freeDistance, Cond.instanceMethod yX6_freeDistance, Cond.selects RX6 yX6_freeDistance yX6_freeDistance, Cond.code yX6_freeDistance cX6_freeDistance 2 (some .int), Cond.methodLink RX6 106 yX6_layFar, Cond.instanceMethod yX6_layFar, Cond.selects RX6 yX6_layFar yX6_layFar, Cond.code yX6_layFar cX6_layFar 6 none, Cond.methodLink RX6 103 yX6_ones, Cond.instanceMethod yX6_ones, Cond.selects RX6 yX6_ones yX6_ones, Cond.code yX6_ones cX6_ones 4 (some .int), Cond.methodLink RL 112 yX5_hasIdleRing, Cond.instanceMethod yX5_hasIdleRing, Cond.selects RX5 yX5_hasIdleRing yX5_hasIdleRing, Cond.code yX5_hasIdleRing cX5_hasIdleRing 1 (some .int), Cond.methodLink RX5 172 yX0_hasRingOfZeros, Cond.instanceMethod yX0_hasRingOfZeros, Cond.selects RX0 yX0_hasRingOfZeros yX0_hasRingOfZeros, Cond.code yX0_hasRingOfZeros cX0_hasRingOfZeros 8 (some .boolean), Cond.constantLong RX0 62 (2), Cond.methodLink RX0 64 yX0_leadsOnByZeros, Cond.instanceMethod yX0_leadsOnByZeros]
def wsL_law_r24 : List Cond := [Cond.selects RX0 yX0_leadsOnByZeros yX0_leadsOnByZeros, Cond.code yX0_leadsOnByZeros cX0_leadsOnByZeros 5 (some .boolean), Cond.methodLink RL 115 yX6_hasIdleRing, Cond.instanceMethod yX6_hasIdleRing, Cond.selects RX6 yX6_hasIdleRing yX6_hasIdleRing, Cond.code yX6_hasIdleRing cX6_hasIdleRing 5 (some .int), Cond.methodLink RX6 109 yX6_goesOn, Cond.instanceMethod yX6_goesOn, Cond.selects RX6 yX6_goesOn yX6_goesOn, Cond.code yX6_goesOn cX6_goesOn 6 (some .boolean), Cond.methodLink RL 116 yX5_wrongBits, Cond.instanceMethod yX5_wrongBits, Cond.selects RX5 yX5_wrongBits yX5_wrongBits, Cond.code yX5_wrongBits cX5_wrongBits 4 (some .int), Cond.methodLink RX5 176 Lib.Math.min.name, Cond.static Lib.Math.min.name, Cond.initialized "java/lang/Math", Cond.code Lib.Math.min.name Lib.Math.min.code 2 (some .int), Cond.methodLink RL 119 yX6_wrongBits, Cond.instanceMethod yX6_wrongBits, Cond.selects RX6 yX6_wrongBits yX6_wrongBits, Cond.code yX6_wrongBits cX6_wrongBits 3 (some .int), Cond.methodLink RL 120 yX5_count, Cond.instanceMethod yX5_count]
def wsL_law_r25 : List Cond := [Cond.selects RX5 yX5_count yX5_count, Cond.code yX5_count cX5_count 2 (some .int), Cond.fieldLink RX5 181 "LikelyWalks$Code" "taps" "[I", Cond.fieldLink RX5 188 "LikelyWalks$Sender" "register" "I", Cond.methodLink RX5 191 yX5_erasedSymbols, Cond.instanceMethod yX5_erasedSymbols, Cond.selects RX5 yX5_erasedSymbols yX5_erasedSymbols, Cond.code yX5_erasedSymbols cX5_erasedSymbols 4 (some .int), Cond.methodLink RX5 194 yX5_flippedSymbols, Cond.instanceMethod yX5_flippedSymbols, Cond.selects RX5 yX5_flippedSymbols yX5_flippedSymbols, Cond.code yX5_flippedSymbols cX5_flippedSymbols 5 (some .int), Cond.methodLink RX5 197 yX1_reachedStates, Cond.instanceMethod yX1_reachedStates, Cond.selects RX1 yX1_reachedStates yX1_reachedStates, Cond.code yX1_reachedStates cX1_reachedStates 2 (some .int), Cond.methodLink RX1 90 yJ13_bitCount_95d88, Cond.static yJ13_bitCount_95d88, Cond.initialized RJ13, Cond.code yJ13_bitCount_95d88 cJ13_bitCount_95d88 2 (some .int), Cond.constantLong RJ13 314 (6148914691236517205), Cond.constantLong RJ13 316 (3689348814741910323), Cond.constantLong RJ13 318 (1085102592571150095), Cond.methodLink RL 123 yX6_count]
def wsL_law_r26 : List Cond := [Cond.instanceMethod yX6_count, Cond.selects RX6 yX6_count yX6_count, Cond.code yX6_count cX6_count 2 (some .int), Cond.methodLink RX6 113 yX6_changedSymbols, Cond.instanceMethod yX6_changedSymbols, Cond.selects RX6 yX6_changedSymbols yX6_changedSymbols, Cond.code yX6_changedSymbols cX6_changedSymbols 5 (some .int), Cond.methodLink RX6 116 yX6_reached, Cond.instanceMethod yX6_reached, Cond.selects RX6 yX6_reached yX6_reached, Cond.code yX6_reached cX6_reached 3 (some .int)]
def wsL_law : List Cond := (wsL_law_r1 ++ (wsL_law_r2 ++ (wsL_law_r3 ++ (wsL_law_r4 ++ (wsL_law_r5 ++ (wsL_law_r6 ++ (wsL_law_r7 ++ (wsL_law_r8 ++ (wsL_law_r9 ++ (wsL_law_r10 ++ (wsL_law_r11 ++ (wsL_law_r12 ++ (wsL_law_r13 ++ (wsL_law_r14 ++ (wsL_law_r15 ++ (wsL_law_r16 ++ (wsL_law_r17 ++ (wsL_law_r18 ++ (wsL_law_r19 ++ (wsL_law_r20 ++ (wsL_law_r21 ++ (wsL_law_r22 ++ (wsL_law_r23 ++ (wsL_law_r24 ++ (wsL_law_r25 ++ wsL_law_r26))))))))))))))))))))))))) ++ wsX50 ++ wsX60 ++ wsX30 ++ wsX40 ++ wsX00 ++ wsX20 ++ wsX10 ++ ([] : List Cond)
abbrev vwCl : List vw_C := [(RX0, TX0, 3), (RX1, TX1, 8), (RX2, TX2, 5), (RX3, TX3, 4), (RX4, TX4, 2), (RX5, TX5, 7), (RX6, TX6, 11)]
end
section
/-! numbers: every int is iI of an integer -/
def iI (z : Int) : Int32 := Int32.ofInt z
def lI (z : Int) : Int64 := Int64.ofInt z
def bI (P : Prop) [Decidable P] : Int := if P then 1 else 0
theorem bI_t {P : Prop} [Decidable P] (h : P) : bI P = 1 := if_pos h
theorem bI_f {P : Prop} [Decidable P] (h : ¬ P) : bI P = 0 := if_neg h
theorem bI_le {P : Prop} [Decidable P] : 0 ≤ bI P ∧ bI P ≤ 1 := by unfold bI; split <;> omega
theorem iI_toInt {z : Int} (h1 : -2147483648 ≤ z) (h2 : z < 2147483648) : (iI z).toInt = z := Int32.toInt_ofInt_of_le (by omega) (by omega)
theorem iI_add (a b : Int) : iI a + iI b = iI (a + b) := (Int32.ofInt_add a b).symm
theorem iI_sub (a b : Int) : iI a - iI b = iI (a - b) := (Int32.ofInt_sub a b).symm
theorem iI_mul (a b : Int) : iI a * iI b = iI (a * b) := (Int32.ofInt_mul a b).symm
theorem iI_neg (a : Int) : -iI a = iI (-a) := (Int32.ofInt_neg a).symm
theorem iI_of (x : Int32) : iI x.toInt = x := Int32.ofInt_toInt x
theorem iI_rng (x : Int32) : -2147483648 ≤ x.toInt ∧ x.toInt < 2147483648 := by
  have h1 := Int32.le_toInt x
  have h2 := Int32.toInt_lt x
  omega
theorem iI_le {a b : Int} (a1 : -2147483648 ≤ a ∧ a < 2147483648) (b1 : -2147483648 ≤ b ∧ b < 2147483648) : iI a ≤ iI b ↔ a ≤ b := by
  rw [Int32.le_iff_toInt_le, iI_toInt a1.1 a1.2, iI_toInt b1.1 b1.2]
theorem iI_lt {a b : Int} (a1 : -2147483648 ≤ a ∧ a < 2147483648) (b1 : -2147483648 ≤ b ∧ b < 2147483648) : iI a < iI b ↔ a < b := by
  rw [Int32.lt_iff_toInt_lt, iI_toInt a1.1 a1.2, iI_toInt b1.1 b1.2]
theorem iI_eq {a b : Int} (a1 : -2147483648 ≤ a ∧ a < 2147483648) (b1 : -2147483648 ≤ b ∧ b < 2147483648) : iI a = iI b ↔ a = b := by
  rw [← Int32.toInt_inj, iI_toInt a1.1 a1.2, iI_toInt b1.1 b1.2]
theorem iI_0 : iI 0 = 0 := rfl
theorem iI_nI (n : Nat) : nI n = iI (n : Int) := by
  rw [← Int32.toBitVec_inj]
  simp [nI, iI]
theorem iI_nat {a : Int} (h : 0 ≤ a) : iI a = nI a.toNat := by
  rw [iI_nI, Int.toNat_of_nonneg h]
theorem iI_idx {i : Int} {n : Nat} (h0 : 0 ≤ i) (h : i < (n : Int)) (hn : n < 2147483648) : vp_in (iI i) n ∧ (iI i).toNatClampNeg = i.toNat := by
  have hi : i.toNat < 2147483648 := by omega
  rw [iI_nat h0]
  exact ⟨vp_in_nI (by omega) hn, nI_clamp hi⟩
theorem iI_div {a b : Int} (h0 : 0 ≤ a) (h1 : a < 2147483648) (h2 : 0 < b) (h3 : b < 2147483648) : iI a / iI b = iI (a / b) := by
  rw [iI_nat h0, iI_nat (Int.le_of_lt h2), pk_div (by omega) (by omega) (by omega), iI_nI]
  congr 1
  rw [Int.natCast_ediv, Int.toNat_of_nonneg h0, Int.toNat_of_nonneg (Int.le_of_lt h2)]
theorem iI_rem {a b : Int} (h0 : 0 ≤ a) (h1 : a < 2147483648) (h2 : 0 < b) (h3 : b < 2147483648) : iI a - iI a / iI b * iI b = iI (a % b) := by
  rw [iI_nat h0, iI_nat (Int.le_of_lt h2), pk_rem (by omega) (by omega) (by omega), iI_nI]
  congr 1
  rw [Int.natCast_emod, Int.toNat_of_nonneg h0, Int.toNat_of_nonneg (Int.le_of_lt h2)]
theorem iI_sm : ∀ k : Nat, k < 32 → ((nI k &&& 31).toBitVec.smod 32).toNat = k := by decide +kernel
/-- powers of 2 -/
def p2 (k : Int) : Int := (2 : Int) ^ k.toNat
theorem iI_shl {a k : Int} (h0 : 0 ≤ a) (k0 : 0 ≤ k) (k1 : k < 32) (h : a * p2 k < 4294967296) : iI a <<< (iI k &&& 31) = iI (a * p2 k) := by
  rw [iI_nat h0, iI_nat k0]
  have e := iI_sm k.toNat (by omega)
  have h' : ((a.toNat * 2 ^ k.toNat : Nat) : Int) = a * p2 k := by
    rw [Int.natCast_mul, Int.toNat_of_nonneg h0, p2]
    norm_cast
  rw [pk_shlN _ k.toNat e (by omega), iI_nI, h']
theorem iI_shr {a k : Int} (h0 : 0 ≤ a) (h1 : a < 2147483648) (k0 : 0 ≤ k) (k1 : k < 32) : iI a >>> (iI k &&& 31) = iI (a / p2 k) := by
  rw [iI_nat h0, iI_nat k0]
  have e := iI_sm k.toNat (by omega)
  have h' : ((a.toNat / 2 ^ k.toNat : Nat) : Int) = a / p2 k := by
    rw [Int.natCast_ediv, Int.toNat_of_nonneg h0, p2]
    norm_cast
  rw [pk_shrN (by omega) _ k.toNat e, iI_nI, h']
/-- arrays of ints, read and written at an integer -/
def uZ (f : Int → Int) (i x : Int) : Int → Int := fun j => if j = i then x else f j
theorem uZ_s {f : Int → Int} {i x : Int} : uZ f i x i = x := if_pos rfl
theorem uZ_n {f : Int → Int} {i x j : Int} (h : j ≠ i) : uZ f i x j = f j := if_neg h
theorem uZ_upd (f : Int → Int) {i : Int} (h0 : 0 ≤ i) (x : Int) : upd (fun j : Nat => iI (f (j : Int))) i.toNat (iI x) = fun j : Nat => iI (uZ f i x (j : Int)) := by
  funext j
  unfold upd uZ
  by_cases h : j = i.toNat
  · rw [if_pos h, if_pos (by omega)]
  · rw [if_neg h, if_neg (by omega)]
def zA (cy : ClassId) (a n : Nat) (f : Int → Int) : Nat × va_E := (a, .inl (cy, n, .inl (fun j : Nat => iI (f (j : Int)))))
def zO (a ci : Nat) (fs : List Value) : Nat × va_E := (a, .inr (ci, fs))
def zR (cs : ClassId) (a n : Nat) (f : Nat → Option Nat) : Nat × va_E := (a, .inl (cs, n, .inr (.inr (.inr (.inr f)))))
theorem zA_at {D : va_G} {cl : List vw_C} {cy : ClassId} {a n : Nat} {f g : Int → Int} {H : Heap} (h : va_at D cl (zA cy a n f) H) (e : ∀ k : Int, 0 ≤ k → k < n → f k = g k) : va_at D cl (zA cy a n g) H := by
  have h1 : H[a]? = some (vp_cell cy (n, .inl (fun j : Nat => iI (f (j : Int))))) := h
  show H[a]? = some (vp_cell cy (n, .inl (fun j : Nat => iI (g (j : Int)))))
  rw [h1]
  simp only [vp_cell, arrV]
  congr 3
  funext j
  rw [e j.val (by omega) (by omega)]
/-- the kinds of arrays -/
def zT (cy cs : ClassId) : List (ClassId × FieldType) := [(cy, .int), (cs, .object "LikelyWalks$State")]
def Wd (D : va_G) (T : List (ClassId × FieldType)) (A : Nat → Prop) (H0 : Heap) (s : State) (ws : va_W) (H : Heap) (locs : List Loc) : Prop :=
  va_P D vwCl ws H ∧ va_D A ws ∧ va_S A H0 H locs ∧ va_K D vwCl T s
theorem z_map {α : Type} {l r : List α} : ∀ {is : List Nat} , is.map (fun i => l[i]?) = r.map some → ∀ (j : Nat) (q : α), r[j]? = some q → ∃ i, is[j]? = some i ∧ l[i]? = some q := by
  intro is h j q hq
  have h1 : (is.map (fun i => l[i]?))[j]? = some (some q) := by rw [h]; simp [hq]
  rw [List.getElem?_map] at h1
  cases hi : is[j]? with
  | none => rw [hi] at h1; cases h1
  | some i => rw [hi] at h1; exact ⟨i, rfl, by simpa using h1⟩
def zrep : va_W → List Nat → va_W → va_W
  | ws, [], _ => ws
  | ws, _ :: _, [] => ws
  | ws, i :: is, q :: qs => zrep (ws.set i q) is qs
theorem zrep_get : ∀ (is : List Nat) (qs ws : va_W) (k : Nat) (q : Nat × va_E), (zrep ws is qs)[k]? = some q → (∃ j : Nat, is[j]? = some k ∧ qs[j]? = some q) ∨ (ws[k]? = some q ∧ (qs.length = is.length → k ∉ is)) := by
  intro is
  induction is with
  | nil => intro qs ws k q h; exact Or.inr ⟨by simpa [zrep] using h, fun _ => List.not_mem_nil⟩
  | cons i is ih =>
    intro qs ws k q h
    cases qs with
    | nil => exact Or.inr ⟨by simpa [zrep] using h, fun e => by simp at e⟩
    | cons q1 qs =>
      rcases ih qs (ws.set i q1) k q h with ⟨j, h1, h2⟩ | ⟨h1, h2⟩
      · exact Or.inl ⟨j + 1, by simpa using h1, by simpa using h2⟩
      · by_cases hk : k = i
        · subst hk
          refine Or.inl ⟨0, rfl, ?_⟩
          rw [List.getElem?_set] at h1
          simp at h1
          exact by simpa using congrArg some h1.2
        · rw [List.getElem?_set_ne (fun e => hk e.symm)] at h1
          refine Or.inr ⟨h1, fun e hm => ?_⟩
          rcases List.mem_cons.mp hm with e1 | e1
          · exact hk e1
          · exact h2 (by simpa using e) e1
theorem zrep_adr {ws wc qs : va_W} {is : List Nat} (hC : is.map (fun i => ws[i]?) = wc.map some) (ha : qs.map Prod.fst = wc.map Prod.fst) (k : Nat) (q : Nat × va_E) (h : (zrep ws is qs)[k]? = some q) : ∃ q0 : Nat × va_E, ws[k]? = some q0 ∧ q0.1 = q.1 := by
  rcases zrep_get is qs ws k q h with ⟨j, h1, h2⟩ | ⟨h1, -⟩
  · have e1 : (qs.map Prod.fst)[j]? = some q.1 := by simp [h2]
    rw [ha, List.getElem?_map] at e1
    cases hw : wc[j]? with
    | none => rw [hw] at e1; cases e1
    | some qq =>
      rw [hw] at e1
      obtain ⟨i, hi, hq⟩ := z_map hC j qq hw
      rw [h1] at hi
      cases hi
      exact ⟨qq, hq, by simpa using e1⟩
  · exact ⟨q, h1, rfl⟩
theorem zrep_P {D : va_G} {cl : List vw_C} {A : Nat → Prop} {ws wc qs : va_W} {is : List Nat} {H H1 : Heap} (hP : va_P D cl ws H) (hD : va_D A ws) (hC : is.map (fun i => ws[i]?) = wc.map some) (ha : qs.map Prod.fst = wc.map Prod.fst) (hP1 : va_P D cl qs H1) (hk : ∀ q : Nat, q < H.size → ¬ va_A wc H.size q → H1[q]? = H[q]?) : va_P D cl (zrep ws is qs) H1 ∧ va_D A (zrep ws is qs) := by
  have hlen : qs.length = is.length := by
    have h1 := congrArg List.length hC
    have h2 := congrArg List.length ha
    simp at h1 h2
    omega
  refine ⟨fun k q h => ?_, fun i j p q hi hj e => ?_, fun k q h => ?_⟩
  · rcases zrep_get is qs ws k q h with ⟨j, h1, h2⟩ | ⟨h1, h2⟩
    · exact hP1 j q h2
    · have hlt := (hP k q h1).lt
      refine (hP k q h1).kept (hk q.1 hlt ?_)
      rintro (⟨j, e, he⟩ | hge)
      · obtain ⟨i, hi, hq⟩ := z_map hC j _ he
        have hik : i = k := hD.1 i k _ _ hq h1 rfl
        subst hik
        exact h2 hlen (List.mem_of_getElem? hi)
      · omega
  · obtain ⟨p0, hp0, e1⟩ := zrep_adr hC ha i p hi
    obtain ⟨q0, hq0, e2⟩ := zrep_adr hC ha j q hj
    exact hD.1 i j p0 q0 hp0 hq0 (by rw [e1, e2, e])
  · obtain ⟨q0, hq0, e⟩ := zrep_adr hC ha k q h
    rw [← e]
    exact hD.2 k q0 hq0
theorem z_fm {α : Type} {l r : List α} {is : List Nat} (h : is.map (fun i => l[i]?) = r.map some) : is.filterMap (fun i => l[i]?) = r := by
  have h1 : is.filterMap (fun i => l[i]?) = (is.map (fun i => l[i]?)).filterMap id := by rw [List.filterMap_map]; rfl
  rw [h1, h, List.filterMap_map]
  have : (id ∘ some : α → Option α) = some := rfl
  rw [this, List.filterMap_some]
end
section
/-! rows over integers, over one bundle of the world -/
section ZR
variable {p : Program} {l : Launch} {e : Env} {R : Room} {s : State} {m : MethodId} {args : Array Value} {below : List Frame} {meth : Method} {c : Code} {H : Heap} {locs : List Loc} {cells slots : Nat} {Q : State → Prop} {cc : ByteArray} {nL : Nat} {Ts : List Cond} {own : String}
variable {pc : Nat} {ls : Array Slot} {rest : List Value} {D : va_G} {T : List (ClassId × FieldType)} {A : Nat → Prop} {H0 : Heap} {ws ws2 : va_W}
theorem z_iconst (C : CallFix p m c cc nL s args Ts own) {n : Int} (hdg : decode cc pc = .ok (.iconst n, 1))
    (k : W p l e R s m args below meth c H locs cells slots Q (F0 m (pc + 1) ls (.int (iI n) :: rest))) : W p l e R s m args below meth c H locs cells slots Q (F0 m pc ls rest) := lv_iconst C.1 C.2.1 hdg rfl k
theorem z_bipush (C : CallFix p m c cc nL s args Ts own) {n : Int} (hdg : decode cc pc = .ok (.bipush n, 2)) (h : (Int8.ofInt n).toInt32 = iI n := by decide +kernel)
    (k : W p l e R s m args below meth c H locs cells slots Q (F0 m (pc + 2) ls (.int (iI n) :: rest))) : W p l e R s m args below meth c H locs cells slots Q (F0 m pc ls rest) := lv_bipush C.1 C.2.1 hdg h k
theorem z_sipush (C : CallFix p m c cc nL s args Ts own) {n : Int} (hdg : decode cc pc = .ok (.sipush n, 3)) (h : (Int16.ofInt n).toInt32 = iI n := by decide +kernel)
    (k : W p l e R s m args below meth c H locs cells slots Q (F0 m (pc + 3) ls (.int (iI n) :: rest))) : W p l e R s m args below meth c H locs cells slots Q (F0 m pc ls rest) := lv_sipush C.1 C.2.1 hdg h k
theorem z_iadd (C : CallFix p m c cc nL s args Ts own) {a b : Int} (hdg : decode cc pc = .ok (.iadd, 1))
    (k : W p l e R s m args below meth c H locs cells slots Q (F0 m (pc + 1) ls (.int (iI (a + b)) :: rest))) : W p l e R s m args below meth c H locs cells slots Q (F0 m pc ls (.int (iI b) :: .int (iI a) :: rest)) := by
  refine lv_iadd C.1 C.2.1 hdg ?_
  rw [iI_add]
  exact k
theorem z_isub (C : CallFix p m c cc nL s args Ts own) {a b : Int} (hdg : decode cc pc = .ok (.isub, 1))
    (k : W p l e R s m args below meth c H locs cells slots Q (F0 m (pc + 1) ls (.int (iI (a - b)) :: rest))) : W p l e R s m args below meth c H locs cells slots Q (F0 m pc ls (.int (iI b) :: .int (iI a) :: rest)) := by
  refine lv_isub C.1 C.2.1 hdg ?_
  rw [iI_sub]
  exact k
theorem z_imul (C : CallFix p m c cc nL s args Ts own) {a b : Int} (hdg : decode cc pc = .ok (.imul, 1))
    (k : W p l e R s m args below meth c H locs cells slots Q (F0 m (pc + 1) ls (.int (iI (a * b)) :: rest))) : W p l e R s m args below meth c H locs cells slots Q (F0 m pc ls (.int (iI b) :: .int (iI a) :: rest)) := by
  refine lv_imul C.1 C.2.1 hdg ?_
  rw [iI_mul]
  exact k
theorem z_idiv (C : CallFix p m c cc nL s args Ts own) {a b : Int} (hdg : decode cc pc = .ok (.idiv, 1)) (h : 0 ≤ a ∧ a < 2147483648 ∧ 0 < b ∧ b < 2147483648)
    (k : W p l e R s m args below meth c H locs cells slots Q (F0 m (pc + 1) ls (.int (iI (a / b)) :: rest))) : W p l e R s m args below meth c H locs cells slots Q (F0 m pc ls (.int (iI b) :: .int (iI a) :: rest)) := by
  refine lv_idiv C.1 C.2.1 hdg (fun e0 => ?_) ?_
  · rw [← iI_0, iI_eq (by omega) (by omega)] at e0
    omega
  · rw [iI_div h.1 h.2.1 h.2.2.1 h.2.2.2]
    exact k
theorem z_irem (C : CallFix p m c cc nL s args Ts own) {a b : Int} (hdg : decode cc pc = .ok (.irem, 1)) (h : 0 ≤ a ∧ a < 2147483648 ∧ 0 < b ∧ b < 2147483648)
    (k : W p l e R s m args below meth c H locs cells slots Q (F0 m (pc + 1) ls (.int (iI (a % b)) :: rest))) : W p l e R s m args below meth c H locs cells slots Q (F0 m pc ls (.int (iI b) :: .int (iI a) :: rest)) := by
  refine lv_irem C.1 C.2.1 hdg (fun e0 => ?_) ?_
  · rw [← iI_0, iI_eq (by omega) (by omega)] at e0
    omega
  · rw [iI_rem h.1 h.2.1 h.2.2.1 h.2.2.2]
    exact k
theorem z_iand (C : CallFix p m c cc nL s args Ts own) {a b : Int} (v : Int) (hdg : decode cc pc = .ok (.iand, 1)) (h : iI a &&& iI b = iI v)
    (k : W p l e R s m args below meth c H locs cells slots Q (F0 m (pc + 1) ls (.int (iI v) :: rest))) : W p l e R s m args below meth c H locs cells slots Q (F0 m pc ls (.int (iI b) :: .int (iI a) :: rest)) := by
  refine lv_iand C.1 C.2.1 hdg ?_
  rw [h]
  exact k
theorem z_ior (C : CallFix p m c cc nL s args Ts own) {a b : Int} (v : Int) (hdg : decode cc pc = .ok (.ior, 1)) (h : iI a ||| iI b = iI v)
    (k : W p l e R s m args below meth c H locs cells slots Q (F0 m (pc + 1) ls (.int (iI v) :: rest))) : W p l e R s m args below meth c H locs cells slots Q (F0 m pc ls (.int (iI b) :: .int (iI a) :: rest)) := by
  refine lv_ior C.1 C.2.1 hdg ?_
  rw [h]
  exact k
theorem z_ixor (C : CallFix p m c cc nL s args Ts own) {a b : Int} (v : Int) (hdg : decode cc pc = .ok (.ixor, 1)) (h : iI a ^^^ iI b = iI v)
    (k : W p l e R s m args below meth c H locs cells slots Q (F0 m (pc + 1) ls (.int (iI v) :: rest))) : W p l e R s m args below meth c H locs cells slots Q (F0 m pc ls (.int (iI b) :: .int (iI a) :: rest)) := by
  refine lv_ixor C.1 C.2.1 hdg ?_
  rw [h]
  exact k
theorem z_ishl (C : CallFix p m c cc nL s args Ts own) {a b : Int} (v : Int) (hdg : decode cc pc = .ok (.ishl, 1)) (h : iI a <<< (iI b &&& 31) = iI v)
    (k : W p l e R s m args below meth c H locs cells slots Q (F0 m (pc + 1) ls (.int (iI v) :: rest))) : W p l e R s m args below meth c H locs cells slots Q (F0 m pc ls (.int (iI b) :: .int (iI a) :: rest)) := by
  refine lv_ishl C.1 C.2.1 hdg ?_
  rw [h]
  exact k
theorem z_ishr (C : CallFix p m c cc nL s args Ts own) {a b : Int} (v : Int) (hdg : decode cc pc = .ok (.ishr, 1)) (h : iI a >>> (iI b &&& 31) = iI v)
    (k : W p l e R s m args below meth c H locs cells slots Q (F0 m (pc + 1) ls (.int (iI v) :: rest))) : W p l e R s m args below meth c H locs cells slots Q (F0 m pc ls (.int (iI b) :: .int (iI a) :: rest)) := by
  refine lv_ishr C.1 C.2.1 hdg ?_
  rw [h]
  exact k
theorem z_iload_n (C : CallFix p m c cc nL s args Ts own) {lv : List (Nat × Value)} (hl : lv_has ls nL lv) {kk : Fin 4} {i : Nat} {x : Int32} (q : Nat) (hdg : decode cc pc = .ok (.iload_n kk, 1)) (hi : (kk : Nat) = i) (hq : lv[q]? = some (i, .int x))
    (k : W p l e R s m args below meth c H locs cells slots Q (F0 m (pc + 1) ls (.int x :: rest))) : W p l e R s m args below meth c H locs cells slots Q (F0 m pc ls rest) := lv_iload_n C.1 C.2.1 hdg hi (lv_at hl q hq) k
theorem z_iload (C : CallFix p m c cc nL s args Ts own) {lv : List (Nat × Value)} (hl : lv_has ls nL lv) {i : Nat} {x : Int32} (q : Nat) (hdg : decode cc pc = .ok (.iload i, 2)) (hq : lv[q]? = some (i, .int x))
    (k : W p l e R s m args below meth c H locs cells slots Q (F0 m (pc + 2) ls (.int x :: rest))) : W p l e R s m args below meth c H locs cells slots Q (F0 m pc ls rest) := lv_iload C.1 C.2.1 hdg (lv_at hl q hq) k
theorem z_lload_n (C : CallFix p m c cc nL s args Ts own) {lv : List (Nat × Value)} (hl : lv_has ls nL lv) {kk : Fin 4} {i : Nat} {x : Int64} (q : Nat) (hdg : decode cc pc = .ok (.lload_n kk, 1)) (hi : (kk : Nat) = i) (hq : lv[q]? = some (i, .long x))
    (k : W p l e R s m args below meth c H locs cells slots Q (F0 m (pc + 1) ls (.long x :: rest))) : W p l e R s m args below meth c H locs cells slots Q (F0 m pc ls rest) := lv_lload_n C.1 C.2.1 hdg hi (lv_at hl q hq) k
theorem z_lload (C : CallFix p m c cc nL s args Ts own) {lv : List (Nat × Value)} (hl : lv_has ls nL lv) {i : Nat} {x : Int64} (q : Nat) (hdg : decode cc pc = .ok (.lload i, 2)) (hq : lv[q]? = some (i, .long x))
    (k : W p l e R s m args below meth c H locs cells slots Q (F0 m (pc + 2) ls (.long x :: rest))) : W p l e R s m args below meth c H locs cells slots Q (F0 m pc ls rest) := lv_lload C.1 C.2.1 hdg (lv_at hl q hq) k
theorem z_aload_n (C : CallFix p m c cc nL s args Ts own) {lv : List (Nat × Value)} (hl : lv_has ls nL lv) {kk : Fin 4} {i x : Nat} (q : Nat) (hdg : decode cc pc = .ok (.aload_n kk, 1)) (hi : (kk : Nat) = i) (hq : lv[q]? = some (i, .ref x))
    (k : W p l e R s m args below meth c H locs cells slots Q (F0 m (pc + 1) ls (.ref x :: rest))) : W p l e R s m args below meth c H locs cells slots Q (F0 m pc ls rest) := lv_aload_n C.1 C.2.1 hdg hi (lv_at hl q hq) k
theorem z_aload (C : CallFix p m c cc nL s args Ts own) {lv : List (Nat × Value)} (hl : lv_has ls nL lv) {i x : Nat} (q : Nat) (hdg : decode cc pc = .ok (.aload i, 2)) (hq : lv[q]? = some (i, .ref x))
    (k : W p l e R s m args below meth c H locs cells slots Q (F0 m (pc + 2) ls (.ref x :: rest))) : W p l e R s m args below meth c H locs cells slots Q (F0 m pc ls rest) := lv_aload C.1 C.2.1 hdg (lv_at hl q hq) k
theorem z_iinc (C : CallFix p m c cc nL s args Ts own) {lv lv' : List (Nat × Value)} (hl : lv_has ls nL lv) {i : Nat} {n a : Int} (q : Nat) (hdg : decode cc pc = .ok (.iinc i n, 3)) (hq : lv[q]? = some (i, .int (iI a))) (hn : i < nL) (hv : (i, Value.int (iI (a + n))) :: lv.filter (fun q => !(q.1 == i) && !(q.1 + 1 == i && q.2.category == 2)) = lv')
    (k : ∀ ls' : Array Slot, lv_has ls' nL lv' → W p l e R s m args below meth c H locs cells slots Q (F0 m (pc + 3) ls' rest)) : W p l e R s m args below meth c H locs cells slots Q (F0 m pc ls rest) := lv_iinc C.1 C.2.1 hdg hl hq (iI_add a n) hn hv k
theorem z_goto (C : CallFix p m c cc nL s args Ts own) {off : Int} {tgt : Nat} (hdg : decode cc pc = .ok (.goto off, 3)) (ht : (pc : Int) + off = (tgt : Int)) (k : W p l e R s m args below meth c H locs cells slots Q (F0 m tgt ls rest)) : W p l e R s m args below meth c H locs cells slots Q (F0 m pc ls rest) := lv_goto C.1 C.2.1 hdg ht k
theorem z_icmp_eq (C : CallFix p m c cc nL s args Ts own) {a b : Int} {off : Int} {tgt : Nat} (hdg : decode cc pc = .ok (.if_icmp .eq off, 3)) (ht : (pc : Int) + off = (tgt : Int)) (r : (-2147483648 ≤ a ∧ a < 2147483648) ∧ -2147483648 ≤ b ∧ b < 2147483648)
    (kt : a = b → W p l e R s m args below meth c H locs cells slots Q (F0 m tgt ls rest)) (kf : ¬ a = b → W p l e R s m args below meth c H locs cells slots Q (F0 m (pc + 3) ls rest)) : W p l e R s m args below meth c H locs cells slots Q (F0 m pc ls (.int (iI b) :: .int (iI a) :: rest)) := by
  have e0 := iI_eq r.1 r.2
  have e1 := iI_le r.1 r.2
  have e2 := iI_le r.2 r.1
  have e3 := iI_lt r.1 r.2
  have e4 := iI_lt r.2 r.1
  refine lv_icmp_eq C.1 C.2.1 hdg ht (fun h => kt ?_) (fun h => kf ?_)
  · simp only [e0, e1, e2, e3, e4, ne_eq] at h
    omega
  · simp only [e0, e1, e2, e3, e4, ne_eq] at h
    omega
theorem z_icmp_ne (C : CallFix p m c cc nL s args Ts own) {a b : Int} {off : Int} {tgt : Nat} (hdg : decode cc pc = .ok (.if_icmp .ne off, 3)) (ht : (pc : Int) + off = (tgt : Int)) (r : (-2147483648 ≤ a ∧ a < 2147483648) ∧ -2147483648 ≤ b ∧ b < 2147483648)
    (kt : ¬ a = b → W p l e R s m args below meth c H locs cells slots Q (F0 m tgt ls rest)) (kf : a = b → W p l e R s m args below meth c H locs cells slots Q (F0 m (pc + 3) ls rest)) : W p l e R s m args below meth c H locs cells slots Q (F0 m pc ls (.int (iI b) :: .int (iI a) :: rest)) := by
  have e0 := iI_eq r.1 r.2
  have e1 := iI_le r.1 r.2
  have e2 := iI_le r.2 r.1
  have e3 := iI_lt r.1 r.2
  have e4 := iI_lt r.2 r.1
  refine lv_icmp_ne C.1 C.2.1 hdg ht (fun h => kt ?_) (fun h => kf ?_)
  · simp only [e0, e1, e2, e3, e4, ne_eq] at h
    omega
  · simp only [e0, e1, e2, e3, e4, ne_eq] at h
    omega
theorem z_icmp_lt (C : CallFix p m c cc nL s args Ts own) {a b : Int} {off : Int} {tgt : Nat} (hdg : decode cc pc = .ok (.if_icmp .lt off, 3)) (ht : (pc : Int) + off = (tgt : Int)) (r : (-2147483648 ≤ a ∧ a < 2147483648) ∧ -2147483648 ≤ b ∧ b < 2147483648)
    (kt : a < b → W p l e R s m args below meth c H locs cells slots Q (F0 m tgt ls rest)) (kf : b ≤ a → W p l e R s m args below meth c H locs cells slots Q (F0 m (pc + 3) ls rest)) : W p l e R s m args below meth c H locs cells slots Q (F0 m pc ls (.int (iI b) :: .int (iI a) :: rest)) := by
  have e0 := iI_eq r.1 r.2
  have e1 := iI_le r.1 r.2
  have e2 := iI_le r.2 r.1
  have e3 := iI_lt r.1 r.2
  have e4 := iI_lt r.2 r.1
  refine lv_icmp_lt C.1 C.2.1 hdg ht (fun h => kt ?_) (fun h => kf ?_)
  · simp only [e0, e1, e2, e3, e4, ne_eq] at h
    omega
  · simp only [e0, e1, e2, e3, e4, ne_eq] at h
    omega
theorem z_icmp_ge (C : CallFix p m c cc nL s args Ts own) {a b : Int} {off : Int} {tgt : Nat} (hdg : decode cc pc = .ok (.if_icmp .ge off, 3)) (ht : (pc : Int) + off = (tgt : Int)) (r : (-2147483648 ≤ a ∧ a < 2147483648) ∧ -2147483648 ≤ b ∧ b < 2147483648)
    (kt : b ≤ a → W p l e R s m args below meth c H locs cells slots Q (F0 m tgt ls rest)) (kf : a < b → W p l e R s m args below meth c H locs cells slots Q (F0 m (pc + 3) ls rest)) : W p l e R s m args below meth c H locs cells slots Q (F0 m pc ls (.int (iI b) :: .int (iI a) :: rest)) := by
  have e0 := iI_eq r.1 r.2
  have e1 := iI_le r.1 r.2
  have e2 := iI_le r.2 r.1
  have e3 := iI_lt r.1 r.2
  have e4 := iI_lt r.2 r.1
  refine lv_icmp_ge C.1 C.2.1 hdg ht (fun h => kt ?_) (fun h => kf ?_)
  · simp only [e0, e1, e2, e3, e4, ne_eq] at h
    omega
  · simp only [e0, e1, e2, e3, e4, ne_eq] at h
    omega
theorem z_icmp_gt (C : CallFix p m c cc nL s args Ts own) {a b : Int} {off : Int} {tgt : Nat} (hdg : decode cc pc = .ok (.if_icmp .gt off, 3)) (ht : (pc : Int) + off = (tgt : Int)) (r : (-2147483648 ≤ a ∧ a < 2147483648) ∧ -2147483648 ≤ b ∧ b < 2147483648)
    (kt : b < a → W p l e R s m args below meth c H locs cells slots Q (F0 m tgt ls rest)) (kf : a ≤ b → W p l e R s m args below meth c H locs cells slots Q (F0 m (pc + 3) ls rest)) : W p l e R s m args below meth c H locs cells slots Q (F0 m pc ls (.int (iI b) :: .int (iI a) :: rest)) := by
  have e0 := iI_eq r.1 r.2
  have e1 := iI_le r.1 r.2
  have e2 := iI_le r.2 r.1
  have e3 := iI_lt r.1 r.2
  have e4 := iI_lt r.2 r.1
  refine lv_icmp_gt C.1 C.2.1 hdg ht (fun h => kt ?_) (fun h => kf ?_)
  · simp only [e0, e1, e2, e3, e4, ne_eq] at h
    omega
  · simp only [e0, e1, e2, e3, e4, ne_eq] at h
    omega
theorem z_icmp_le (C : CallFix p m c cc nL s args Ts own) {a b : Int} {off : Int} {tgt : Nat} (hdg : decode cc pc = .ok (.if_icmp .le off, 3)) (ht : (pc : Int) + off = (tgt : Int)) (r : (-2147483648 ≤ a ∧ a < 2147483648) ∧ -2147483648 ≤ b ∧ b < 2147483648)
    (kt : a ≤ b → W p l e R s m args below meth c H locs cells slots Q (F0 m tgt ls rest)) (kf : b < a → W p l e R s m args below meth c H locs cells slots Q (F0 m (pc + 3) ls rest)) : W p l e R s m args below meth c H locs cells slots Q (F0 m pc ls (.int (iI b) :: .int (iI a) :: rest)) := by
  have e0 := iI_eq r.1 r.2
  have e1 := iI_le r.1 r.2
  have e2 := iI_le r.2 r.1
  have e3 := iI_lt r.1 r.2
  have e4 := iI_lt r.2 r.1
  refine lv_icmp_le C.1 C.2.1 hdg ht (fun h => kt ?_) (fun h => kf ?_)
  · simp only [e0, e1, e2, e3, e4, ne_eq] at h
    omega
  · simp only [e0, e1, e2, e3, e4, ne_eq] at h
    omega
theorem z_if_eq (C : CallFix p m c cc nL s args Ts own) {a : Int} {off : Int} {tgt : Nat} (hdg : decode cc pc = .ok (.ifCond .eq off, 3)) (ht : (pc : Int) + off = (tgt : Int)) (r : -2147483648 ≤ a ∧ a < 2147483648)
    (kt : a = 0 → W p l e R s m args below meth c H locs cells slots Q (F0 m tgt ls rest)) (kf : ¬ a = 0 → W p l e R s m args below meth c H locs cells slots Q (F0 m (pc + 3) ls rest)) : W p l e R s m args below meth c H locs cells slots Q (F0 m pc ls (.int (iI a) :: rest)) := by
  have r0 : -2147483648 ≤ (0 : Int) ∧ (0 : Int) < 2147483648 := by omega
  have e0 : iI a = (0 : Int32) ↔ a = 0 := iI_eq r r0
  have e1 : iI a ≤ (0 : Int32) ↔ a ≤ 0 := iI_le r r0
  have e2 : (0 : Int32) ≤ iI a ↔ 0 ≤ a := iI_le r0 r
  have e3 : iI a < (0 : Int32) ↔ a < 0 := iI_lt r r0
  have e4 : (0 : Int32) < iI a ↔ 0 < a := iI_lt r0 r
  refine lv_if_eq C.1 C.2.1 hdg ht (fun h => kt ?_) (fun h => kf ?_)
  · simp only [e0, e1, e2, e3, e4, ne_eq] at h
    omega
  · simp only [e0, e1, e2, e3, e4, ne_eq] at h
    omega
theorem z_if_ne (C : CallFix p m c cc nL s args Ts own) {a : Int} {off : Int} {tgt : Nat} (hdg : decode cc pc = .ok (.ifCond .ne off, 3)) (ht : (pc : Int) + off = (tgt : Int)) (r : -2147483648 ≤ a ∧ a < 2147483648)
    (kt : ¬ a = 0 → W p l e R s m args below meth c H locs cells slots Q (F0 m tgt ls rest)) (kf : a = 0 → W p l e R s m args below meth c H locs cells slots Q (F0 m (pc + 3) ls rest)) : W p l e R s m args below meth c H locs cells slots Q (F0 m pc ls (.int (iI a) :: rest)) := by
  have r0 : -2147483648 ≤ (0 : Int) ∧ (0 : Int) < 2147483648 := by omega
  have e0 : iI a = (0 : Int32) ↔ a = 0 := iI_eq r r0
  have e1 : iI a ≤ (0 : Int32) ↔ a ≤ 0 := iI_le r r0
  have e2 : (0 : Int32) ≤ iI a ↔ 0 ≤ a := iI_le r0 r
  have e3 : iI a < (0 : Int32) ↔ a < 0 := iI_lt r r0
  have e4 : (0 : Int32) < iI a ↔ 0 < a := iI_lt r0 r
  refine lv_if_ne C.1 C.2.1 hdg ht (fun h => kt ?_) (fun h => kf ?_)
  · simp only [e0, e1, e2, e3, e4, ne_eq] at h
    omega
  · simp only [e0, e1, e2, e3, e4, ne_eq] at h
    omega
theorem z_if_lt (C : CallFix p m c cc nL s args Ts own) {a : Int} {off : Int} {tgt : Nat} (hdg : decode cc pc = .ok (.ifCond .lt off, 3)) (ht : (pc : Int) + off = (tgt : Int)) (r : -2147483648 ≤ a ∧ a < 2147483648)
    (kt : a < 0 → W p l e R s m args below meth c H locs cells slots Q (F0 m tgt ls rest)) (kf : 0 ≤ a → W p l e R s m args below meth c H locs cells slots Q (F0 m (pc + 3) ls rest)) : W p l e R s m args below meth c H locs cells slots Q (F0 m pc ls (.int (iI a) :: rest)) := by
  have r0 : -2147483648 ≤ (0 : Int) ∧ (0 : Int) < 2147483648 := by omega
  have e0 : iI a = (0 : Int32) ↔ a = 0 := iI_eq r r0
  have e1 : iI a ≤ (0 : Int32) ↔ a ≤ 0 := iI_le r r0
  have e2 : (0 : Int32) ≤ iI a ↔ 0 ≤ a := iI_le r0 r
  have e3 : iI a < (0 : Int32) ↔ a < 0 := iI_lt r r0
  have e4 : (0 : Int32) < iI a ↔ 0 < a := iI_lt r0 r
  refine lv_if_lt C.1 C.2.1 hdg ht (fun h => kt ?_) (fun h => kf ?_)
  · simp only [e0, e1, e2, e3, e4, ne_eq] at h
    omega
  · simp only [e0, e1, e2, e3, e4, ne_eq] at h
    omega
theorem z_if_ge (C : CallFix p m c cc nL s args Ts own) {a : Int} {off : Int} {tgt : Nat} (hdg : decode cc pc = .ok (.ifCond .ge off, 3)) (ht : (pc : Int) + off = (tgt : Int)) (r : -2147483648 ≤ a ∧ a < 2147483648)
    (kt : 0 ≤ a → W p l e R s m args below meth c H locs cells slots Q (F0 m tgt ls rest)) (kf : a < 0 → W p l e R s m args below meth c H locs cells slots Q (F0 m (pc + 3) ls rest)) : W p l e R s m args below meth c H locs cells slots Q (F0 m pc ls (.int (iI a) :: rest)) := by
  have r0 : -2147483648 ≤ (0 : Int) ∧ (0 : Int) < 2147483648 := by omega
  have e0 : iI a = (0 : Int32) ↔ a = 0 := iI_eq r r0
  have e1 : iI a ≤ (0 : Int32) ↔ a ≤ 0 := iI_le r r0
  have e2 : (0 : Int32) ≤ iI a ↔ 0 ≤ a := iI_le r0 r
  have e3 : iI a < (0 : Int32) ↔ a < 0 := iI_lt r r0
  have e4 : (0 : Int32) < iI a ↔ 0 < a := iI_lt r0 r
  refine lv_if_ge C.1 C.2.1 hdg ht (fun h => kt ?_) (fun h => kf ?_)
  · simp only [e0, e1, e2, e3, e4, ne_eq] at h
    omega
  · simp only [e0, e1, e2, e3, e4, ne_eq] at h
    omega
theorem z_if_gt (C : CallFix p m c cc nL s args Ts own) {a : Int} {off : Int} {tgt : Nat} (hdg : decode cc pc = .ok (.ifCond .gt off, 3)) (ht : (pc : Int) + off = (tgt : Int)) (r : -2147483648 ≤ a ∧ a < 2147483648)
    (kt : 0 < a → W p l e R s m args below meth c H locs cells slots Q (F0 m tgt ls rest)) (kf : a ≤ 0 → W p l e R s m args below meth c H locs cells slots Q (F0 m (pc + 3) ls rest)) : W p l e R s m args below meth c H locs cells slots Q (F0 m pc ls (.int (iI a) :: rest)) := by
  have r0 : -2147483648 ≤ (0 : Int) ∧ (0 : Int) < 2147483648 := by omega
  have e0 : iI a = (0 : Int32) ↔ a = 0 := iI_eq r r0
  have e1 : iI a ≤ (0 : Int32) ↔ a ≤ 0 := iI_le r r0
  have e2 : (0 : Int32) ≤ iI a ↔ 0 ≤ a := iI_le r0 r
  have e3 : iI a < (0 : Int32) ↔ a < 0 := iI_lt r r0
  have e4 : (0 : Int32) < iI a ↔ 0 < a := iI_lt r0 r
  refine lv_if_gt C.1 C.2.1 hdg ht (fun h => kt ?_) (fun h => kf ?_)
  · simp only [e0, e1, e2, e3, e4, ne_eq] at h
    omega
  · simp only [e0, e1, e2, e3, e4, ne_eq] at h
    omega
theorem z_if_le (C : CallFix p m c cc nL s args Ts own) {a : Int} {off : Int} {tgt : Nat} (hdg : decode cc pc = .ok (.ifCond .le off, 3)) (ht : (pc : Int) + off = (tgt : Int)) (r : -2147483648 ≤ a ∧ a < 2147483648)
    (kt : a ≤ 0 → W p l e R s m args below meth c H locs cells slots Q (F0 m tgt ls rest)) (kf : 0 < a → W p l e R s m args below meth c H locs cells slots Q (F0 m (pc + 3) ls rest)) : W p l e R s m args below meth c H locs cells slots Q (F0 m pc ls (.int (iI a) :: rest)) := by
  have r0 : -2147483648 ≤ (0 : Int) ∧ (0 : Int) < 2147483648 := by omega
  have e0 : iI a = (0 : Int32) ↔ a = 0 := iI_eq r r0
  have e1 : iI a ≤ (0 : Int32) ↔ a ≤ 0 := iI_le r r0
  have e2 : (0 : Int32) ≤ iI a ↔ 0 ≤ a := iI_le r0 r
  have e3 : iI a < (0 : Int32) ↔ a < 0 := iI_lt r r0
  have e4 : (0 : Int32) < iI a ↔ 0 < a := iI_lt r0 r
  refine lv_if_le C.1 C.2.1 hdg ht (fun h => kt ?_) (fun h => kf ?_)
  · simp only [e0, e1, e2, e3, e4, ne_eq] at h
    omega
  · simp only [e0, e1, e2, e3, e4, ne_eq] at h
    omega
theorem z_ifb_eq (C : CallFix p m c cc nL s args Ts own) {P : Prop} [Decidable P] {off : Int} {tgt : Nat} (hdg : decode cc pc = .ok (.ifCond .eq off, 3)) (ht : (pc : Int) + off = (tgt : Int))
    (kt : ¬ P → W p l e R s m args below meth c H locs cells slots Q (F0 m tgt ls rest)) (kf : P → W p l e R s m args below meth c H locs cells slots Q (F0 m (pc + 3) ls rest)) : W p l e R s m args below meth c H locs cells slots Q (F0 m pc ls (.int (iI (bI P)) :: rest)) := by
  have hb := bI_le (P := P)
  refine z_if_eq C hdg ht (by omega) (fun h => kt ?_) (fun h => kf ?_)
  · by_cases hP : P
    · first | exact hP | (rw [bI_t hP] at h; omega)
    · first | exact hP | (rw [bI_f hP] at h; omega)
  · by_cases hP : P
    · first | exact hP | (rw [bI_t hP] at h; omega)
    · first | exact hP | (rw [bI_f hP] at h; omega)
theorem z_ifb_ne (C : CallFix p m c cc nL s args Ts own) {P : Prop} [Decidable P] {off : Int} {tgt : Nat} (hdg : decode cc pc = .ok (.ifCond .ne off, 3)) (ht : (pc : Int) + off = (tgt : Int))
    (kt : P → W p l e R s m args below meth c H locs cells slots Q (F0 m tgt ls rest)) (kf : ¬ P → W p l e R s m args below meth c H locs cells slots Q (F0 m (pc + 3) ls rest)) : W p l e R s m args below meth c H locs cells slots Q (F0 m pc ls (.int (iI (bI P)) :: rest)) := by
  have hb := bI_le (P := P)
  refine z_if_ne C hdg ht (by omega) (fun h => kt ?_) (fun h => kf ?_)
  · by_cases hP : P
    · first | exact hP | (rw [bI_t hP] at h; omega)
    · first | exact hP | (rw [bI_f hP] at h; omega)
  · by_cases hP : P
    · first | exact hP | (rw [bI_t hP] at h; omega)
    · first | exact hP | (rw [bI_f hP] at h; omega)
variable {cy cs : ClassId}
theorem z_iald (C : CallFix p m c cc nL s args Ts own) (w : Wd D (zT cy cs) A H0 s ws H locs) (q0 : Nat) {a n : Nat} {f : Int → Int} (he : ws[q0]? = some (zA cy a n f)) {i : Int} (hi : 0 ≤ i ∧ i < (n : Int)) (hn : n < 2147483648) (hdg : decode cc pc = .ok (.iaload, 1))
    (k : W p l e R s m args below meth c H locs cells slots Q (F0 m (pc + 1) ls (.int (iI (f i)) :: rest))) : W p l e R s m args below meth c H locs cells slots Q (F0 m pc ls (.int (iI i) :: .ref a :: rest)) := by
  have e0 : iI (f (((iI i).toNatClampNeg : Nat) : Int)) = iI (f i) := by rw [(iI_idx hi.1 hi.2 hn).2, Int.toNat_of_nonneg hi.1]
  refine va_iald (f := fun j : Nat => iI (f (j : Int))) C.1 C.2.1 w.2.2.2 w.1 q0 0 he rfl (iI_idx hi.1 hi.2 hn).1 hdg ?_
  show W p l e R s m args below meth c H locs cells slots Q (F0 m (pc + 1) ls (.int (iI (f (((iI i).toNatClampNeg : Nat) : Int))) :: rest))
  rw [e0]
  exact k
theorem z_iast (C : CallFix p m c cc nL s args Ts own) (w : Wd D (zT cy cs) A H0 s ws H locs) (q0 : Nat) {a n : Nat} {f : Int → Int} (he : ws[q0]? = some (zA cy a n f)) {i x : Int} (hi : 0 ≤ i ∧ i < (n : Int)) (hn : n < 2147483648) (hs : ws.set q0 (zA cy a n (uZ f i x)) = ws2) (hdg : decode cc pc = .ok (.iastore, 1))
    (k : ∀ (H : Heap) (locs : List Loc), Wd D (zT cy cs) A H0 s ws2 H locs → W p l e R s m args below meth c H locs cells slots Q (F0 m (pc + 1) ls rest)) : W p l e R s m args below meth c H locs cells slots Q (F0 m pc ls (.int (iI x) :: .int (iI i) :: .ref a :: rest)) := by
  have e0 : ((a, .inl (cy, n, .inl (upd (fun j : Nat => iI (f (j : Int))) (iI i).toNatClampNeg (iI x)))) : Nat × va_E) = zA cy a n (uZ f i x) := by
    unfold zA
    rw [(iI_idx hi.1 hi.2 hn).2, uZ_upd f hi.1 x]
  refine va_iast (f := fun j : Nat => iI (f (j : Int))) C.1 C.2.1 w.2.2.2 w.1 w.2.1 w.2.2.1 q0 0 he rfl (iI_idx hi.1 hi.2 hn).1 hdg (fun H1 locs1 hP hD hS => k H1 locs1 ⟨?_, ?_, hS, w.2.2.2⟩)
  · rw [e0, hs] at hP
    exact hP
  · rw [e0, hs] at hD
    exact hD
theorem z_alen (C : CallFix p m c cc nL s args Ts own) (w : Wd D (zT cy cs) A H0 s ws H locs) (q0 : Nat) {a n : Nat} {f : Int → Int} (he : ws[q0]? = some (zA cy a n f)) (hdg : decode cc pc = .ok (.arraylength, 1))
    (k : W p l e R s m args below meth c H locs cells slots Q (F0 m (pc + 1) ls (.int (iI (n : Int)) :: rest))) : W p l e R s m args below meth c H locs cells slots Q (F0 m pc ls (.ref a :: rest)) :=
  va_alen C.1 C.2.1 w.2.2.2 w.1 q0 0 he rfl (iI_nI n) hdg k
theorem z_get (C : CallFix p m c cc nL s args Ts own) (w : Wd D T A H0 s ws H locs) {Cn ref : String} {TT : u_T} {N ci index : Nat} (hin : ∀ w ∈ u_ws Cn TT N, w ∈ Ts) (q0 : Nat) {a : Nat} {fs : List Value} (he : ws[q0]? = some (zO a ci fs)) (hc : vwCl[ci]? = some (Cn, TT, N)) (k0 : Nat) (hk : k0 < N) (hlink : (Cond.fieldLink own index ref (TT k0).2.1 (TT k0).2.2.1).before args s = true) (hsame : ∀ x, s.fieldFound? (TT k0).1 (TT k0).2.1 (TT k0).2.2.1 = some x → s.fieldFound? ref (TT k0).2.1 (TT k0).2.2.1 = some x) {v : Value} (hv : fs[k0]? = some v) (hdg : decode cc pc = .ok (.getfield index, 3))
    (k : W p l e R s m args below meth c H locs cells slots Q (F0 m (pc + 3) ls (v :: rest))) : W p l e R s m args below meth c H locs cells slots Q (F0 m pc ls (.ref a :: rest)) :=
  va_get C.1 C.2.1 C.2.2.2.2 hin C.2.2.2.1 w.2.2.2 w.1 q0 he hc k0 hk hlink hsame hv hdg k
theorem z_put (C : CallFix p m c cc nL s args Ts own) (w : Wd D T A H0 s ws H locs) {Cn ref : String} {TT : u_T} {N ci index : Nat} (hin : ∀ w ∈ u_ws Cn TT N, w ∈ Ts) (ty0 : Nat → FieldType) (hty : ∀ k, k < N → parseFieldDescriptor (TT k).2.2.1 = some (ty0 k)) (hnm : ∀ a, a < N → ∀ b, b < N → a ≠ b → (TT a).2.1 ≠ (TT b).2.1) (q0 : Nat) {a : Nat} {fs : List Value} (he : ws[q0]? = some (zO a ci fs)) (hc : vwCl[ci]? = some (Cn, TT, N)) (k0 : Nat) (hk : k0 < N) (hlink : (Cond.fieldLink own index ref (TT k0).2.1 (TT k0).2.2.1).before args s = true) (hsame : ∀ x, s.fieldFound? (TT k0).1 (TT k0).2.1 (TT k0).2.2.1 = some x → s.fieldFound? ref (TT k0).2.1 (TT k0).2.2.1 = some x) (hfin : (TT k0).2.2.2 = false) {ty : FieldType} {v : Value} (hd : parseFieldDescriptor (TT k0).2.2.1 = some ty) (hn : narrow ty v = v) (hfit : fits ty v = true) (hl : k0 < fs.length) (hs : ws.set q0 (zO a ci (fs.set k0 v)) = ws2)
    (hdg : decode cc pc = .ok (.putfield index, 3)) (k : ∀ (H : Heap) (locs : List Loc), Wd D T A H0 s ws2 H locs → W p l e R s m args below meth c H locs cells slots Q (F0 m (pc + 3) ls rest)) : W p l e R s m args below meth c H locs cells slots Q (F0 m pc ls (v :: .ref a :: rest)) :=
  va_put C.1 C.2.1 C.2.2.2.2 hin ty0 hty hnm C.2.2.2.1 w.2.2.2 w.1 w.2.1 w.2.2.1 q0 he hc k0 hk hlink hsame hfin hd hn hfit hl hdg (fun H1 locs1 hP hD hS => k H1 locs1 ⟨by rw [← hs]; exact hP, by rw [← hs]; exact hD, hS, w.2.2.2⟩)
theorem z_putF (C : CallFix p m c cc nL s args Ts own) (w : Wd D T A H0 s ws H locs) {Cn ref : String} {TT : u_T} {N ci index : Nat} (hin : ∀ w ∈ u_ws Cn TT N, w ∈ Ts) (ty0 : Nat → FieldType) (hty : ∀ k, k < N → parseFieldDescriptor (TT k).2.2.1 = some (ty0 k)) (hnm : ∀ a, a < N → ∀ b, b < N → a ≠ b → (TT a).2.1 ≠ (TT b).2.1) (q0 : Nat) {a : Nat} {fs : List Value} (he : ws[q0]? = some (zO a ci fs)) (hc : vwCl[ci]? = some (Cn, TT, N)) (k0 : Nat) (hk : k0 < N) (hlink : (Cond.fieldLink own index ref (TT k0).2.1 (TT k0).2.2.1).before args s = true) (hsame : ∀ x, s.fieldFound? (TT k0).1 (TT k0).2.1 (TT k0).2.2.1 = some x → s.fieldFound? ref (TT k0).2.1 (TT k0).2.2.1 = some x) (hfin : (TT k0).2.2.2 = true) (hin2 : meth.name = "<init>") (hdecl : (TT k0).1 = own) {ty : FieldType} {v : Value} (hd : parseFieldDescriptor (TT k0).2.2.1 = some ty) (hn : narrow ty v = v) (hfit : fits ty v = true) (hl : k0 < fs.length) (hs : ws.set q0 (zO a ci (fs.set k0 v)) = ws2)
    (hdg : decode cc pc = .ok (.putfield index, 3)) (k : ∀ (H : Heap) (locs : List Loc), Wd D T A H0 s ws2 H locs → W p l e R s m args below meth c H locs cells slots Q (F0 m (pc + 3) ls rest)) : W p l e R s m args below meth c H locs cells slots Q (F0 m pc ls (v :: .ref a :: rest)) :=
  va_putF C.1 C.2.1 C.2.2.2.2 hin ty0 hty hnm C.2.2.2.1 w.2.2.2 w.1 w.2.1 w.2.2.1 q0 he hc k0 hk hlink hsame hfin hin2 hdecl hd hn hfit hl hdg (fun H1 locs1 hP hD hS => k H1 locs1 ⟨by rw [← hs]; exact hP, by rw [← hs]; exact hD, hS, w.2.2.2⟩)
theorem z_cell (w : Wd D (zT cy cs) A H0 s ws H locs) (q0 : Nat) {a n : Nat} {f g : Int → Int} (he : ws[q0]? = some (zA cy a n f)) (e : ∀ k : Int, 0 ≤ k → k < n → f k = g k) (hs : ws.set q0 (zA cy a n g) = ws2) : Wd D (zT cy cs) A H0 s ws2 H locs := by
  have h1 : (a, (zA cy a n g).2) = zA cy a n g := rfl
  have h2 := w.1.set (e := (zA cy a n g).2) w.2.1 he (zA_at (w.1 q0 _ he) e) (fun _ _ => rfl)
  have h3 := w.2.1.set (e := (zA cy a n g).2) he
  rw [h1, hs] at h2 h3
  exact ⟨h2, h3, w.2.2.1, w.2.2.2⟩
end ZR
/-! contracts -/
def zPre (D : va_G) (T : List (ClassId × FieldType)) (ws : va_W) (sz : Nat) : State → Prop := fun U => U.heap.size = sz ∧ va_P D vwCl ws U.heap ∧ va_K D vwCl T U ∧ va_D (fun _ => True) ws
def zQ (D : va_G) (T : List (ClassId × FieldType)) (A : Nat → Prop) (ws : va_W) : State → Prop := fun t => va_P D vwCl ws t.heap ∧ va_K D vwCl T t ∧ va_D A ws
def zCi (l : Launch) (D : va_G) (T : List (ClassId × FieldType)) (y : MethodName) (wl : List Cond) (rm : Room) (av : List Value) (ws : va_W) (res : Int) (ws' : va_W) : Prop :=
  ∀ sz : Nat, Met l y wl rm (va_Pc av (zPre D T ws sz)) (va_Qi (fun r (_ : Unit) => r = iI res) (fun _ t => zQ D T (va_A ws sz) ws' t) (va_A ws sz)) 0 0 (va_A ws sz)
def zCl (l : Launch) (D : va_G) (T : List (ClassId × FieldType)) (y : MethodName) (wl : List Cond) (rm : Room) (av : List Value) (ws : va_W) (res : Int) (ws' : va_W) : Prop :=
  ∀ sz : Nat, Met l y wl rm (va_Pc av (zPre D T ws sz)) (va_Ql (fun r (_ : Unit) => r = lI res) (fun _ t => zQ D T (va_A ws sz) ws' t) (va_A ws sz)) 0 0 (va_A ws sz)
def zCv (l : Launch) (D : va_G) (T : List (ClassId × FieldType)) (y : MethodName) (wl : List Cond) (rm : Room) (av : List Value) (ws : va_W) (ws' : va_W) : Prop :=
  ∀ sz : Nat, Met l y wl rm (va_Pc av (zPre D T ws sz)) (va_Qv (fun (_ : Unit) => True) (fun _ t => zQ D T (va_A ws sz) ws' t) (va_A ws sz)) 0 0 (va_A ws sz)
section ZM
variable {l : Launch} {D : va_G} {T : List (ClassId × FieldType)} {y : MethodName} {wl wl' : List Cond} {rm : Room} {av : List Value} {ws ws' : va_W} {res : Int} {cc : ByteArray} {maxL : Nat} {ret : Option FieldType} {own : String} {lv : List (Nat × Value)}
theorem zM_mk {Qc : Nat → Array Value → State → Outcome → State → Prop} {mc ms : Nat} (hy : plainName y.cls = true) (hw : wl = Cond.code y cc maxL ret :: wl') (ho : y.cls = own) (hn : (lg_sl av).length ≤ maxL) (ha : lv_args 0 av = lv) (sz : Nat)
    (body : ∀ (p : Program) (e : Env) (s : State) (m : MethodId) (args : Array Value) (below : List Frame) (meth : Method) (c : Code) (ls : Array Slot), CallFix p m c cc maxL s args wl own → meth.sig.returnType = ret → meth.locks = false → meth.name = y.name → lv_has ls maxL lv → s.heap.size = sz → (∀ q, s.heap.size ≤ q → va_A ws sz q) → Wd D T (va_A ws sz) s.heap s ws s.heap [] →
      W p l e rm s m args below meth c s.heap [] 0 0 (MQ below (Qc sz) args s mc ms (va_A ws sz)) (F0 m 0 ls [])) : Met l y wl rm (va_Pc av (zPre D T ws sz)) (Qc sz) mc ms (va_A ws sz) := by
  refine Met.ofW (cc := cc) (maxL := maxL) (ret := ret) hy hw ?_
  intro p e s m args below meth c s₁ B hml hv
  obtain ⟨rfl, hsz, hP, hK, hD0⟩ := hv
  have hts := atoms_spec (ws := wl) B.pre
  have hown : s.vm.findClass own = some m.cls := by rw [← ho]; exact findClass_of_methodNamed B.named
  have hl := lv_entry av (n := maxL) hn
  rw [lg_entry_eq]
  rw [ha] at hl
  exact body p e s m _ below meth c _ ⟨B.exec, B.bytes, hml, hown, hts⟩ B.returns B.notSynchronized (name_of_methodNamed B.named B.method).1 hl hsz (fun q h => Or.inr (by omega)) ⟨hP, hD0.self, va_S.rf, hK⟩
end ZM
end
section
def ZR (ws : va_W) (is : List Nat) (qs ws2 : va_W) : Prop := is.map (fun i => ws2[i]?) = qs.map some ∧ ∃ (isR : List Nat) (wr : va_W) (n : Nat), isR.map (fun i => ws2[i]?) = wr.map some ∧ isR.map (fun i => ws[i]?) = wr.map some ∧ ws2.length = n ∧ (List.range n).all (fun k => is.contains k || isR.contains k) = true
theorem ZR_get {ws qs ws2 : va_W} {is : List Nat} (h : ZR ws is qs ws2) (k : Nat) (q : Nat × va_E) (hk : ws2[k]? = some q) : (∃ j : Nat, is[j]? = some k ∧ qs[j]? = some q) ∨ (ws[k]? = some q ∧ k ∉ is) := by
  obtain ⟨h1, isR, wr, n, h2a, h2b, h3, h4⟩ := h
  have h2 := h2a.trans h2b.symm
  by_cases hm : k ∈ is
  · obtain ⟨j, hj⟩ := List.getElem?_of_mem hm
    refine Or.inl ⟨j, hj, ?_⟩
    have e1 : (is.map (fun i => ws2[i]?))[j]? = some (some q) := by rw [List.getElem?_map, hj]; simp [hk]
    rw [h1, List.getElem?_map] at e1
    cases hq : qs[j]? with
    | none => rw [hq] at e1; cases e1
    | some x => rw [hq] at e1; simpa using e1
  · refine Or.inr ⟨?_, hm⟩
    have hlt : k < n := by rw [← h3]; exact (List.getElem?_eq_some_iff.mp hk).1
    have h5 := List.all_eq_true.mp h4 k (List.mem_range.mpr hlt)
    simp at h5
    have hr : k ∈ isR := h5.resolve_left hm
    obtain ⟨j, hj⟩ := List.getElem?_of_mem hr
    have e1 : (isR.map (fun i => ws2[i]?))[j]? = some (some q) := by rw [List.getElem?_map, hj]; simp [hk]
    rw [h2, List.getElem?_map, hj] at e1
    simpa using e1
theorem ZR_adr {ws wc qs ws2 : va_W} {is : List Nat} (hR : ZR ws is qs ws2) (hC : is.map (fun i => ws[i]?) = wc.map some) (ha : qs.map Prod.fst = wc.map Prod.fst) (k : Nat) (q : Nat × va_E) (h : ws2[k]? = some q) : ∃ q0 : Nat × va_E, ws[k]? = some q0 ∧ q0.1 = q.1 := by
  rcases ZR_get hR k q h with ⟨j, h1, h2⟩ | ⟨h1, -⟩
  · have e1 : (qs.map Prod.fst)[j]? = some q.1 := by simp [h2]
    rw [ha, List.getElem?_map] at e1
    cases hw : wc[j]? with
    | none => rw [hw] at e1; cases e1
    | some qq =>
      rw [hw] at e1
      obtain ⟨i, hi, hq⟩ := z_map hC j qq hw
      rw [h1] at hi
      cases hi
      exact ⟨qq, hq, by simpa using e1⟩
  · exact ⟨q, h1, rfl⟩
theorem ZR_P {D : va_G} {cl : List vw_C} {A : Nat → Prop} {ws wc qs ws2 : va_W} {is : List Nat} {H H1 : Heap} (hR : ZR ws is qs ws2) (hP : va_P D cl ws H) (hD : va_D A ws) (hC : is.map (fun i => ws[i]?) = wc.map some) (ha : qs.map Prod.fst = wc.map Prod.fst) (hP1 : va_P D cl qs H1) (hk : ∀ q : Nat, q < H.size → ¬ va_A wc H.size q → H1[q]? = H[q]?) : va_P D cl ws2 H1 ∧ va_D A ws2 := by
  refine ⟨fun k q h => ?_, fun i j p q hi hj e => ?_, fun k q h => ?_⟩
  · rcases ZR_get hR k q h with ⟨j, h1, h2⟩ | ⟨h1, h2⟩
    · exact hP1 j q h2
    · have hlt := (hP k q h1).lt
      refine (hP k q h1).kept (hk q.1 hlt ?_)
      rintro (⟨j, e, he⟩ | hge)
      · obtain ⟨i, hi, hq⟩ := z_map hC j _ he
        have hik : i = k := hD.1 i k _ _ hq h1 rfl
        subst hik
        exact h2 (List.mem_of_getElem? hi)
      · omega
  · obtain ⟨p0, hp0, e1⟩ := ZR_adr hR hC ha i p hi
    obtain ⟨q0, hq0, e2⟩ := ZR_adr hR hC ha j q hj
    exact hD.1 i j p0 q0 hp0 hq0 (by rw [e1, e2, e])
  · obtain ⟨q0, hq0, e⟩ := ZR_adr hR hC ha k q h
    rw [← e]
    exact hD.2 k q0 hq0
section ZK
variable {p : Program} {l : Launch} {e : Env} {R : Room} {s : State} {m : MethodId} {args : Array Value} {below : List Frame} {meth : Method} {c : Code} {H : Heap} {locs : List Loc} {cells slots : Nat} {Q : State → Prop} {cc : ByteArray} {nL : Nat} {Ts : List Cond} {own : String}
variable {pc : Nat} {ls : Array Slot} {rest st : List Value} {D : va_G} {T : List (ClassId × FieldType)} {A : Nat → Prop} {ws ws2 wc wc' wsF : va_W}
theorem zQ_of (w : Wd D T A s.heap s wsF H locs) {t : State} (ht : t.heap = H) (hW : s.WarmedH t.vm) : zQ D T A wsF t := ⟨by rw [ht]; exact w.1, va_K.moved hW.alike w.2.2.2, w.2.1⟩
theorem z_iret (C : CallFix p m c cc nL s args Ts own) (hr : meth.sig.returnType = some .int) (hlk : meth.locks = false) {v res : Int} (w : Wd D T A s.heap s wsF H locs) (hv : v = res) (hdg : decode cc pc = .ok (.ireturn, 1)) :
    W p l e R s m args below meth c H locs cells slots (MQ below (va_Qi (fun r (_ : Unit) => r = iI res) (fun _ t => zQ D T A wsF t) A) args s cells slots A) (F0 m pc ls [.int (iI v)]) := by
  subst hv
  exact W.iret C.1 C.2.1 hr (fun t ht hW => ⟨⟨iI v, (), rfl, rfl, zQ_of w ht hW⟩, w.2.2.1.F ht⟩) w.2.2.1.2.2 hdg hlk
theorem z_bnar {v : Int} (h : v = 0 ∨ v = 1) : narrow .boolean (.int (iI v)) = .int (iI v) := by
  rcases h with rfl | rfl <;> rfl
theorem z_bfit {v : Int} (h : v = 0 ∨ v = 1) : fits .boolean (.int (iI v)) = true := by
  rcases h with rfl | rfl <;> rfl
theorem z_zret (C : CallFix p m c cc nL s args Ts own) (hr : meth.sig.returnType = some .boolean) (hlk : meth.locks = false) {v res : Int} (h01 : v = 0 ∨ v = 1) (w : Wd D T A s.heap s wsF H locs) (hv : v = res) (hdg : decode cc pc = .ok (.ireturn, 1)) :
    W p l e R s m args below meth c H locs cells slots (MQ below (va_Qi (fun r (_ : Unit) => r = iI res) (fun _ t => zQ D T A wsF t) A) args s cells slots A) (F0 m pc ls [.int (iI v)]) := by
  have h1 := z_bnar h01
  subst hv
  exact W.zret C.1 C.2.1 hr h1 (fun t ht hW => ⟨⟨iI v, (), rfl, rfl, zQ_of w ht hW⟩, w.2.2.1.F ht⟩) w.2.2.1.2.2 hdg hlk
theorem z_lret (C : CallFix p m c cc nL s args Ts own) (hr : meth.sig.returnType = some .long) (hlk : meth.locks = false) {v res : Int} (w : Wd D T A s.heap s wsF H locs) (hv : v = res) (hdg : decode cc pc = .ok (.lreturn, 1)) :
    W p l e R s m args below meth c H locs cells slots (MQ below (va_Ql (fun r (_ : Unit) => r = lI res) (fun _ t => zQ D T A wsF t) A) args s cells slots A) (F0 m pc ls [.long (lI v)]) := by
  subst hv
  exact W.lret C.1 C.2.1 hr (fun t ht hW => ⟨⟨lI v, (), rfl, rfl, zQ_of w ht hW⟩, w.2.2.1.F ht⟩) w.2.2.1.2.2 hdg hlk
theorem z_vret (C : CallFix p m c cc nL s args Ts own) (hr : meth.sig.returnType = none) (hlk : meth.locks = false) (w : Wd D T A s.heap s wsF H locs) (hdg : decode cc pc = .ok (.return_, 1)) :
    W p l e R s m args below meth c H locs cells slots (MQ below (va_Qv (fun (_ : Unit) => True) (fun _ t => zQ D T A wsF t) A) args s cells slots A) (F0 m pc ls []) :=
  W.vret C.1 C.2.1 hr (fun t ht hW => ⟨⟨(), rfl, trivial, zQ_of w ht hW⟩, w.2.2.1.F ht⟩) w.2.2.1.2.2 hdg hlk
theorem z_blind {av : List Value} {sz : Nat} : FrameBlind (va_Pc av (zPre D T wc sz)) := fun a U g mk q => by
  obtain ⟨q0, q1, qP, qK, qD⟩ := q
  exact ⟨q0, q1, qP, va_K.moved (u := U) (U := U.calling g mk a) (Vm.Alike.refl U.vm) qK, qD⟩
theorem z_pre {av : List Value} (w : Wd D T A s.heap s ws H locs) {is : List Nat} (hC : is.map (fun i => ws[i]?) = wc.map some) (hn : va_nd is = true) (U : State) (hU : U.heap = H) (hW : s.WarmedH U.vm) : va_Pc av (zPre D T wc H.size) av.toArray U :=
  ⟨rfl, by rw [hU], by rw [hU]; exact w.1.sub is (z_fm hC), va_K.moved hW.alike w.2.2.2, (w.2.1.sub is hn hC).weaken (fun _ _ _ _ => trivial)⟩
theorem z_back (w : Wd D T A s.heap s ws H locs) {is : List Nat} {A1 : Nat → Prop} (hC : is.map (fun i => ws[i]?) = wc.map some) (ha : wc'.map Prod.fst = wc.map Prod.fst) (hs : ZR ws is wc' ws2) {t : State} {H1 : Heap} {locs1 : List Loc} (ht : t.heap = H1) (hB : zQ D T A1 wc' t) (hk : ∀ q : Nat, q < H.size → ¬ va_A wc H.size q → H1[q]? = H[q]?) (hS : va_S A s.heap H1 locs1) : Wd D T A s.heap s ws2 H1 locs1 := by
  obtain ⟨hP1, hK1, hD1⟩ := hB
  rw [ht] at hP1
  obtain ⟨h1, h2⟩ := ZR_P hs w.1 w.2.1 hC ha hP1 hk
  exact ⟨h1, h2, hS, w.2.2.2⟩
theorem z_cvi (C : CallFix p m c cc nL s args Ts own) (w : Wd D T A s.heap s ws H locs) (hA : ∀ q, s.heap.size ≤ q → A q) {y : MethodName} {wl : List Cond} {rm : Room} {b : Nat} {As : List Value} {res : Int} {Cn : String} {TT : u_T} {N ci index n maxL : Nat} {fs : List Value} {bytes : ByteArray} {ret : Option FieldType}
    (hM : zCi l D T y wl rm (.ref b :: As) wc res wc') (cw : CallW R s args own Cn index y bytes maxL ret wl rm 0 0 n) (is : List Nat) (hC : is.map (fun i => ws[i]?) = wc.map some) (hn : va_nd is = true) (ha : wc'.map Prod.fst = wc.map Prod.fst) (hs : ZR ws is wc' ws2) (he : wc[0]? = some (zO b ci fs)) (hc : vwCl[ci]? = some (Cn, TT, N)) (hlen : As.length = n) (hst : st = As.reverse ++ .ref b :: rest) (hcat : (rest.map fun v => v.category).sum ≤ 8) (hsz : ls.size = nL) (hdg : decode cc pc = .ok (.invokevirtual index, 3)) (hroom : cells ≤ R.cells ∧ slots ≤ R.slots)
    (k : ∀ (H : Heap) (locs : List Loc), Wd D T A s.heap s ws2 H locs → W p l e R s m args below meth c H locs cells slots Q (F0 m (pc + 3) ls (.int (iI res) :: rest))) : W p l e R s m args below meth c H locs cells slots Q (F0 m pc ls st) := by
  have hF := va_free w.2.1 w.2.2.1 hA is hC
  refine va_calli (va_runV (As := As) (rest := rest) C (hM H.size) cw ⟨z_blind, va_recv w.2.2.2 (w.1.sub is (z_fm hC)) (ci := ci) (q0 := 0) hc he, fun U hU hW => z_pre w hC hn U hU hW⟩ rfl hlen hsz hst (lv_room hcat) hdg hroom) w.2.2.1 (fun q _ h => hF q h) hF (fun r u t H1 locs1 ht hvm hw hB hz1 hk1 hS => ?_)
  subst hw
  exact k H1 locs1 (z_back w hC ha hs ht hB hk1 hS)
theorem z_cvl (C : CallFix p m c cc nL s args Ts own) (w : Wd D T A s.heap s ws H locs) (hA : ∀ q, s.heap.size ≤ q → A q) {y : MethodName} {wl : List Cond} {rm : Room} {b : Nat} {As : List Value} {res : Int} {Cn : String} {TT : u_T} {N ci index n maxL : Nat} {fs : List Value} {bytes : ByteArray} {ret : Option FieldType}
    (hM : zCl l D T y wl rm (.ref b :: As) wc res wc') (cw : CallW R s args own Cn index y bytes maxL ret wl rm 0 0 n) (is : List Nat) (hC : is.map (fun i => ws[i]?) = wc.map some) (hn : va_nd is = true) (ha : wc'.map Prod.fst = wc.map Prod.fst) (hs : ZR ws is wc' ws2) (he : wc[0]? = some (zO b ci fs)) (hc : vwCl[ci]? = some (Cn, TT, N)) (hlen : As.length = n) (hst : st = As.reverse ++ .ref b :: rest) (hcat : (rest.map fun v => v.category).sum ≤ 8) (hsz : ls.size = nL) (hdg : decode cc pc = .ok (.invokevirtual index, 3)) (hroom : cells ≤ R.cells ∧ slots ≤ R.slots)
    (k : ∀ (H : Heap) (locs : List Loc), Wd D T A s.heap s ws2 H locs → W p l e R s m args below meth c H locs cells slots Q (F0 m (pc + 3) ls (.long (lI res) :: rest))) : W p l e R s m args below meth c H locs cells slots Q (F0 m pc ls st) := by
  have hF := va_free w.2.1 w.2.2.1 hA is hC
  refine va_calll (va_runV (As := As) (rest := rest) C (hM H.size) cw ⟨z_blind, va_recv w.2.2.2 (w.1.sub is (z_fm hC)) (ci := ci) (q0 := 0) hc he, fun U hU hW => z_pre w hC hn U hU hW⟩ rfl hlen hsz hst (lv_room hcat) hdg hroom) w.2.2.1 (fun q _ h => hF q h) hF (fun r u t H1 locs1 ht hvm hw hB hz1 hk1 hS => ?_)
  subst hw
  exact k H1 locs1 (z_back w hC ha hs ht hB hk1 hS)
theorem z_cvv (C : CallFix p m c cc nL s args Ts own) (w : Wd D T A s.heap s ws H locs) (hA : ∀ q, s.heap.size ≤ q → A q) {y : MethodName} {wl : List Cond} {rm : Room} {b : Nat} {As : List Value} {Cn : String} {TT : u_T} {N ci index n maxL : Nat} {fs : List Value} {bytes : ByteArray} {ret : Option FieldType}
    (hM : zCv l D T y wl rm (.ref b :: As) wc wc') (cw : CallW R s args own Cn index y bytes maxL ret wl rm 0 0 n) (is : List Nat) (hC : is.map (fun i => ws[i]?) = wc.map some) (hn : va_nd is = true) (ha : wc'.map Prod.fst = wc.map Prod.fst) (hs : ZR ws is wc' ws2) (he : wc[0]? = some (zO b ci fs)) (hc : vwCl[ci]? = some (Cn, TT, N)) (hlen : As.length = n) (hst : st = As.reverse ++ .ref b :: rest) (hcat : (rest.map fun v => v.category).sum ≤ 8) (hsz : ls.size = nL) (hdg : decode cc pc = .ok (.invokevirtual index, 3)) (hroom : cells ≤ R.cells ∧ slots ≤ R.slots)
    (k : ∀ (H : Heap) (locs : List Loc), Wd D T A s.heap s ws2 H locs → W p l e R s m args below meth c H locs cells slots Q (F0 m (pc + 3) ls rest)) : W p l e R s m args below meth c H locs cells slots Q (F0 m pc ls st) := by
  have hF := va_free w.2.1 w.2.2.1 hA is hC
  refine va_callv (va_runV (As := As) (rest := rest) C (hM H.size) cw ⟨z_blind, va_recv w.2.2.2 (w.1.sub is (z_fm hC)) (ci := ci) (q0 := 0) hc he, fun U hU hW => z_pre w hC hn U hU hW⟩ rfl hlen hsz hst (lv_room hcat) hdg hroom) w.2.2.1 (fun q _ h => hF q h) hF (fun u t H1 locs1 ht hvm hw hB hz1 hk1 hS => ?_)
  exact k H1 locs1 (z_back w hC ha hs ht hB hk1 hS)
theorem z_csi (C : CallFix p m c cc nL s args Ts own) (w : Wd D T A s.heap s ws H locs) (hA : ∀ q, s.heap.size ≤ q → A q) {y : MethodName} {wl : List Cond} {rm : Room} {As : List Value} {res : Int} {index n maxL : Nat} {bytes : ByteArray} {ret : Option FieldType}
    (hM : zCi l D T y wl rm As wc res wc') (cw : CallB R s args own index y bytes maxL ret wl rm 0 0 n ∧ (Cond.static y).before args s = true) (is : List Nat) (hC : is.map (fun i => ws[i]?) = wc.map some) (hn : va_nd is = true) (ha : wc'.map Prod.fst = wc.map Prod.fst) (hs : ZR ws is wc' ws2) (hlen : As.length = n) (hst : st = As.reverse ++ rest) (hcat : (rest.map fun v => v.category).sum ≤ 8) (hsz : ls.size = nL) (hdg : decode cc pc = .ok (.invokestatic index, 3)) (hroom : cells ≤ R.cells ∧ slots ≤ R.slots)
    (k : ∀ (H : Heap) (locs : List Loc), Wd D T A s.heap s ws2 H locs → W p l e R s m args below meth c H locs cells slots Q (F0 m (pc + 3) ls (.int (iI res) :: rest))) : W p l e R s m args below meth c H locs cells slots Q (F0 m pc ls st) := by
  have hF := va_free w.2.1 w.2.2.1 hA is hC
  refine va_calli (va_runS (As := As) (rest := rest) C (hM H.size) cw ⟨z_blind, fun U hU hW => z_pre w hC hn U hU hW⟩ rfl hlen hsz hst (lv_room hcat) hdg hroom) w.2.2.1 (fun q _ h => hF q h) hF (fun r u t H1 locs1 ht hvm hw hB hz1 hk1 hS => ?_)
  subst hw
  exact k H1 locs1 (z_back w hC ha hs ht hB hk1 hS)
theorem z_csv (C : CallFix p m c cc nL s args Ts own) (w : Wd D T A s.heap s ws H locs) (hA : ∀ q, s.heap.size ≤ q → A q) {y : MethodName} {wl : List Cond} {rm : Room} {As : List Value} {index n maxL : Nat} {bytes : ByteArray} {ret : Option FieldType}
    (hM : zCv l D T y wl rm As wc wc') (cw : CallB R s args own index y bytes maxL ret wl rm 0 0 n ∧ (Cond.static y).before args s = true) (is : List Nat) (hC : is.map (fun i => ws[i]?) = wc.map some) (hn : va_nd is = true) (ha : wc'.map Prod.fst = wc.map Prod.fst) (hs : ZR ws is wc' ws2) (hlen : As.length = n) (hst : st = As.reverse ++ rest) (hcat : (rest.map fun v => v.category).sum ≤ 8) (hsz : ls.size = nL) (hdg : decode cc pc = .ok (.invokestatic index, 3)) (hroom : cells ≤ R.cells ∧ slots ≤ R.slots)
    (k : ∀ (H : Heap) (locs : List Loc), Wd D T A s.heap s ws2 H locs → W p l e R s m args below meth c H locs cells slots Q (F0 m (pc + 3) ls rest)) : W p l e R s m args below meth c H locs cells slots Q (F0 m pc ls st) := by
  have hF := va_free w.2.1 w.2.2.1 hA is hC
  refine va_callv (va_runS (As := As) (rest := rest) C (hM H.size) cw ⟨z_blind, fun U hU hW => z_pre w hC hn U hU hW⟩ rfl hlen hsz hst (lv_room hcat) hdg hroom) w.2.2.1 (fun q _ h => hF q h) hF (fun u t H1 locs1 ht hvm hw hB hz1 hk1 hS => ?_)
  exact k H1 locs1 (z_back w hC ha hs ht hB hk1 hS)
theorem z_topI {x : Int32} {b : Int} (h : x = iI b) (k : W p l e R s m args below meth c H locs cells slots Q (F0 m pc ls (.int (iI b) :: rest))) : W p l e R s m args below meth c H locs cells slots Q (F0 m pc ls (.int x :: rest)) := by
  subst h
  exact k
theorem z_top {a b : Int} (h : a = b) (k : W p l e R s m args below meth c H locs cells slots Q (F0 m pc ls (.int (iI b) :: rest))) : W p l e R s m args below meth c H locs cells slots Q (F0 m pc ls (.int (iI a) :: rest)) := by
  subst h
  exact k
end ZK
section ZL
variable {p : Program} {l : Launch} {e : Env} {R : Room} {s : State} {m : MethodId} {args : Array Value} {below : List Frame} {meth : Method} {c : Code} {H : Heap} {locs : List Loc} {cells slots : Nat} {Q : State → Prop} {cc : ByteArray} {nL : Nat} {Ts : List Cond} {own : String}
variable {pc : Nat} {ls : Array Slot} {D : va_G} {T : List (ClassId × FieldType)} {A : Nat → Prop} {H0 : Heap}
theorem z_loop1 {A1 : Type} {P : A1 → Prop} {mu : A1 → Nat} {ws : A1 → va_W} {lv : A1 → List (Nat × Value)} (x1 : A1) (_ : CallFix p m c cc nL s args Ts own) (h0 : P x1) (w0 : Wd D T A H0 s (ws x1) H locs) (hl0 : lv_has ls nL (lv x1))
    (body : ∀ (x1 : A1), P x1 → (∀ (y1 : A1), P y1 → mu y1 < mu x1 → ∀ (H : Heap) (locs : List Loc) (ls : Array Slot), Wd D T A H0 s (ws y1) H locs → lv_has ls nL (lv y1) → W p l e R s m args below meth c H locs cells slots Q (F0 m pc ls [])) → ∀ (H : Heap) (locs : List Loc) (ls : Array Slot), Wd D T A H0 s (ws x1) H locs → lv_has ls nL (lv x1) → W p l e R s m args below meth c H locs cells slots Q (F0 m pc ls [])) : W p l e R s m args below meth c H locs cells slots Q (F0 m pc ls []) := by
  have key : ∀ (n : Nat) (x1 : A1), mu x1 < n → P x1 → ∀ (H : Heap) (locs : List Loc) (ls : Array Slot), Wd D T A H0 s (ws x1) H locs → lv_has ls nL (lv x1) → W p l e R s m args below meth c H locs cells slots Q (F0 m pc ls []) := by
    intro n
    induction n with
    | zero => intro x1 h; exact absurd h (Nat.not_lt_zero _)
    | succ n ih => intro x1 h hP H locs ls w hl; exact body x1 hP (fun y1 hy hm => ih y1 (by omega) hy) H locs ls w hl
  exact key _ x1 (Nat.lt_succ_self _) h0 H locs ls w0 hl0
theorem z_loop2 {A1 A2 : Type} {P : A1 → A2 → Prop} {mu : A1 → A2 → Nat} {ws : A1 → A2 → va_W} {lv : A1 → A2 → List (Nat × Value)} (x1 : A1) (x2 : A2) (_ : CallFix p m c cc nL s args Ts own) (h0 : P x1 x2) (w0 : Wd D T A H0 s (ws x1 x2) H locs) (hl0 : lv_has ls nL (lv x1 x2))
    (body : ∀ (x1 : A1) (x2 : A2), P x1 x2 → (∀ (y1 : A1) (y2 : A2), P y1 y2 → mu y1 y2 < mu x1 x2 → ∀ (H : Heap) (locs : List Loc) (ls : Array Slot), Wd D T A H0 s (ws y1 y2) H locs → lv_has ls nL (lv y1 y2) → W p l e R s m args below meth c H locs cells slots Q (F0 m pc ls [])) → ∀ (H : Heap) (locs : List Loc) (ls : Array Slot), Wd D T A H0 s (ws x1 x2) H locs → lv_has ls nL (lv x1 x2) → W p l e R s m args below meth c H locs cells slots Q (F0 m pc ls [])) : W p l e R s m args below meth c H locs cells slots Q (F0 m pc ls []) := by
  have key : ∀ (n : Nat) (x1 : A1) (x2 : A2), mu x1 x2 < n → P x1 x2 → ∀ (H : Heap) (locs : List Loc) (ls : Array Slot), Wd D T A H0 s (ws x1 x2) H locs → lv_has ls nL (lv x1 x2) → W p l e R s m args below meth c H locs cells slots Q (F0 m pc ls []) := by
    intro n
    induction n with
    | zero => intro x1 x2 h; exact absurd h (Nat.not_lt_zero _)
    | succ n ih => intro x1 x2 h hP H locs ls w hl; exact body x1 x2 hP (fun y1 y2 hy hm => ih y1 y2 (by omega) hy) H locs ls w hl
  exact key _ x1 x2 (Nat.lt_succ_self _) h0 H locs ls w0 hl0
theorem z_loop3 {A1 A2 A3 : Type} {P : A1 → A2 → A3 → Prop} {mu : A1 → A2 → A3 → Nat} {ws : A1 → A2 → A3 → va_W} {lv : A1 → A2 → A3 → List (Nat × Value)} (x1 : A1) (x2 : A2) (x3 : A3) (_ : CallFix p m c cc nL s args Ts own) (h0 : P x1 x2 x3) (w0 : Wd D T A H0 s (ws x1 x2 x3) H locs) (hl0 : lv_has ls nL (lv x1 x2 x3))
    (body : ∀ (x1 : A1) (x2 : A2) (x3 : A3), P x1 x2 x3 → (∀ (y1 : A1) (y2 : A2) (y3 : A3), P y1 y2 y3 → mu y1 y2 y3 < mu x1 x2 x3 → ∀ (H : Heap) (locs : List Loc) (ls : Array Slot), Wd D T A H0 s (ws y1 y2 y3) H locs → lv_has ls nL (lv y1 y2 y3) → W p l e R s m args below meth c H locs cells slots Q (F0 m pc ls [])) → ∀ (H : Heap) (locs : List Loc) (ls : Array Slot), Wd D T A H0 s (ws x1 x2 x3) H locs → lv_has ls nL (lv x1 x2 x3) → W p l e R s m args below meth c H locs cells slots Q (F0 m pc ls [])) : W p l e R s m args below meth c H locs cells slots Q (F0 m pc ls []) := by
  have key : ∀ (n : Nat) (x1 : A1) (x2 : A2) (x3 : A3), mu x1 x2 x3 < n → P x1 x2 x3 → ∀ (H : Heap) (locs : List Loc) (ls : Array Slot), Wd D T A H0 s (ws x1 x2 x3) H locs → lv_has ls nL (lv x1 x2 x3) → W p l e R s m args below meth c H locs cells slots Q (F0 m pc ls []) := by
    intro n
    induction n with
    | zero => intro x1 x2 x3 h; exact absurd h (Nat.not_lt_zero _)
    | succ n ih => intro x1 x2 x3 h hP H locs ls w hl; exact body x1 x2 x3 hP (fun y1 y2 y3 hy hm => ih y1 y2 y3 (by omega) hy) H locs ls w hl
  exact key _ x1 x2 x3 (Nat.lt_succ_self _) h0 H locs ls w0 hl0
theorem z_loop4 {A1 A2 A3 A4 : Type} {P : A1 → A2 → A3 → A4 → Prop} {mu : A1 → A2 → A3 → A4 → Nat} {ws : A1 → A2 → A3 → A4 → va_W} {lv : A1 → A2 → A3 → A4 → List (Nat × Value)} (x1 : A1) (x2 : A2) (x3 : A3) (x4 : A4) (_ : CallFix p m c cc nL s args Ts own) (h0 : P x1 x2 x3 x4) (w0 : Wd D T A H0 s (ws x1 x2 x3 x4) H locs) (hl0 : lv_has ls nL (lv x1 x2 x3 x4))
    (body : ∀ (x1 : A1) (x2 : A2) (x3 : A3) (x4 : A4), P x1 x2 x3 x4 → (∀ (y1 : A1) (y2 : A2) (y3 : A3) (y4 : A4), P y1 y2 y3 y4 → mu y1 y2 y3 y4 < mu x1 x2 x3 x4 → ∀ (H : Heap) (locs : List Loc) (ls : Array Slot), Wd D T A H0 s (ws y1 y2 y3 y4) H locs → lv_has ls nL (lv y1 y2 y3 y4) → W p l e R s m args below meth c H locs cells slots Q (F0 m pc ls [])) → ∀ (H : Heap) (locs : List Loc) (ls : Array Slot), Wd D T A H0 s (ws x1 x2 x3 x4) H locs → lv_has ls nL (lv x1 x2 x3 x4) → W p l e R s m args below meth c H locs cells slots Q (F0 m pc ls [])) : W p l e R s m args below meth c H locs cells slots Q (F0 m pc ls []) := by
  have key : ∀ (n : Nat) (x1 : A1) (x2 : A2) (x3 : A3) (x4 : A4), mu x1 x2 x3 x4 < n → P x1 x2 x3 x4 → ∀ (H : Heap) (locs : List Loc) (ls : Array Slot), Wd D T A H0 s (ws x1 x2 x3 x4) H locs → lv_has ls nL (lv x1 x2 x3 x4) → W p l e R s m args below meth c H locs cells slots Q (F0 m pc ls []) := by
    intro n
    induction n with
    | zero => intro x1 x2 x3 x4 h; exact absurd h (Nat.not_lt_zero _)
    | succ n ih => intro x1 x2 x3 x4 h hP H locs ls w hl; exact body x1 x2 x3 x4 hP (fun y1 y2 y3 y4 hy hm => ih y1 y2 y3 y4 (by omega) hy) H locs ls w hl
  exact key _ x1 x2 x3 x4 (Nat.lt_succ_self _) h0 H locs ls w0 hl0
theorem z_loop5 {A1 A2 A3 A4 A5 : Type} {P : A1 → A2 → A3 → A4 → A5 → Prop} {mu : A1 → A2 → A3 → A4 → A5 → Nat} {ws : A1 → A2 → A3 → A4 → A5 → va_W} {lv : A1 → A2 → A3 → A4 → A5 → List (Nat × Value)} (x1 : A1) (x2 : A2) (x3 : A3) (x4 : A4) (x5 : A5) (_ : CallFix p m c cc nL s args Ts own) (h0 : P x1 x2 x3 x4 x5) (w0 : Wd D T A H0 s (ws x1 x2 x3 x4 x5) H locs) (hl0 : lv_has ls nL (lv x1 x2 x3 x4 x5))
    (body : ∀ (x1 : A1) (x2 : A2) (x3 : A3) (x4 : A4) (x5 : A5), P x1 x2 x3 x4 x5 → (∀ (y1 : A1) (y2 : A2) (y3 : A3) (y4 : A4) (y5 : A5), P y1 y2 y3 y4 y5 → mu y1 y2 y3 y4 y5 < mu x1 x2 x3 x4 x5 → ∀ (H : Heap) (locs : List Loc) (ls : Array Slot), Wd D T A H0 s (ws y1 y2 y3 y4 y5) H locs → lv_has ls nL (lv y1 y2 y3 y4 y5) → W p l e R s m args below meth c H locs cells slots Q (F0 m pc ls [])) → ∀ (H : Heap) (locs : List Loc) (ls : Array Slot), Wd D T A H0 s (ws x1 x2 x3 x4 x5) H locs → lv_has ls nL (lv x1 x2 x3 x4 x5) → W p l e R s m args below meth c H locs cells slots Q (F0 m pc ls [])) : W p l e R s m args below meth c H locs cells slots Q (F0 m pc ls []) := by
  have key : ∀ (n : Nat) (x1 : A1) (x2 : A2) (x3 : A3) (x4 : A4) (x5 : A5), mu x1 x2 x3 x4 x5 < n → P x1 x2 x3 x4 x5 → ∀ (H : Heap) (locs : List Loc) (ls : Array Slot), Wd D T A H0 s (ws x1 x2 x3 x4 x5) H locs → lv_has ls nL (lv x1 x2 x3 x4 x5) → W p l e R s m args below meth c H locs cells slots Q (F0 m pc ls []) := by
    intro n
    induction n with
    | zero => intro x1 x2 x3 x4 x5 h; exact absurd h (Nat.not_lt_zero _)
    | succ n ih => intro x1 x2 x3 x4 x5 h hP H locs ls w hl; exact body x1 x2 x3 x4 x5 hP (fun y1 y2 y3 y4 y5 hy hm => ih y1 y2 y3 y4 y5 (by omega) hy) H locs ls w hl
  exact key _ x1 x2 x3 x4 x5 (Nat.lt_succ_self _) h0 H locs ls w0 hl0
theorem z_loop6 {A1 A2 A3 A4 A5 A6 : Type} {P : A1 → A2 → A3 → A4 → A5 → A6 → Prop} {mu : A1 → A2 → A3 → A4 → A5 → A6 → Nat} {ws : A1 → A2 → A3 → A4 → A5 → A6 → va_W} {lv : A1 → A2 → A3 → A4 → A5 → A6 → List (Nat × Value)} (x1 : A1) (x2 : A2) (x3 : A3) (x4 : A4) (x5 : A5) (x6 : A6) (_ : CallFix p m c cc nL s args Ts own) (h0 : P x1 x2 x3 x4 x5 x6) (w0 : Wd D T A H0 s (ws x1 x2 x3 x4 x5 x6) H locs) (hl0 : lv_has ls nL (lv x1 x2 x3 x4 x5 x6))
    (body : ∀ (x1 : A1) (x2 : A2) (x3 : A3) (x4 : A4) (x5 : A5) (x6 : A6), P x1 x2 x3 x4 x5 x6 → (∀ (y1 : A1) (y2 : A2) (y3 : A3) (y4 : A4) (y5 : A5) (y6 : A6), P y1 y2 y3 y4 y5 y6 → mu y1 y2 y3 y4 y5 y6 < mu x1 x2 x3 x4 x5 x6 → ∀ (H : Heap) (locs : List Loc) (ls : Array Slot), Wd D T A H0 s (ws y1 y2 y3 y4 y5 y6) H locs → lv_has ls nL (lv y1 y2 y3 y4 y5 y6) → W p l e R s m args below meth c H locs cells slots Q (F0 m pc ls [])) → ∀ (H : Heap) (locs : List Loc) (ls : Array Slot), Wd D T A H0 s (ws x1 x2 x3 x4 x5 x6) H locs → lv_has ls nL (lv x1 x2 x3 x4 x5 x6) → W p l e R s m args below meth c H locs cells slots Q (F0 m pc ls [])) : W p l e R s m args below meth c H locs cells slots Q (F0 m pc ls []) := by
  have key : ∀ (n : Nat) (x1 : A1) (x2 : A2) (x3 : A3) (x4 : A4) (x5 : A5) (x6 : A6), mu x1 x2 x3 x4 x5 x6 < n → P x1 x2 x3 x4 x5 x6 → ∀ (H : Heap) (locs : List Loc) (ls : Array Slot), Wd D T A H0 s (ws x1 x2 x3 x4 x5 x6) H locs → lv_has ls nL (lv x1 x2 x3 x4 x5 x6) → W p l e R s m args below meth c H locs cells slots Q (F0 m pc ls []) := by
    intro n
    induction n with
    | zero => intro x1 x2 x3 x4 x5 x6 h; exact absurd h (Nat.not_lt_zero _)
    | succ n ih => intro x1 x2 x3 x4 x5 x6 h hP H locs ls w hl; exact body x1 x2 x3 x4 x5 x6 hP (fun y1 y2 y3 y4 y5 y6 hy hm => ih y1 y2 y3 y4 y5 y6 (by omega) hy) H locs ls w hl
  exact key _ x1 x2 x3 x4 x5 x6 (Nat.lt_succ_self _) h0 H locs ls w0 hl0
theorem z_loop7 {A1 A2 A3 A4 A5 A6 A7 : Type} {P : A1 → A2 → A3 → A4 → A5 → A6 → A7 → Prop} {mu : A1 → A2 → A3 → A4 → A5 → A6 → A7 → Nat} {ws : A1 → A2 → A3 → A4 → A5 → A6 → A7 → va_W} {lv : A1 → A2 → A3 → A4 → A5 → A6 → A7 → List (Nat × Value)} (x1 : A1) (x2 : A2) (x3 : A3) (x4 : A4) (x5 : A5) (x6 : A6) (x7 : A7) (_ : CallFix p m c cc nL s args Ts own) (h0 : P x1 x2 x3 x4 x5 x6 x7) (w0 : Wd D T A H0 s (ws x1 x2 x3 x4 x5 x6 x7) H locs) (hl0 : lv_has ls nL (lv x1 x2 x3 x4 x5 x6 x7))
    (body : ∀ (x1 : A1) (x2 : A2) (x3 : A3) (x4 : A4) (x5 : A5) (x6 : A6) (x7 : A7), P x1 x2 x3 x4 x5 x6 x7 → (∀ (y1 : A1) (y2 : A2) (y3 : A3) (y4 : A4) (y5 : A5) (y6 : A6) (y7 : A7), P y1 y2 y3 y4 y5 y6 y7 → mu y1 y2 y3 y4 y5 y6 y7 < mu x1 x2 x3 x4 x5 x6 x7 → ∀ (H : Heap) (locs : List Loc) (ls : Array Slot), Wd D T A H0 s (ws y1 y2 y3 y4 y5 y6 y7) H locs → lv_has ls nL (lv y1 y2 y3 y4 y5 y6 y7) → W p l e R s m args below meth c H locs cells slots Q (F0 m pc ls [])) → ∀ (H : Heap) (locs : List Loc) (ls : Array Slot), Wd D T A H0 s (ws x1 x2 x3 x4 x5 x6 x7) H locs → lv_has ls nL (lv x1 x2 x3 x4 x5 x6 x7) → W p l e R s m args below meth c H locs cells slots Q (F0 m pc ls [])) : W p l e R s m args below meth c H locs cells slots Q (F0 m pc ls []) := by
  have key : ∀ (n : Nat) (x1 : A1) (x2 : A2) (x3 : A3) (x4 : A4) (x5 : A5) (x6 : A6) (x7 : A7), mu x1 x2 x3 x4 x5 x6 x7 < n → P x1 x2 x3 x4 x5 x6 x7 → ∀ (H : Heap) (locs : List Loc) (ls : Array Slot), Wd D T A H0 s (ws x1 x2 x3 x4 x5 x6 x7) H locs → lv_has ls nL (lv x1 x2 x3 x4 x5 x6 x7) → W p l e R s m args below meth c H locs cells slots Q (F0 m pc ls []) := by
    intro n
    induction n with
    | zero => intro x1 x2 x3 x4 x5 x6 x7 h; exact absurd h (Nat.not_lt_zero _)
    | succ n ih => intro x1 x2 x3 x4 x5 x6 x7 h hP H locs ls w hl; exact body x1 x2 x3 x4 x5 x6 x7 hP (fun y1 y2 y3 y4 y5 y6 y7 hy hm => ih y1 y2 y3 y4 y5 y6 y7 (by omega) hy) H locs ls w hl
  exact key _ x1 x2 x3 x4 x5 x6 x7 (Nat.lt_succ_self _) h0 H locs ls w0 hl0
theorem z_loop8 {A1 A2 A3 A4 A5 A6 A7 A8 : Type} {P : A1 → A2 → A3 → A4 → A5 → A6 → A7 → A8 → Prop} {mu : A1 → A2 → A3 → A4 → A5 → A6 → A7 → A8 → Nat} {ws : A1 → A2 → A3 → A4 → A5 → A6 → A7 → A8 → va_W} {lv : A1 → A2 → A3 → A4 → A5 → A6 → A7 → A8 → List (Nat × Value)} (x1 : A1) (x2 : A2) (x3 : A3) (x4 : A4) (x5 : A5) (x6 : A6) (x7 : A7) (x8 : A8) (_ : CallFix p m c cc nL s args Ts own) (h0 : P x1 x2 x3 x4 x5 x6 x7 x8) (w0 : Wd D T A H0 s (ws x1 x2 x3 x4 x5 x6 x7 x8) H locs) (hl0 : lv_has ls nL (lv x1 x2 x3 x4 x5 x6 x7 x8))
    (body : ∀ (x1 : A1) (x2 : A2) (x3 : A3) (x4 : A4) (x5 : A5) (x6 : A6) (x7 : A7) (x8 : A8), P x1 x2 x3 x4 x5 x6 x7 x8 → (∀ (y1 : A1) (y2 : A2) (y3 : A3) (y4 : A4) (y5 : A5) (y6 : A6) (y7 : A7) (y8 : A8), P y1 y2 y3 y4 y5 y6 y7 y8 → mu y1 y2 y3 y4 y5 y6 y7 y8 < mu x1 x2 x3 x4 x5 x6 x7 x8 → ∀ (H : Heap) (locs : List Loc) (ls : Array Slot), Wd D T A H0 s (ws y1 y2 y3 y4 y5 y6 y7 y8) H locs → lv_has ls nL (lv y1 y2 y3 y4 y5 y6 y7 y8) → W p l e R s m args below meth c H locs cells slots Q (F0 m pc ls [])) → ∀ (H : Heap) (locs : List Loc) (ls : Array Slot), Wd D T A H0 s (ws x1 x2 x3 x4 x5 x6 x7 x8) H locs → lv_has ls nL (lv x1 x2 x3 x4 x5 x6 x7 x8) → W p l e R s m args below meth c H locs cells slots Q (F0 m pc ls [])) : W p l e R s m args below meth c H locs cells slots Q (F0 m pc ls []) := by
  have key : ∀ (n : Nat) (x1 : A1) (x2 : A2) (x3 : A3) (x4 : A4) (x5 : A5) (x6 : A6) (x7 : A7) (x8 : A8), mu x1 x2 x3 x4 x5 x6 x7 x8 < n → P x1 x2 x3 x4 x5 x6 x7 x8 → ∀ (H : Heap) (locs : List Loc) (ls : Array Slot), Wd D T A H0 s (ws x1 x2 x3 x4 x5 x6 x7 x8) H locs → lv_has ls nL (lv x1 x2 x3 x4 x5 x6 x7 x8) → W p l e R s m args below meth c H locs cells slots Q (F0 m pc ls []) := by
    intro n
    induction n with
    | zero => intro x1 x2 x3 x4 x5 x6 x7 x8 h; exact absurd h (Nat.not_lt_zero _)
    | succ n ih => intro x1 x2 x3 x4 x5 x6 x7 x8 h hP H locs ls w hl; exact body x1 x2 x3 x4 x5 x6 x7 x8 hP (fun y1 y2 y3 y4 y5 y6 y7 y8 hy hm => ih y1 y2 y3 y4 y5 y6 y7 y8 (by omega) hy) H locs ls w hl
  exact key _ x1 x2 x3 x4 x5 x6 x7 x8 (Nat.lt_succ_self _) h0 H locs ls w0 hl0
theorem z_join0 {P : Prop} {ws : va_W} {lv : List (Nat × Value)} {stj : List Value} {st : List Value} (q : Nat)
    (body : P → ∀ (H : Heap) (locs : List Loc) (ls : Array Slot), Wd D T A H0 s ws H locs → lv_has ls nL lv → W p l e R s m args below meth c H locs cells slots Q (F0 m q ls stj))
    (k : (P → ∀ (H : Heap) (locs : List Loc) (ls : Array Slot), Wd D T A H0 s ws H locs → lv_has ls nL lv → W p l e R s m args below meth c H locs cells slots Q (F0 m q ls stj)) → W p l e R s m args below meth c H locs cells slots Q (F0 m pc ls st)) : W p l e R s m args below meth c H locs cells slots Q (F0 m pc ls st) := k body
theorem z_join1 {A1 : Type} {P : A1 → Prop} {ws : A1 → va_W} {lv : A1 → List (Nat × Value)} {stj : A1 → List Value} {st : List Value} (q : Nat)
    (body : ∀ (x1 : A1), (P x1) → ∀ (H : Heap) (locs : List Loc) (ls : Array Slot), Wd D T A H0 s (ws x1) H locs → lv_has ls nL (lv x1) → W p l e R s m args below meth c H locs cells slots Q (F0 m q ls (stj x1)))
    (k : (∀ (x1 : A1), (P x1) → ∀ (H : Heap) (locs : List Loc) (ls : Array Slot), Wd D T A H0 s (ws x1) H locs → lv_has ls nL (lv x1) → W p l e R s m args below meth c H locs cells slots Q (F0 m q ls (stj x1))) → W p l e R s m args below meth c H locs cells slots Q (F0 m pc ls st)) : W p l e R s m args below meth c H locs cells slots Q (F0 m pc ls st) := k body
theorem z_join2 {A1 A2 : Type} {P : A1 → A2 → Prop} {ws : A1 → A2 → va_W} {lv : A1 → A2 → List (Nat × Value)} {stj : A1 → A2 → List Value} {st : List Value} (q : Nat)
    (body : ∀ (x1 : A1) (x2 : A2), (P x1 x2) → ∀ (H : Heap) (locs : List Loc) (ls : Array Slot), Wd D T A H0 s (ws x1 x2) H locs → lv_has ls nL (lv x1 x2) → W p l e R s m args below meth c H locs cells slots Q (F0 m q ls (stj x1 x2)))
    (k : (∀ (x1 : A1) (x2 : A2), (P x1 x2) → ∀ (H : Heap) (locs : List Loc) (ls : Array Slot), Wd D T A H0 s (ws x1 x2) H locs → lv_has ls nL (lv x1 x2) → W p l e R s m args below meth c H locs cells slots Q (F0 m q ls (stj x1 x2))) → W p l e R s m args below meth c H locs cells slots Q (F0 m pc ls st)) : W p l e R s m args below meth c H locs cells slots Q (F0 m pc ls st) := k body
theorem z_join3 {A1 A2 A3 : Type} {P : A1 → A2 → A3 → Prop} {ws : A1 → A2 → A3 → va_W} {lv : A1 → A2 → A3 → List (Nat × Value)} {stj : A1 → A2 → A3 → List Value} {st : List Value} (q : Nat)
    (body : ∀ (x1 : A1) (x2 : A2) (x3 : A3), (P x1 x2 x3) → ∀ (H : Heap) (locs : List Loc) (ls : Array Slot), Wd D T A H0 s (ws x1 x2 x3) H locs → lv_has ls nL (lv x1 x2 x3) → W p l e R s m args below meth c H locs cells slots Q (F0 m q ls (stj x1 x2 x3)))
    (k : (∀ (x1 : A1) (x2 : A2) (x3 : A3), (P x1 x2 x3) → ∀ (H : Heap) (locs : List Loc) (ls : Array Slot), Wd D T A H0 s (ws x1 x2 x3) H locs → lv_has ls nL (lv x1 x2 x3) → W p l e R s m args below meth c H locs cells slots Q (F0 m q ls (stj x1 x2 x3))) → W p l e R s m args below meth c H locs cells slots Q (F0 m pc ls st)) : W p l e R s m args below meth c H locs cells slots Q (F0 m pc ls st) := k body
theorem z_join4 {A1 A2 A3 A4 : Type} {P : A1 → A2 → A3 → A4 → Prop} {ws : A1 → A2 → A3 → A4 → va_W} {lv : A1 → A2 → A3 → A4 → List (Nat × Value)} {stj : A1 → A2 → A3 → A4 → List Value} {st : List Value} (q : Nat)
    (body : ∀ (x1 : A1) (x2 : A2) (x3 : A3) (x4 : A4), (P x1 x2 x3 x4) → ∀ (H : Heap) (locs : List Loc) (ls : Array Slot), Wd D T A H0 s (ws x1 x2 x3 x4) H locs → lv_has ls nL (lv x1 x2 x3 x4) → W p l e R s m args below meth c H locs cells slots Q (F0 m q ls (stj x1 x2 x3 x4)))
    (k : (∀ (x1 : A1) (x2 : A2) (x3 : A3) (x4 : A4), (P x1 x2 x3 x4) → ∀ (H : Heap) (locs : List Loc) (ls : Array Slot), Wd D T A H0 s (ws x1 x2 x3 x4) H locs → lv_has ls nL (lv x1 x2 x3 x4) → W p l e R s m args below meth c H locs cells slots Q (F0 m q ls (stj x1 x2 x3 x4))) → W p l e R s m args below meth c H locs cells slots Q (F0 m pc ls st)) : W p l e R s m args below meth c H locs cells slots Q (F0 m pc ls st) := k body
theorem z_join5 {A1 A2 A3 A4 A5 : Type} {P : A1 → A2 → A3 → A4 → A5 → Prop} {ws : A1 → A2 → A3 → A4 → A5 → va_W} {lv : A1 → A2 → A3 → A4 → A5 → List (Nat × Value)} {stj : A1 → A2 → A3 → A4 → A5 → List Value} {st : List Value} (q : Nat)
    (body : ∀ (x1 : A1) (x2 : A2) (x3 : A3) (x4 : A4) (x5 : A5), (P x1 x2 x3 x4 x5) → ∀ (H : Heap) (locs : List Loc) (ls : Array Slot), Wd D T A H0 s (ws x1 x2 x3 x4 x5) H locs → lv_has ls nL (lv x1 x2 x3 x4 x5) → W p l e R s m args below meth c H locs cells slots Q (F0 m q ls (stj x1 x2 x3 x4 x5)))
    (k : (∀ (x1 : A1) (x2 : A2) (x3 : A3) (x4 : A4) (x5 : A5), (P x1 x2 x3 x4 x5) → ∀ (H : Heap) (locs : List Loc) (ls : Array Slot), Wd D T A H0 s (ws x1 x2 x3 x4 x5) H locs → lv_has ls nL (lv x1 x2 x3 x4 x5) → W p l e R s m args below meth c H locs cells slots Q (F0 m q ls (stj x1 x2 x3 x4 x5))) → W p l e R s m args below meth c H locs cells slots Q (F0 m pc ls st)) : W p l e R s m args below meth c H locs cells slots Q (F0 m pc ls st) := k body
theorem z_join6 {A1 A2 A3 A4 A5 A6 : Type} {P : A1 → A2 → A3 → A4 → A5 → A6 → Prop} {ws : A1 → A2 → A3 → A4 → A5 → A6 → va_W} {lv : A1 → A2 → A3 → A4 → A5 → A6 → List (Nat × Value)} {stj : A1 → A2 → A3 → A4 → A5 → A6 → List Value} {st : List Value} (q : Nat)
    (body : ∀ (x1 : A1) (x2 : A2) (x3 : A3) (x4 : A4) (x5 : A5) (x6 : A6), (P x1 x2 x3 x4 x5 x6) → ∀ (H : Heap) (locs : List Loc) (ls : Array Slot), Wd D T A H0 s (ws x1 x2 x3 x4 x5 x6) H locs → lv_has ls nL (lv x1 x2 x3 x4 x5 x6) → W p l e R s m args below meth c H locs cells slots Q (F0 m q ls (stj x1 x2 x3 x4 x5 x6)))
    (k : (∀ (x1 : A1) (x2 : A2) (x3 : A3) (x4 : A4) (x5 : A5) (x6 : A6), (P x1 x2 x3 x4 x5 x6) → ∀ (H : Heap) (locs : List Loc) (ls : Array Slot), Wd D T A H0 s (ws x1 x2 x3 x4 x5 x6) H locs → lv_has ls nL (lv x1 x2 x3 x4 x5 x6) → W p l e R s m args below meth c H locs cells slots Q (F0 m q ls (stj x1 x2 x3 x4 x5 x6))) → W p l e R s m args below meth c H locs cells slots Q (F0 m pc ls st)) : W p l e R s m args below meth c H locs cells slots Q (F0 m pc ls st) := k body
theorem z_join7 {A1 A2 A3 A4 A5 A6 A7 : Type} {P : A1 → A2 → A3 → A4 → A5 → A6 → A7 → Prop} {ws : A1 → A2 → A3 → A4 → A5 → A6 → A7 → va_W} {lv : A1 → A2 → A3 → A4 → A5 → A6 → A7 → List (Nat × Value)} {stj : A1 → A2 → A3 → A4 → A5 → A6 → A7 → List Value} {st : List Value} (q : Nat)
    (body : ∀ (x1 : A1) (x2 : A2) (x3 : A3) (x4 : A4) (x5 : A5) (x6 : A6) (x7 : A7), (P x1 x2 x3 x4 x5 x6 x7) → ∀ (H : Heap) (locs : List Loc) (ls : Array Slot), Wd D T A H0 s (ws x1 x2 x3 x4 x5 x6 x7) H locs → lv_has ls nL (lv x1 x2 x3 x4 x5 x6 x7) → W p l e R s m args below meth c H locs cells slots Q (F0 m q ls (stj x1 x2 x3 x4 x5 x6 x7)))
    (k : (∀ (x1 : A1) (x2 : A2) (x3 : A3) (x4 : A4) (x5 : A5) (x6 : A6) (x7 : A7), (P x1 x2 x3 x4 x5 x6 x7) → ∀ (H : Heap) (locs : List Loc) (ls : Array Slot), Wd D T A H0 s (ws x1 x2 x3 x4 x5 x6 x7) H locs → lv_has ls nL (lv x1 x2 x3 x4 x5 x6 x7) → W p l e R s m args below meth c H locs cells slots Q (F0 m q ls (stj x1 x2 x3 x4 x5 x6 x7))) → W p l e R s m args below meth c H locs cells slots Q (F0 m pc ls st)) : W p l e R s m args below meth c H locs cells slots Q (F0 m pc ls st) := k body
theorem z_join8 {A1 A2 A3 A4 A5 A6 A7 A8 : Type} {P : A1 → A2 → A3 → A4 → A5 → A6 → A7 → A8 → Prop} {ws : A1 → A2 → A3 → A4 → A5 → A6 → A7 → A8 → va_W} {lv : A1 → A2 → A3 → A4 → A5 → A6 → A7 → A8 → List (Nat × Value)} {stj : A1 → A2 → A3 → A4 → A5 → A6 → A7 → A8 → List Value} {st : List Value} (q : Nat)
    (body : ∀ (x1 : A1) (x2 : A2) (x3 : A3) (x4 : A4) (x5 : A5) (x6 : A6) (x7 : A7) (x8 : A8), (P x1 x2 x3 x4 x5 x6 x7 x8) → ∀ (H : Heap) (locs : List Loc) (ls : Array Slot), Wd D T A H0 s (ws x1 x2 x3 x4 x5 x6 x7 x8) H locs → lv_has ls nL (lv x1 x2 x3 x4 x5 x6 x7 x8) → W p l e R s m args below meth c H locs cells slots Q (F0 m q ls (stj x1 x2 x3 x4 x5 x6 x7 x8)))
    (k : (∀ (x1 : A1) (x2 : A2) (x3 : A3) (x4 : A4) (x5 : A5) (x6 : A6) (x7 : A7) (x8 : A8), (P x1 x2 x3 x4 x5 x6 x7 x8) → ∀ (H : Heap) (locs : List Loc) (ls : Array Slot), Wd D T A H0 s (ws x1 x2 x3 x4 x5 x6 x7 x8) H locs → lv_has ls nL (lv x1 x2 x3 x4 x5 x6 x7 x8) → W p l e R s m args below meth c H locs cells slots Q (F0 m q ls (stj x1 x2 x3 x4 x5 x6 x7 x8))) → W p l e R s m args below meth c H locs cells slots Q (F0 m pc ls st)) : W p l e R s m args below meth c H locs cells slots Q (F0 m pc ls st) := k body
end ZL
end
section
set_option maxRecDepth 20000 in
theorem ggX0_init_X0_choose : GoodIn wsX0_init wsX0_choose := goodIn_r _ [10, 11, 12, 5, 13, 14, 15] (by decide +kernel) (by decide +kernel)
set_option maxRecDepth 20000 in
theorem gX0_init_X0_choose : GoodIn wsX0_init (wsV RX0 15 RX0 yX0_choose wsX0_choose) := goodIn_app (goodIn_of _ (by decide +kernel)) ggX0_init_X0_choose
theorem dX0_init_0 : decode cX0_init 0 = .ok (.aload_n 0, 1) := by decide +kernel
theorem dX0_init_1 : decode cX0_init 1 = .ok (.invokespecial 3, 3) := by decide +kernel
theorem dX0_init_4 : decode cX0_init 4 = .ok (.aload_n 0, 1) := by decide +kernel
theorem dX0_init_5 : decode cX0_init 5 = .ok (.iconst 3, 1) := by decide +kernel
theorem dX0_init_6 : decode cX0_init 6 = .ok (.newarray .int, 2) := by decide +kernel
theorem dX0_init_8 : decode cX0_init 8 = .ok (.putfield 9, 3) := by decide +kernel
theorem dX0_init_11 : decode cX0_init 11 = .ok (.aload_n 0, 1) := by decide +kernel
theorem dX0_init_12 : decode cX0_init 12 = .ok (.iconst 2, 1) := by decide +kernel
theorem dX0_init_13 : decode cX0_init 13 = .ok (.bipush 7, 2) := by decide +kernel
theorem dX0_init_15 : decode cX0_init 15 = .ok (.iconst 5, 1) := by decide +kernel
theorem dX0_init_16 : decode cX0_init 16 = .ok (.iconst 0, 1) := by decide +kernel
theorem dX0_init_17 : decode cX0_init 17 = .ok (.invokevirtual 15, 3) := by decide +kernel
theorem dX0_init_20 : decode cX0_init 20 = .ok (.return_, 1) := by decide +kernel
theorem dX0_choose_0 : decode cX0_choose 0 = .ok (.aload_n 0, 1) := by decide +kernel
theorem dX0_choose_1 : decode cX0_choose 1 = .ok (.iload_n 1, 1) := by decide +kernel
theorem dX0_choose_2 : decode cX0_choose 2 = .ok (.putfield 19, 3) := by decide +kernel
theorem dX0_choose_5 : decode cX0_choose 5 = .ok (.aload_n 0, 1) := by decide +kernel
theorem dX0_choose_6 : decode cX0_choose 6 = .ok (.iload 4, 2) := by decide +kernel
theorem dX0_choose_8 : decode cX0_choose 8 = .ok (.ifCond .ne 7, 3) := by decide +kernel
theorem dX0_choose_11 : decode cX0_choose 11 = .ok (.iconst 2, 1) := by decide +kernel
theorem dX0_choose_12 : decode cX0_choose 12 = .ok (.goto 4, 3) := by decide +kernel
theorem dX0_choose_15 : decode cX0_choose 15 = .ok (.iconst 3, 1) := by decide +kernel
theorem dX0_choose_16 : decode cX0_choose 16 = .ok (.putfield 23, 3) := by decide +kernel
theorem dX0_choose_19 : decode cX0_choose 19 = .ok (.aload_n 0, 1) := by decide +kernel
theorem dX0_choose_20 : decode cX0_choose 20 = .ok (.getfield 9, 3) := by decide +kernel
theorem dX0_choose_23 : decode cX0_choose 23 = .ok (.iconst 0, 1) := by decide +kernel
theorem dX0_choose_24 : decode cX0_choose 24 = .ok (.iload_n 2, 1) := by decide +kernel
theorem dX0_choose_25 : decode cX0_choose 25 = .ok (.iastore, 1) := by decide +kernel
theorem dX0_choose_26 : decode cX0_choose 26 = .ok (.aload_n 0, 1) := by decide +kernel
theorem dX0_choose_27 : decode cX0_choose 27 = .ok (.getfield 9, 3) := by decide +kernel
theorem dX0_choose_30 : decode cX0_choose 30 = .ok (.iconst 1, 1) := by decide +kernel
theorem dX0_choose_31 : decode cX0_choose 31 = .ok (.iload_n 3, 1) := by decide +kernel
theorem dX0_choose_32 : decode cX0_choose 32 = .ok (.iastore, 1) := by decide +kernel
theorem dX0_choose_33 : decode cX0_choose 33 = .ok (.aload_n 0, 1) := by decide +kernel
theorem dX0_choose_34 : decode cX0_choose 34 = .ok (.getfield 9, 3) := by decide +kernel
theorem dX0_choose_37 : decode cX0_choose 37 = .ok (.iconst 2, 1) := by decide +kernel
theorem dX0_choose_38 : decode cX0_choose 38 = .ok (.iload 4, 2) := by decide +kernel
theorem dX0_choose_40 : decode cX0_choose 40 = .ok (.iastore, 1) := by decide +kernel
theorem dX0_choose_41 : decode cX0_choose 41 = .ok (.return_, 1) := by decide +kernel
set_option maxRecDepth 20000 in
theorem ggX0_copyFrom_X0_choose : GoodIn wsX0_copyFrom wsX0_choose := goodIn_r _ [7, 1, 8, 2, 9, 10, 11] (by decide +kernel) (by decide +kernel)
set_option maxRecDepth 20000 in
theorem gX0_copyFrom_X0_choose : GoodIn wsX0_copyFrom (wsV RX0 15 RX0 yX0_choose wsX0_choose) := goodIn_app (goodIn_of _ (by decide +kernel)) ggX0_copyFrom_X0_choose
theorem dX0_copyFrom_0 : decode cX0_copyFrom 0 = .ok (.aload_n 0, 1) := by decide +kernel
theorem dX0_copyFrom_1 : decode cX0_copyFrom 1 = .ok (.aload_n 1, 1) := by decide +kernel
theorem dX0_copyFrom_2 : decode cX0_copyFrom 2 = .ok (.getfield 19, 3) := by decide +kernel
theorem dX0_copyFrom_5 : decode cX0_copyFrom 5 = .ok (.aload_n 1, 1) := by decide +kernel
theorem dX0_copyFrom_6 : decode cX0_copyFrom 6 = .ok (.getfield 9, 3) := by decide +kernel
theorem dX0_copyFrom_9 : decode cX0_copyFrom 9 = .ok (.iconst 0, 1) := by decide +kernel
theorem dX0_copyFrom_10 : decode cX0_copyFrom 10 = .ok (.iaload, 1) := by decide +kernel
theorem dX0_copyFrom_11 : decode cX0_copyFrom 11 = .ok (.aload_n 1, 1) := by decide +kernel
theorem dX0_copyFrom_12 : decode cX0_copyFrom 12 = .ok (.getfield 9, 3) := by decide +kernel
theorem dX0_copyFrom_15 : decode cX0_copyFrom 15 = .ok (.iconst 1, 1) := by decide +kernel
theorem dX0_copyFrom_16 : decode cX0_copyFrom 16 = .ok (.iaload, 1) := by decide +kernel
theorem dX0_copyFrom_17 : decode cX0_copyFrom 17 = .ok (.aload_n 1, 1) := by decide +kernel
theorem dX0_copyFrom_18 : decode cX0_copyFrom 18 = .ok (.getfield 9, 3) := by decide +kernel
theorem dX0_copyFrom_21 : decode cX0_copyFrom 21 = .ok (.iconst 2, 1) := by decide +kernel
theorem dX0_copyFrom_22 : decode cX0_copyFrom 22 = .ok (.iaload, 1) := by decide +kernel
theorem dX0_copyFrom_23 : decode cX0_copyFrom 23 = .ok (.invokevirtual 15, 3) := by decide +kernel
theorem dX0_copyFrom_26 : decode cX0_copyFrom 26 = .ok (.return_, 1) := by decide +kernel
theorem dX0_states_0 : decode cX0_states 0 = .ok (.iconst 1, 1) := by decide +kernel
theorem dX0_states_1 : decode cX0_states 1 = .ok (.aload_n 0, 1) := by decide +kernel
theorem dX0_states_2 : decode cX0_states 2 = .ok (.getfield 19, 3) := by decide +kernel
theorem dX0_states_5 : decode cX0_states 5 = .ok (.ishl, 1) := by decide +kernel
theorem dX0_states_6 : decode cX0_states 6 = .ok (.ireturn, 1) := by decide +kernel
set_option maxRecDepth 20000 in
theorem ggX0_hasState_X0_states : GoodIn wsX0_hasState wsX0_states := goodIn_r _ [5, 6, 7, 8, 9] (by decide +kernel) (by decide +kernel)
set_option maxRecDepth 20000 in
theorem gX0_hasState_X0_states : GoodIn wsX0_hasState (wsV RX0 26 RX0 yX0_states wsX0_states) := goodIn_app (goodIn_of _ (by decide +kernel)) ggX0_hasState_X0_states
theorem dX0_hasState_0 : decode cX0_hasState 0 = .ok (.iload_n 1, 1) := by decide +kernel
theorem dX0_hasState_1 : decode cX0_hasState 1 = .ok (.ifCond .lt 15, 3) := by decide +kernel
theorem dX0_hasState_4 : decode cX0_hasState 4 = .ok (.iload_n 1, 1) := by decide +kernel
theorem dX0_hasState_5 : decode cX0_hasState 5 = .ok (.aload_n 0, 1) := by decide +kernel
theorem dX0_hasState_6 : decode cX0_hasState 6 = .ok (.invokevirtual 26, 3) := by decide +kernel
theorem dX0_hasState_9 : decode cX0_hasState 9 = .ok (.if_icmp .ge 7, 3) := by decide +kernel
theorem dX0_hasState_12 : decode cX0_hasState 12 = .ok (.iconst 1, 1) := by decide +kernel
theorem dX0_hasState_13 : decode cX0_hasState 13 = .ok (.goto 4, 3) := by decide +kernel
theorem dX0_hasState_16 : decode cX0_hasState 16 = .ok (.iconst 0, 1) := by decide +kernel
theorem dX0_hasState_17 : decode cX0_hasState 17 = .ok (.ireturn, 1) := by decide +kernel
theorem dX0_windowOf_0 : decode cX0_windowOf 0 = .ok (.iload_n 2, 1) := by decide +kernel
theorem dX0_windowOf_1 : decode cX0_windowOf 1 = .ok (.aload_n 0, 1) := by decide +kernel
theorem dX0_windowOf_2 : decode cX0_windowOf 2 = .ok (.getfield 19, 3) := by decide +kernel
theorem dX0_windowOf_5 : decode cX0_windowOf 5 = .ok (.ishl, 1) := by decide +kernel
theorem dX0_windowOf_6 : decode cX0_windowOf 6 = .ok (.iload_n 1, 1) := by decide +kernel
theorem dX0_windowOf_7 : decode cX0_windowOf 7 = .ok (.iadd, 1) := by decide +kernel
theorem dX0_windowOf_8 : decode cX0_windowOf 8 = .ok (.ireturn, 1) := by decide +kernel
set_option maxRecDepth 20000 in
theorem ggX0_stateAfter_X0_windowOf : GoodIn wsX0_stateAfter wsX0_windowOf := goodIn_r _ [5, 6, 7, 8, 9] (by decide +kernel) (by decide +kernel)
set_option maxRecDepth 20000 in
theorem gX0_stateAfter_X0_windowOf : GoodIn wsX0_stateAfter (wsV RX0 30 RX0 yX0_windowOf wsX0_windowOf) := goodIn_app (goodIn_of _ (by decide +kernel)) ggX0_stateAfter_X0_windowOf
theorem dX0_stateAfter_0 : decode cX0_stateAfter 0 = .ok (.aload_n 0, 1) := by decide +kernel
theorem dX0_stateAfter_1 : decode cX0_stateAfter 1 = .ok (.iload_n 1, 1) := by decide +kernel
theorem dX0_stateAfter_2 : decode cX0_stateAfter 2 = .ok (.iload_n 2, 1) := by decide +kernel
theorem dX0_stateAfter_3 : decode cX0_stateAfter 3 = .ok (.invokevirtual 30, 3) := by decide +kernel
theorem dX0_stateAfter_6 : decode cX0_stateAfter 6 = .ok (.iconst 1, 1) := by decide +kernel
theorem dX0_stateAfter_7 : decode cX0_stateAfter 7 = .ok (.ishr, 1) := by decide +kernel
theorem dX0_stateAfter_8 : decode cX0_stateAfter 8 = .ok (.ireturn, 1) := by decide +kernel
theorem dX0_bitInto_0 : decode cX0_bitInto 0 = .ok (.iload_n 1, 1) := by decide +kernel
theorem dX0_bitInto_1 : decode cX0_bitInto 1 = .ok (.aload_n 0, 1) := by decide +kernel
theorem dX0_bitInto_2 : decode cX0_bitInto 2 = .ok (.getfield 19, 3) := by decide +kernel
theorem dX0_bitInto_5 : decode cX0_bitInto 5 = .ok (.iconst 1, 1) := by decide +kernel
theorem dX0_bitInto_6 : decode cX0_bitInto 6 = .ok (.isub, 1) := by decide +kernel
theorem dX0_bitInto_7 : decode cX0_bitInto 7 = .ok (.ishr, 1) := by decide +kernel
theorem dX0_bitInto_8 : decode cX0_bitInto 8 = .ok (.ireturn, 1) := by decide +kernel
set_option maxRecDepth 20000 in
theorem ggX0_lowerBefore_X0_states : GoodIn wsX0_lowerBefore wsX0_states := goodIn_r _ [5, 6, 7, 8, 9] (by decide +kernel) (by decide +kernel)
set_option maxRecDepth 20000 in
theorem gX0_lowerBefore_X0_states : GoodIn wsX0_lowerBefore (wsV RX0 26 RX0 yX0_states wsX0_states) := goodIn_app (goodIn_of _ (by decide +kernel)) ggX0_lowerBefore_X0_states
theorem dX0_lowerBefore_0 : decode cX0_lowerBefore 0 = .ok (.iconst 2, 1) := by decide +kernel
theorem dX0_lowerBefore_1 : decode cX0_lowerBefore 1 = .ok (.iload_n 1, 1) := by decide +kernel
theorem dX0_lowerBefore_2 : decode cX0_lowerBefore 2 = .ok (.imul, 1) := by decide +kernel
theorem dX0_lowerBefore_3 : decode cX0_lowerBefore 3 = .ok (.aload_n 0, 1) := by decide +kernel
theorem dX0_lowerBefore_4 : decode cX0_lowerBefore 4 = .ok (.invokevirtual 26, 3) := by decide +kernel
theorem dX0_lowerBefore_7 : decode cX0_lowerBefore 7 = .ok (.iconst 1, 1) := by decide +kernel
theorem dX0_lowerBefore_8 : decode cX0_lowerBefore 8 = .ok (.isub, 1) := by decide +kernel
theorem dX0_lowerBefore_9 : decode cX0_lowerBefore 9 = .ok (.iand, 1) := by decide +kernel
theorem dX0_lowerBefore_10 : decode cX0_lowerBefore 10 = .ok (.ireturn, 1) := by decide +kernel
set_option maxRecDepth 20000 in
theorem ggX0_symbolOf_J6_bitCount_0f7a4 : GoodIn wsX0_symbolOf wsJ6_bitCount_0f7a4 := goodIn_r _ [5, 6, 7, 8] (by decide +kernel) (by decide +kernel)
set_option maxRecDepth 20000 in
theorem gX0_symbolOf_J6_bitCount_0f7a4 : GoodIn wsX0_symbolOf (va_wsS RX0 34 yJ6_bitCount_0f7a4 wsJ6_bitCount_0f7a4) := goodIn_app (goodIn_of _ (by decide +kernel)) ggX0_symbolOf_J6_bitCount_0f7a4
theorem dX0_symbolOf_0 : decode cX0_symbolOf 0 = .ok (.aload_n 0, 1) := by decide +kernel
theorem dX0_symbolOf_1 : decode cX0_symbolOf 1 = .ok (.getfield 9, 3) := by decide +kernel
theorem dX0_symbolOf_4 : decode cX0_symbolOf 4 = .ok (.iload_n 1, 1) := by decide +kernel
theorem dX0_symbolOf_5 : decode cX0_symbolOf 5 = .ok (.iaload, 1) := by decide +kernel
theorem dX0_symbolOf_6 : decode cX0_symbolOf 6 = .ok (.iload_n 2, 1) := by decide +kernel
theorem dX0_symbolOf_7 : decode cX0_symbolOf 7 = .ok (.iand, 1) := by decide +kernel
theorem dX0_symbolOf_8 : decode cX0_symbolOf 8 = .ok (.invokestatic 34, 3) := by decide +kernel
theorem dX0_symbolOf_11 : decode cX0_symbolOf 11 = .ok (.iconst 1, 1) := by decide +kernel
theorem dX0_symbolOf_12 : decode cX0_symbolOf 12 = .ok (.iand, 1) := by decide +kernel
theorem dX0_symbolOf_13 : decode cX0_symbolOf 13 = .ok (.ireturn, 1) := by decide +kernel
set_option maxRecDepth 20000 in
theorem ggX0_symbolsOf_X0_windowOf : GoodIn wsX0_symbolsOf wsX0_windowOf := goodIn_r _ [6, 7, 20, 21, 22] (by decide +kernel) (by decide +kernel)
set_option maxRecDepth 20000 in
theorem gX0_symbolsOf_X0_windowOf : GoodIn wsX0_symbolsOf (wsV RX0 30 RX0 yX0_windowOf wsX0_windowOf) := goodIn_app (goodIn_of _ (by decide +kernel)) ggX0_symbolsOf_X0_windowOf
set_option maxRecDepth 20000 in
theorem ggX0_symbolsOf_X0_symbolOf : GoodIn wsX0_symbolsOf wsX0_symbolOf := goodIn_r _ [11, 12, 13, 14, 15, 16, 17, 18, 19, 20, 21, 22] (by decide +kernel) (by decide +kernel)
set_option maxRecDepth 20000 in
theorem gX0_symbolsOf_X0_symbolOf : GoodIn wsX0_symbolsOf (wsV RX0 40 RX0 yX0_symbolOf wsX0_symbolOf) := goodIn_app (goodIn_of _ (by decide +kernel)) ggX0_symbolsOf_X0_symbolOf
theorem dX0_symbolsOf_0 : decode cX0_symbolsOf 0 = .ok (.aload_n 0, 1) := by decide +kernel
theorem dX0_symbolsOf_1 : decode cX0_symbolsOf 1 = .ok (.iload_n 1, 1) := by decide +kernel
theorem dX0_symbolsOf_2 : decode cX0_symbolsOf 2 = .ok (.iload_n 2, 1) := by decide +kernel
theorem dX0_symbolsOf_3 : decode cX0_symbolsOf 3 = .ok (.invokevirtual 30, 3) := by decide +kernel
theorem dX0_symbolsOf_6 : decode cX0_symbolsOf 6 = .ok (.istore_n 3, 1) := by decide +kernel
theorem dX0_symbolsOf_7 : decode cX0_symbolsOf 7 = .ok (.iconst 0, 1) := by decide +kernel
theorem dX0_symbolsOf_8 : decode cX0_symbolsOf 8 = .ok (.istore 4, 2) := by decide +kernel
theorem dX0_symbolsOf_10 : decode cX0_symbolsOf 10 = .ok (.iconst 0, 1) := by decide +kernel
theorem dX0_symbolsOf_11 : decode cX0_symbolsOf 11 = .ok (.istore 5, 2) := by decide +kernel
theorem dX0_symbolsOf_13 : decode cX0_symbolsOf 13 = .ok (.iload 5, 2) := by decide +kernel
theorem dX0_symbolsOf_15 : decode cX0_symbolsOf 15 = .ok (.aload_n 0, 1) := by decide +kernel
theorem dX0_symbolsOf_16 : decode cX0_symbolsOf 16 = .ok (.getfield 23, 3) := by decide +kernel
theorem dX0_symbolsOf_19 : decode cX0_symbolsOf 19 = .ok (.if_icmp .ge 23, 3) := by decide +kernel
theorem dX0_symbolsOf_22 : decode cX0_symbolsOf 22 = .ok (.iconst 2, 1) := by decide +kernel
theorem dX0_symbolsOf_23 : decode cX0_symbolsOf 23 = .ok (.iload 4, 2) := by decide +kernel
theorem dX0_symbolsOf_25 : decode cX0_symbolsOf 25 = .ok (.imul, 1) := by decide +kernel
theorem dX0_symbolsOf_26 : decode cX0_symbolsOf 26 = .ok (.aload_n 0, 1) := by decide +kernel
theorem dX0_symbolsOf_27 : decode cX0_symbolsOf 27 = .ok (.iload 5, 2) := by decide +kernel
theorem dX0_symbolsOf_29 : decode cX0_symbolsOf 29 = .ok (.iload_n 3, 1) := by decide +kernel
theorem dX0_symbolsOf_30 : decode cX0_symbolsOf 30 = .ok (.invokevirtual 40, 3) := by decide +kernel
theorem dX0_symbolsOf_33 : decode cX0_symbolsOf 33 = .ok (.iadd, 1) := by decide +kernel
theorem dX0_symbolsOf_34 : decode cX0_symbolsOf 34 = .ok (.istore 4, 2) := by decide +kernel
theorem dX0_symbolsOf_36 : decode cX0_symbolsOf 36 = .ok (.iinc 5 1, 3) := by decide +kernel
theorem dX0_symbolsOf_39 : decode cX0_symbolsOf 39 = .ok (.goto (-26), 3) := by decide +kernel
theorem dX0_symbolsOf_42 : decode cX0_symbolsOf 42 = .ok (.iload 4, 2) := by decide +kernel
theorem dX0_symbolsOf_44 : decode cX0_symbolsOf 44 = .ok (.ireturn, 1) := by decide +kernel
set_option maxRecDepth 20000 in
theorem ggX0_onesOf_X0_symbolsOf : GoodIn wsX0_onesOf wsX0_symbolsOf := goodIn_r _ [5, 6, 7, 8, 9, 4, 10, 11, 12, 13, 14, 15, 16, 17, 18, 19, 20, 21, 22, 23, 24, 25, 26] (by decide +kernel) (by decide +kernel)
set_option maxRecDepth 20000 in
theorem gX0_onesOf_X0_symbolsOf : GoodIn wsX0_onesOf (wsV RX0 43 RX0 yX0_symbolsOf wsX0_symbolsOf) := goodIn_app (goodIn_of _ (by decide +kernel)) ggX0_onesOf_X0_symbolsOf
set_option maxRecDepth 20000 in
theorem ggX0_onesOf_J6_bitCount_0f7a4 : GoodIn wsX0_onesOf wsJ6_bitCount_0f7a4 := goodIn_r _ [20, 21, 22, 23] (by decide +kernel) (by decide +kernel)
set_option maxRecDepth 20000 in
theorem gX0_onesOf_J6_bitCount_0f7a4 : GoodIn wsX0_onesOf (va_wsS RX0 34 yJ6_bitCount_0f7a4 wsJ6_bitCount_0f7a4) := goodIn_app (goodIn_of _ (by decide +kernel)) ggX0_onesOf_J6_bitCount_0f7a4
theorem dX0_onesOf_0 : decode cX0_onesOf 0 = .ok (.aload_n 0, 1) := by decide +kernel
theorem dX0_onesOf_1 : decode cX0_onesOf 1 = .ok (.iload_n 1, 1) := by decide +kernel
theorem dX0_onesOf_2 : decode cX0_onesOf 2 = .ok (.iload_n 2, 1) := by decide +kernel
theorem dX0_onesOf_3 : decode cX0_onesOf 3 = .ok (.invokevirtual 43, 3) := by decide +kernel
theorem dX0_onesOf_6 : decode cX0_onesOf 6 = .ok (.invokestatic 34, 3) := by decide +kernel
theorem dX0_onesOf_9 : decode cX0_onesOf 9 = .ok (.ireturn, 1) := by decide +kernel
set_option maxRecDepth 20000 in
theorem ggX0_priceOf_X0_windowOf : GoodIn wsX0_priceOf wsX0_windowOf := goodIn_r _ [6, 7, 20, 21, 22] (by decide +kernel) (by decide +kernel)
set_option maxRecDepth 20000 in
theorem gX0_priceOf_X0_windowOf : GoodIn wsX0_priceOf (wsV RX0 30 RX0 yX0_windowOf wsX0_windowOf) := goodIn_app (goodIn_of _ (by decide +kernel)) ggX0_priceOf_X0_windowOf
set_option maxRecDepth 20000 in
theorem ggX0_priceOf_X0_symbolOf : GoodIn wsX0_priceOf wsX0_symbolOf := goodIn_r _ [11, 12, 13, 14, 15, 16, 17, 18, 19, 20, 21, 22] (by decide +kernel) (by decide +kernel)
set_option maxRecDepth 20000 in
theorem gX0_priceOf_X0_symbolOf : GoodIn wsX0_priceOf (wsV RX0 40 RX0 yX0_symbolOf wsX0_symbolOf) := goodIn_app (goodIn_of _ (by decide +kernel)) ggX0_priceOf_X0_symbolOf
theorem dX0_priceOf_0 : decode cX0_priceOf 0 = .ok (.aload_n 0, 1) := by decide +kernel
theorem dX0_priceOf_1 : decode cX0_priceOf 1 = .ok (.iload_n 1, 1) := by decide +kernel
theorem dX0_priceOf_2 : decode cX0_priceOf 2 = .ok (.iload_n 2, 1) := by decide +kernel
theorem dX0_priceOf_3 : decode cX0_priceOf 3 = .ok (.invokevirtual 30, 3) := by decide +kernel
theorem dX0_priceOf_6 : decode cX0_priceOf 6 = .ok (.istore 5, 2) := by decide +kernel
theorem dX0_priceOf_8 : decode cX0_priceOf 8 = .ok (.iconst 0, 1) := by decide +kernel
theorem dX0_priceOf_9 : decode cX0_priceOf 9 = .ok (.istore 6, 2) := by decide +kernel
theorem dX0_priceOf_11 : decode cX0_priceOf 11 = .ok (.iconst 0, 1) := by decide +kernel
theorem dX0_priceOf_12 : decode cX0_priceOf 12 = .ok (.istore 7, 2) := by decide +kernel
theorem dX0_priceOf_14 : decode cX0_priceOf 14 = .ok (.iload 7, 2) := by decide +kernel
theorem dX0_priceOf_16 : decode cX0_priceOf 16 = .ok (.aload_n 0, 1) := by decide +kernel
theorem dX0_priceOf_17 : decode cX0_priceOf 17 = .ok (.getfield 23, 3) := by decide +kernel
theorem dX0_priceOf_20 : decode cX0_priceOf 20 = .ok (.if_icmp .ge 40, 3) := by decide +kernel
theorem dX0_priceOf_23 : decode cX0_priceOf 23 = .ok (.aload_n 3, 1) := by decide +kernel
theorem dX0_priceOf_24 : decode cX0_priceOf 24 = .ok (.iload 4, 2) := by decide +kernel
theorem dX0_priceOf_26 : decode cX0_priceOf 26 = .ok (.iload 7, 2) := by decide +kernel
theorem dX0_priceOf_28 : decode cX0_priceOf 28 = .ok (.iadd, 1) := by decide +kernel
theorem dX0_priceOf_29 : decode cX0_priceOf 29 = .ok (.iaload, 1) := by decide +kernel
theorem dX0_priceOf_30 : decode cX0_priceOf 30 = .ok (.istore 8, 2) := by decide +kernel
theorem dX0_priceOf_32 : decode cX0_priceOf 32 = .ok (.iload 8, 2) := by decide +kernel
theorem dX0_priceOf_34 : decode cX0_priceOf 34 = .ok (.iconst 2, 1) := by decide +kernel
theorem dX0_priceOf_35 : decode cX0_priceOf 35 = .ok (.if_icmp .eq 19, 3) := by decide +kernel
theorem dX0_priceOf_38 : decode cX0_priceOf 38 = .ok (.iload 8, 2) := by decide +kernel
theorem dX0_priceOf_40 : decode cX0_priceOf 40 = .ok (.aload_n 0, 1) := by decide +kernel
theorem dX0_priceOf_41 : decode cX0_priceOf 41 = .ok (.iload 7, 2) := by decide +kernel
theorem dX0_priceOf_43 : decode cX0_priceOf 43 = .ok (.iload 5, 2) := by decide +kernel
theorem dX0_priceOf_45 : decode cX0_priceOf 45 = .ok (.invokevirtual 40, 3) := by decide +kernel
theorem dX0_priceOf_48 : decode cX0_priceOf 48 = .ok (.if_icmp .eq 6, 3) := by decide +kernel
theorem dX0_priceOf_51 : decode cX0_priceOf 51 = .ok (.iinc 6 1, 3) := by decide +kernel
theorem dX0_priceOf_54 : decode cX0_priceOf 54 = .ok (.iinc 7 1, 3) := by decide +kernel
theorem dX0_priceOf_57 : decode cX0_priceOf 57 = .ok (.goto (-43), 3) := by decide +kernel
theorem dX0_priceOf_60 : decode cX0_priceOf 60 = .ok (.iload 6, 2) := by decide +kernel
theorem dX0_priceOf_62 : decode cX0_priceOf 62 = .ok (.ireturn, 1) := by decide +kernel
set_option maxRecDepth 20000 in
theorem ggX0_leastReturn_X0_states : GoodIn wsX0_leastReturn wsX0_states := goodIn_r _ [5, 6, 44, 45, 46] (by decide +kernel) (by decide +kernel)
set_option maxRecDepth 20000 in
theorem gX0_leastReturn_X0_states : GoodIn wsX0_leastReturn (wsV RX0 26 RX0 yX0_states wsX0_states) := goodIn_app (goodIn_of _ (by decide +kernel)) ggX0_leastReturn_X0_states
set_option maxRecDepth 20000 in
theorem ggX0_leastReturn_J7_fill_53178 : GoodIn wsX0_leastReturn wsJ7_fill_53178 := goodIn_r _ [10] (by decide +kernel) (by decide +kernel)
set_option maxRecDepth 20000 in
theorem gX0_leastReturn_J7_fill_53178 : GoodIn wsX0_leastReturn (va_wsS RX0 46 yJ7_fill_53178 wsJ7_fill_53178) := goodIn_app (goodIn_of _ (by decide +kernel)) ggX0_leastReturn_J7_fill_53178
set_option maxRecDepth 20000 in
theorem ggX0_leastReturn_X0_stateAfter : GoodIn wsX0_leastReturn wsX0_stateAfter := goodIn_r _ [14, 15, 16, 17, 4, 18, 6, 44, 45, 46] (by decide +kernel) (by decide +kernel)
set_option maxRecDepth 20000 in
theorem gX0_leastReturn_X0_stateAfter : GoodIn wsX0_leastReturn (wsV RX0 52 RX0 yX0_stateAfter wsX0_stateAfter) := goodIn_app (goodIn_of _ (by decide +kernel)) ggX0_leastReturn_X0_stateAfter
set_option maxRecDepth 20000 in
theorem ggX0_leastReturn_X0_onesOf : GoodIn wsX0_leastReturn wsX0_onesOf := goodIn_r _ [22, 23, 24, 25, 4, 26, 27, 15, 16, 17, 18, 6, 28, 29, 30, 31, 32, 33, 34, 35, 36, 37, 38, 39, 44, 45, 46] (by decide +kernel) (by decide +kernel)
set_option maxRecDepth 20000 in
theorem gX0_leastReturn_X0_onesOf : GoodIn wsX0_leastReturn (wsV RX0 55 RX0 yX0_onesOf wsX0_onesOf) := goodIn_app (goodIn_of _ (by decide +kernel)) ggX0_leastReturn_X0_onesOf
set_option maxRecDepth 20000 in
theorem ggX0_leastReturn_X0_lowerAfter : GoodIn wsX0_leastReturn wsX0_lowerAfter := goodIn_r _ [43, 11, 12, 13, 4, 14, 15, 16, 17, 18, 6, 19, 20, 21, 22, 23, 24, 25, 26, 27, 28, 29, 30, 31, 32, 33, 34, 35, 36, 37, 38, 39, 44, 45, 46] (by decide +kernel) (by decide +kernel)
set_option maxRecDepth 20000 in
theorem gX0_leastReturn_X0_lowerAfter : GoodIn wsX0_leastReturn (wsV RX0 58 RX0 yX0_lowerAfter wsX0_lowerAfter) := goodIn_app (goodIn_of _ (by decide +kernel)) ggX0_leastReturn_X0_lowerAfter
theorem dX0_leastReturn_0 : decode cX0_leastReturn 0 = .ok (.aload_n 0, 1) := by decide +kernel
theorem dX0_leastReturn_1 : decode cX0_leastReturn 1 = .ok (.invokevirtual 26, 3) := by decide +kernel
theorem dX0_leastReturn_4 : decode cX0_leastReturn 4 = .ok (.istore_n 2, 1) := by decide +kernel
theorem dX0_leastReturn_5 : decode cX0_leastReturn 5 = .ok (.aload_n 1, 1) := by decide +kernel
theorem dX0_leastReturn_6 : decode cX0_leastReturn 6 = .ok (.iconst (-1), 1) := by decide +kernel
theorem dX0_leastReturn_7 : decode cX0_leastReturn 7 = .ok (.invokestatic 46, 3) := by decide +kernel
theorem dX0_leastReturn_10 : decode cX0_leastReturn 10 = .ok (.aload_n 1, 1) := by decide +kernel
theorem dX0_leastReturn_11 : decode cX0_leastReturn 11 = .ok (.aload_n 0, 1) := by decide +kernel
theorem dX0_leastReturn_12 : decode cX0_leastReturn 12 = .ok (.iconst 0, 1) := by decide +kernel
theorem dX0_leastReturn_13 : decode cX0_leastReturn 13 = .ok (.iconst 1, 1) := by decide +kernel
theorem dX0_leastReturn_14 : decode cX0_leastReturn 14 = .ok (.invokevirtual 52, 3) := by decide +kernel
theorem dX0_leastReturn_17 : decode cX0_leastReturn 17 = .ok (.aload_n 0, 1) := by decide +kernel
theorem dX0_leastReturn_18 : decode cX0_leastReturn 18 = .ok (.iconst 0, 1) := by decide +kernel
theorem dX0_leastReturn_19 : decode cX0_leastReturn 19 = .ok (.iconst 1, 1) := by decide +kernel
theorem dX0_leastReturn_20 : decode cX0_leastReturn 20 = .ok (.invokevirtual 55, 3) := by decide +kernel
theorem dX0_leastReturn_23 : decode cX0_leastReturn 23 = .ok (.iastore, 1) := by decide +kernel
theorem dX0_leastReturn_24 : decode cX0_leastReturn 24 = .ok (.iconst 0, 1) := by decide +kernel
theorem dX0_leastReturn_25 : decode cX0_leastReturn 25 = .ok (.istore_n 3, 1) := by decide +kernel
theorem dX0_leastReturn_26 : decode cX0_leastReturn 26 = .ok (.iload_n 3, 1) := by decide +kernel
theorem dX0_leastReturn_27 : decode cX0_leastReturn 27 = .ok (.iload_n 2, 1) := by decide +kernel
theorem dX0_leastReturn_28 : decode cX0_leastReturn 28 = .ok (.if_icmp .ge 31, 3) := by decide +kernel
theorem dX0_leastReturn_31 : decode cX0_leastReturn 31 = .ok (.iconst 1, 1) := by decide +kernel
theorem dX0_leastReturn_32 : decode cX0_leastReturn 32 = .ok (.istore 4, 2) := by decide +kernel
theorem dX0_leastReturn_34 : decode cX0_leastReturn 34 = .ok (.iload 4, 2) := by decide +kernel
theorem dX0_leastReturn_36 : decode cX0_leastReturn 36 = .ok (.iload_n 2, 1) := by decide +kernel
theorem dX0_leastReturn_37 : decode cX0_leastReturn 37 = .ok (.if_icmp .ge 16, 3) := by decide +kernel
theorem dX0_leastReturn_40 : decode cX0_leastReturn 40 = .ok (.aload_n 0, 1) := by decide +kernel
theorem dX0_leastReturn_41 : decode cX0_leastReturn 41 = .ok (.iload 4, 2) := by decide +kernel
theorem dX0_leastReturn_43 : decode cX0_leastReturn 43 = .ok (.aload_n 1, 1) := by decide +kernel
theorem dX0_leastReturn_44 : decode cX0_leastReturn 44 = .ok (.invokevirtual 58, 3) := by decide +kernel
theorem dX0_leastReturn_47 : decode cX0_leastReturn 47 = .ok (.iinc 4 1, 3) := by decide +kernel
theorem dX0_leastReturn_50 : decode cX0_leastReturn 50 = .ok (.goto (-16), 3) := by decide +kernel
theorem dX0_leastReturn_53 : decode cX0_leastReturn 53 = .ok (.iinc 3 1, 3) := by decide +kernel
theorem dX0_leastReturn_56 : decode cX0_leastReturn 56 = .ok (.goto (-30), 3) := by decide +kernel
theorem dX0_leastReturn_59 : decode cX0_leastReturn 59 = .ok (.aload_n 1, 1) := by decide +kernel
theorem dX0_leastReturn_60 : decode cX0_leastReturn 60 = .ok (.iconst 0, 1) := by decide +kernel
theorem dX0_leastReturn_61 : decode cX0_leastReturn 61 = .ok (.iaload, 1) := by decide +kernel
theorem dX0_leastReturn_62 : decode cX0_leastReturn 62 = .ok (.ireturn, 1) := by decide +kernel
set_option maxRecDepth 20000 in
theorem ggX0_lowerAfter_X0_stateAfter : GoodIn wsX0_lowerAfter wsX0_stateAfter := goodIn_r _ [5, 6, 7, 8, 4, 9, 10, 32, 33, 34] (by decide +kernel) (by decide +kernel)
set_option maxRecDepth 20000 in
theorem gX0_lowerAfter_X0_stateAfter : GoodIn wsX0_lowerAfter (wsV RX0 52 RX0 yX0_stateAfter wsX0_stateAfter) := goodIn_app (goodIn_of _ (by decide +kernel)) ggX0_lowerAfter_X0_stateAfter
set_option maxRecDepth 20000 in
theorem ggX0_lowerAfter_X0_onesOf : GoodIn wsX0_lowerAfter wsX0_onesOf := goodIn_r _ [14, 15, 16, 17, 4, 18, 19, 6, 7, 8, 9, 10, 20, 21, 22, 23, 24, 25, 26, 27, 28, 29, 30, 31, 32, 33, 34] (by decide +kernel) (by decide +kernel)
set_option maxRecDepth 20000 in
theorem gX0_lowerAfter_X0_onesOf : GoodIn wsX0_lowerAfter (wsV RX0 55 RX0 yX0_onesOf wsX0_onesOf) := goodIn_app (goodIn_of _ (by decide +kernel)) ggX0_lowerAfter_X0_onesOf
theorem dX0_lowerAfter_0 : decode cX0_lowerAfter 0 = .ok (.aload_n 2, 1) := by decide +kernel
theorem dX0_lowerAfter_1 : decode cX0_lowerAfter 1 = .ok (.iload_n 1, 1) := by decide +kernel
theorem dX0_lowerAfter_2 : decode cX0_lowerAfter 2 = .ok (.iaload, 1) := by decide +kernel
theorem dX0_lowerAfter_3 : decode cX0_lowerAfter 3 = .ok (.istore_n 3, 1) := by decide +kernel
theorem dX0_lowerAfter_4 : decode cX0_lowerAfter 4 = .ok (.iload_n 3, 1) := by decide +kernel
theorem dX0_lowerAfter_5 : decode cX0_lowerAfter 5 = .ok (.iconst (-1), 1) := by decide +kernel
theorem dX0_lowerAfter_6 : decode cX0_lowerAfter 6 = .ok (.if_icmp .ne 4, 3) := by decide +kernel
theorem dX0_lowerAfter_9 : decode cX0_lowerAfter 9 = .ok (.return_, 1) := by decide +kernel
theorem dX0_lowerAfter_10 : decode cX0_lowerAfter 10 = .ok (.iconst 0, 1) := by decide +kernel
theorem dX0_lowerAfter_11 : decode cX0_lowerAfter 11 = .ok (.istore 4, 2) := by decide +kernel
theorem dX0_lowerAfter_13 : decode cX0_lowerAfter 13 = .ok (.iload 4, 2) := by decide +kernel
theorem dX0_lowerAfter_15 : decode cX0_lowerAfter 15 = .ok (.iconst 2, 1) := by decide +kernel
theorem dX0_lowerAfter_16 : decode cX0_lowerAfter 16 = .ok (.if_icmp .ge 52, 3) := by decide +kernel
theorem dX0_lowerAfter_19 : decode cX0_lowerAfter 19 = .ok (.aload_n 0, 1) := by decide +kernel
theorem dX0_lowerAfter_20 : decode cX0_lowerAfter 20 = .ok (.iload_n 1, 1) := by decide +kernel
theorem dX0_lowerAfter_21 : decode cX0_lowerAfter 21 = .ok (.iload 4, 2) := by decide +kernel
theorem dX0_lowerAfter_23 : decode cX0_lowerAfter 23 = .ok (.invokevirtual 52, 3) := by decide +kernel
theorem dX0_lowerAfter_26 : decode cX0_lowerAfter 26 = .ok (.istore 5, 2) := by decide +kernel
theorem dX0_lowerAfter_28 : decode cX0_lowerAfter 28 = .ok (.iload_n 3, 1) := by decide +kernel
theorem dX0_lowerAfter_29 : decode cX0_lowerAfter 29 = .ok (.aload_n 0, 1) := by decide +kernel
theorem dX0_lowerAfter_30 : decode cX0_lowerAfter 30 = .ok (.iload_n 1, 1) := by decide +kernel
theorem dX0_lowerAfter_31 : decode cX0_lowerAfter 31 = .ok (.iload 4, 2) := by decide +kernel
theorem dX0_lowerAfter_33 : decode cX0_lowerAfter 33 = .ok (.invokevirtual 55, 3) := by decide +kernel
theorem dX0_lowerAfter_36 : decode cX0_lowerAfter 36 = .ok (.iadd, 1) := by decide +kernel
theorem dX0_lowerAfter_37 : decode cX0_lowerAfter 37 = .ok (.istore 6, 2) := by decide +kernel
theorem dX0_lowerAfter_39 : decode cX0_lowerAfter 39 = .ok (.aload_n 2, 1) := by decide +kernel
theorem dX0_lowerAfter_40 : decode cX0_lowerAfter 40 = .ok (.iload 5, 2) := by decide +kernel
theorem dX0_lowerAfter_42 : decode cX0_lowerAfter 42 = .ok (.iaload, 1) := by decide +kernel
theorem dX0_lowerAfter_43 : decode cX0_lowerAfter 43 = .ok (.iconst (-1), 1) := by decide +kernel
theorem dX0_lowerAfter_44 : decode cX0_lowerAfter 44 = .ok (.if_icmp .eq 12, 3) := by decide +kernel
theorem dX0_lowerAfter_47 : decode cX0_lowerAfter 47 = .ok (.iload 6, 2) := by decide +kernel
theorem dX0_lowerAfter_49 : decode cX0_lowerAfter 49 = .ok (.aload_n 2, 1) := by decide +kernel
theorem dX0_lowerAfter_50 : decode cX0_lowerAfter 50 = .ok (.iload 5, 2) := by decide +kernel
theorem dX0_lowerAfter_52 : decode cX0_lowerAfter 52 = .ok (.iaload, 1) := by decide +kernel
theorem dX0_lowerAfter_53 : decode cX0_lowerAfter 53 = .ok (.if_icmp .ge 9, 3) := by decide +kernel
theorem dX0_lowerAfter_56 : decode cX0_lowerAfter 56 = .ok (.aload_n 2, 1) := by decide +kernel
theorem dX0_lowerAfter_57 : decode cX0_lowerAfter 57 = .ok (.iload 5, 2) := by decide +kernel
theorem dX0_lowerAfter_59 : decode cX0_lowerAfter 59 = .ok (.iload 6, 2) := by decide +kernel
theorem dX0_lowerAfter_61 : decode cX0_lowerAfter 61 = .ok (.iastore, 1) := by decide +kernel
theorem dX0_lowerAfter_62 : decode cX0_lowerAfter 62 = .ok (.iinc 4 1, 3) := by decide +kernel
theorem dX0_lowerAfter_65 : decode cX0_lowerAfter 65 = .ok (.goto (-52), 3) := by decide +kernel
theorem dX0_lowerAfter_68 : decode cX0_lowerAfter 68 = .ok (.return_, 1) := by decide +kernel
set_option maxRecDepth 20000 in
theorem ggX0_hasRingOfZeros_X0_states : GoodIn wsX0_hasRingOfZeros wsX0_states := goodIn_r _ [6, 7, 37, 38, 39] (by decide +kernel) (by decide +kernel)
set_option maxRecDepth 20000 in
theorem gX0_hasRingOfZeros_X0_states : GoodIn wsX0_hasRingOfZeros (wsV RX0 26 RX0 yX0_states wsX0_states) := goodIn_app (goodIn_of _ (by decide +kernel)) ggX0_hasRingOfZeros_X0_states
set_option maxRecDepth 20000 in
theorem ggX0_hasRingOfZeros_X0_leadsOnByZeros : GoodIn wsX0_hasRingOfZeros wsX0_leadsOnByZeros := goodIn_r _ [11, 12, 13, 14, 5, 15, 16, 17, 18, 19, 20, 7, 21, 22, 23, 24, 25, 26, 27, 28, 29, 30, 31, 32, 33, 34, 35, 36, 37, 38, 39] (by decide +kernel) (by decide +kernel)
set_option maxRecDepth 20000 in
theorem gX0_hasRingOfZeros_X0_leadsOnByZeros : GoodIn wsX0_hasRingOfZeros (wsV RX0 64 RX0 yX0_leadsOnByZeros wsX0_leadsOnByZeros) := goodIn_app (goodIn_of _ (by decide +kernel)) ggX0_hasRingOfZeros_X0_leadsOnByZeros
theorem dX0_hasRingOfZeros_0 : decode cX0_hasRingOfZeros 0 = .ok (.aload_n 0, 1) := by decide +kernel
theorem dX0_hasRingOfZeros_1 : decode cX0_hasRingOfZeros 1 = .ok (.invokevirtual 26, 3) := by decide +kernel
theorem dX0_hasRingOfZeros_4 : decode cX0_hasRingOfZeros 4 = .ok (.istore_n 1, 1) := by decide +kernel
theorem dX0_hasRingOfZeros_5 : decode cX0_hasRingOfZeros 5 = .ok (.lconst 1, 1) := by decide +kernel
theorem dX0_hasRingOfZeros_6 : decode cX0_hasRingOfZeros 6 = .ok (.iload_n 1, 1) := by decide +kernel
theorem dX0_hasRingOfZeros_7 : decode cX0_hasRingOfZeros 7 = .ok (.lshl, 1) := by decide +kernel
theorem dX0_hasRingOfZeros_8 : decode cX0_hasRingOfZeros 8 = .ok (.ldc2_w 62, 3) := by decide +kernel
theorem dX0_hasRingOfZeros_11 : decode cX0_hasRingOfZeros 11 = .ok (.lsub, 1) := by decide +kernel
theorem dX0_hasRingOfZeros_12 : decode cX0_hasRingOfZeros 12 = .ok (.lstore_n 2, 1) := by decide +kernel
theorem dX0_hasRingOfZeros_13 : decode cX0_hasRingOfZeros 13 = .ok (.iconst 0, 1) := by decide +kernel
theorem dX0_hasRingOfZeros_14 : decode cX0_hasRingOfZeros 14 = .ok (.istore 4, 2) := by decide +kernel
theorem dX0_hasRingOfZeros_16 : decode cX0_hasRingOfZeros 16 = .ok (.iload 4, 2) := by decide +kernel
theorem dX0_hasRingOfZeros_18 : decode cX0_hasRingOfZeros 18 = .ok (.iload_n 1, 1) := by decide +kernel
theorem dX0_hasRingOfZeros_19 : decode cX0_hasRingOfZeros 19 = .ok (.if_icmp .ge 60, 3) := by decide +kernel
theorem dX0_hasRingOfZeros_22 : decode cX0_hasRingOfZeros 22 = .ok (.lconst 0, 1) := by decide +kernel
theorem dX0_hasRingOfZeros_23 : decode cX0_hasRingOfZeros 23 = .ok (.lstore 5, 2) := by decide +kernel
theorem dX0_hasRingOfZeros_25 : decode cX0_hasRingOfZeros 25 = .ok (.iconst 1, 1) := by decide +kernel
theorem dX0_hasRingOfZeros_26 : decode cX0_hasRingOfZeros 26 = .ok (.istore 7, 2) := by decide +kernel
theorem dX0_hasRingOfZeros_28 : decode cX0_hasRingOfZeros 28 = .ok (.iload 7, 2) := by decide +kernel
theorem dX0_hasRingOfZeros_30 : decode cX0_hasRingOfZeros 30 = .ok (.iload_n 1, 1) := by decide +kernel
theorem dX0_hasRingOfZeros_31 : decode cX0_hasRingOfZeros 31 = .ok (.if_icmp .ge 39, 3) := by decide +kernel
theorem dX0_hasRingOfZeros_34 : decode cX0_hasRingOfZeros 34 = .ok (.lload_n 2, 1) := by decide +kernel
theorem dX0_hasRingOfZeros_35 : decode cX0_hasRingOfZeros 35 = .ok (.iload 7, 2) := by decide +kernel
theorem dX0_hasRingOfZeros_37 : decode cX0_hasRingOfZeros 37 = .ok (.lshr, 1) := by decide +kernel
theorem dX0_hasRingOfZeros_38 : decode cX0_hasRingOfZeros 38 = .ok (.lconst 1, 1) := by decide +kernel
theorem dX0_hasRingOfZeros_39 : decode cX0_hasRingOfZeros 39 = .ok (.land, 1) := by decide +kernel
theorem dX0_hasRingOfZeros_40 : decode cX0_hasRingOfZeros 40 = .ok (.lconst 1, 1) := by decide +kernel
theorem dX0_hasRingOfZeros_41 : decode cX0_hasRingOfZeros 41 = .ok (.lcmp, 1) := by decide +kernel
theorem dX0_hasRingOfZeros_42 : decode cX0_hasRingOfZeros 42 = .ok (.ifCond .ne 22, 3) := by decide +kernel
theorem dX0_hasRingOfZeros_45 : decode cX0_hasRingOfZeros 45 = .ok (.aload_n 0, 1) := by decide +kernel
theorem dX0_hasRingOfZeros_46 : decode cX0_hasRingOfZeros 46 = .ok (.iload 7, 2) := by decide +kernel
theorem dX0_hasRingOfZeros_48 : decode cX0_hasRingOfZeros 48 = .ok (.lload_n 2, 1) := by decide +kernel
theorem dX0_hasRingOfZeros_49 : decode cX0_hasRingOfZeros 49 = .ok (.invokevirtual 64, 3) := by decide +kernel
theorem dX0_hasRingOfZeros_52 : decode cX0_hasRingOfZeros 52 = .ok (.ifCond .eq 12, 3) := by decide +kernel
theorem dX0_hasRingOfZeros_55 : decode cX0_hasRingOfZeros 55 = .ok (.lload 5, 2) := by decide +kernel
theorem dX0_hasRingOfZeros_57 : decode cX0_hasRingOfZeros 57 = .ok (.lconst 1, 1) := by decide +kernel
theorem dX0_hasRingOfZeros_58 : decode cX0_hasRingOfZeros 58 = .ok (.iload 7, 2) := by decide +kernel
theorem dX0_hasRingOfZeros_60 : decode cX0_hasRingOfZeros 60 = .ok (.lshl, 1) := by decide +kernel
theorem dX0_hasRingOfZeros_61 : decode cX0_hasRingOfZeros 61 = .ok (.lor, 1) := by decide +kernel
theorem dX0_hasRingOfZeros_62 : decode cX0_hasRingOfZeros 62 = .ok (.lstore 5, 2) := by decide +kernel
theorem dX0_hasRingOfZeros_64 : decode cX0_hasRingOfZeros 64 = .ok (.iinc 7 1, 3) := by decide +kernel
theorem dX0_hasRingOfZeros_67 : decode cX0_hasRingOfZeros 67 = .ok (.goto (-39), 3) := by decide +kernel
theorem dX0_hasRingOfZeros_70 : decode cX0_hasRingOfZeros 70 = .ok (.lload 5, 2) := by decide +kernel
theorem dX0_hasRingOfZeros_72 : decode cX0_hasRingOfZeros 72 = .ok (.lstore_n 2, 1) := by decide +kernel
theorem dX0_hasRingOfZeros_73 : decode cX0_hasRingOfZeros 73 = .ok (.iinc 4 1, 3) := by decide +kernel
theorem dX0_hasRingOfZeros_76 : decode cX0_hasRingOfZeros 76 = .ok (.goto (-60), 3) := by decide +kernel
theorem dX0_hasRingOfZeros_79 : decode cX0_hasRingOfZeros 79 = .ok (.lload_n 2, 1) := by decide +kernel
theorem dX0_hasRingOfZeros_80 : decode cX0_hasRingOfZeros 80 = .ok (.lconst 0, 1) := by decide +kernel
theorem dX0_hasRingOfZeros_81 : decode cX0_hasRingOfZeros 81 = .ok (.lcmp, 1) := by decide +kernel
theorem dX0_hasRingOfZeros_82 : decode cX0_hasRingOfZeros 82 = .ok (.ifCond .eq 7, 3) := by decide +kernel
theorem dX0_hasRingOfZeros_85 : decode cX0_hasRingOfZeros 85 = .ok (.iconst 1, 1) := by decide +kernel
theorem dX0_hasRingOfZeros_86 : decode cX0_hasRingOfZeros 86 = .ok (.goto 4, 3) := by decide +kernel
theorem dX0_hasRingOfZeros_89 : decode cX0_hasRingOfZeros 89 = .ok (.iconst 0, 1) := by decide +kernel
theorem dX0_hasRingOfZeros_90 : decode cX0_hasRingOfZeros 90 = .ok (.ireturn, 1) := by decide +kernel
set_option maxRecDepth 20000 in
theorem ggX0_leadsOnByZeros_X0_symbolsOf : GoodIn wsX0_leadsOnByZeros wsX0_symbolsOf := goodIn_r _ [5, 6, 7, 8, 9, 4, 10, 11, 12, 13, 14, 15, 16, 17, 18, 19, 20, 21, 22, 23, 28, 29, 30] (by decide +kernel) (by decide +kernel)
set_option maxRecDepth 20000 in
theorem gX0_leadsOnByZeros_X0_symbolsOf : GoodIn wsX0_leadsOnByZeros (wsV RX0 43 RX0 yX0_symbolsOf wsX0_symbolsOf) := goodIn_app (goodIn_of _ (by decide +kernel)) ggX0_leadsOnByZeros_X0_symbolsOf
set_option maxRecDepth 20000 in
theorem ggX0_leadsOnByZeros_X0_stateAfter : GoodIn wsX0_leadsOnByZeros wsX0_stateAfter := goodIn_r _ [27, 7, 8, 9, 4, 10, 11, 28, 29, 30] (by decide +kernel) (by decide +kernel)
set_option maxRecDepth 20000 in
theorem gX0_leadsOnByZeros_X0_stateAfter : GoodIn wsX0_leadsOnByZeros (wsV RX0 52 RX0 yX0_stateAfter wsX0_stateAfter) := goodIn_app (goodIn_of _ (by decide +kernel)) ggX0_leadsOnByZeros_X0_stateAfter
theorem dX0_leadsOnByZeros_0 : decode cX0_leadsOnByZeros 0 = .ok (.iconst 0, 1) := by decide +kernel
theorem dX0_leadsOnByZeros_1 : decode cX0_leadsOnByZeros 1 = .ok (.istore 4, 2) := by decide +kernel
theorem dX0_leadsOnByZeros_3 : decode cX0_leadsOnByZeros 3 = .ok (.iload 4, 2) := by decide +kernel
theorem dX0_leadsOnByZeros_5 : decode cX0_leadsOnByZeros 5 = .ok (.iconst 2, 1) := by decide +kernel
theorem dX0_leadsOnByZeros_6 : decode cX0_leadsOnByZeros 6 = .ok (.if_icmp .ge 37, 3) := by decide +kernel
theorem dX0_leadsOnByZeros_9 : decode cX0_leadsOnByZeros 9 = .ok (.aload_n 0, 1) := by decide +kernel
theorem dX0_leadsOnByZeros_10 : decode cX0_leadsOnByZeros 10 = .ok (.iload_n 1, 1) := by decide +kernel
theorem dX0_leadsOnByZeros_11 : decode cX0_leadsOnByZeros 11 = .ok (.iload 4, 2) := by decide +kernel
theorem dX0_leadsOnByZeros_13 : decode cX0_leadsOnByZeros 13 = .ok (.invokevirtual 43, 3) := by decide +kernel
theorem dX0_leadsOnByZeros_16 : decode cX0_leadsOnByZeros 16 = .ok (.ifCond .ne 21, 3) := by decide +kernel
theorem dX0_leadsOnByZeros_19 : decode cX0_leadsOnByZeros 19 = .ok (.lload_n 2, 1) := by decide +kernel
theorem dX0_leadsOnByZeros_20 : decode cX0_leadsOnByZeros 20 = .ok (.aload_n 0, 1) := by decide +kernel
theorem dX0_leadsOnByZeros_21 : decode cX0_leadsOnByZeros 21 = .ok (.iload_n 1, 1) := by decide +kernel
theorem dX0_leadsOnByZeros_22 : decode cX0_leadsOnByZeros 22 = .ok (.iload 4, 2) := by decide +kernel
theorem dX0_leadsOnByZeros_24 : decode cX0_leadsOnByZeros 24 = .ok (.invokevirtual 52, 3) := by decide +kernel
theorem dX0_leadsOnByZeros_27 : decode cX0_leadsOnByZeros 27 = .ok (.lshr, 1) := by decide +kernel
theorem dX0_leadsOnByZeros_28 : decode cX0_leadsOnByZeros 28 = .ok (.lconst 1, 1) := by decide +kernel
theorem dX0_leadsOnByZeros_29 : decode cX0_leadsOnByZeros 29 = .ok (.land, 1) := by decide +kernel
theorem dX0_leadsOnByZeros_30 : decode cX0_leadsOnByZeros 30 = .ok (.lconst 1, 1) := by decide +kernel
theorem dX0_leadsOnByZeros_31 : decode cX0_leadsOnByZeros 31 = .ok (.lcmp, 1) := by decide +kernel
theorem dX0_leadsOnByZeros_32 : decode cX0_leadsOnByZeros 32 = .ok (.ifCond .ne 5, 3) := by decide +kernel
theorem dX0_leadsOnByZeros_35 : decode cX0_leadsOnByZeros 35 = .ok (.iconst 1, 1) := by decide +kernel
theorem dX0_leadsOnByZeros_36 : decode cX0_leadsOnByZeros 36 = .ok (.ireturn, 1) := by decide +kernel
theorem dX0_leadsOnByZeros_37 : decode cX0_leadsOnByZeros 37 = .ok (.iinc 4 1, 3) := by decide +kernel
theorem dX0_leadsOnByZeros_40 : decode cX0_leadsOnByZeros 40 = .ok (.goto (-37), 3) := by decide +kernel
theorem dX0_leadsOnByZeros_43 : decode cX0_leadsOnByZeros 43 = .ok (.iconst 0, 1) := by decide +kernel
theorem dX0_leadsOnByZeros_44 : decode cX0_leadsOnByZeros 44 = .ok (.ireturn, 1) := by decide +kernel
theorem dJ6_bitCount_0f7a4_0 : decode cJ6_bitCount_0f7a4 0 = .ok (.iload_n 0, 1) := by decide +kernel
theorem dJ6_bitCount_0f7a4_1 : decode cJ6_bitCount_0f7a4 1 = .ok (.iload_n 0, 1) := by decide +kernel
theorem dJ6_bitCount_0f7a4_2 : decode cJ6_bitCount_0f7a4 2 = .ok (.iconst 1, 1) := by decide +kernel
theorem dJ6_bitCount_0f7a4_3 : decode cJ6_bitCount_0f7a4 3 = .ok (.iushr, 1) := by decide +kernel
theorem dJ6_bitCount_0f7a4_4 : decode cJ6_bitCount_0f7a4 4 = .ok (.ldc_w 265, 3) := by decide +kernel
theorem dJ6_bitCount_0f7a4_7 : decode cJ6_bitCount_0f7a4 7 = .ok (.iand, 1) := by decide +kernel
theorem dJ6_bitCount_0f7a4_8 : decode cJ6_bitCount_0f7a4 8 = .ok (.isub, 1) := by decide +kernel
theorem dJ6_bitCount_0f7a4_9 : decode cJ6_bitCount_0f7a4 9 = .ok (.istore_n 0, 1) := by decide +kernel
theorem dJ6_bitCount_0f7a4_10 : decode cJ6_bitCount_0f7a4 10 = .ok (.iload_n 0, 1) := by decide +kernel
theorem dJ6_bitCount_0f7a4_11 : decode cJ6_bitCount_0f7a4 11 = .ok (.ldc_w 266, 3) := by decide +kernel
theorem dJ6_bitCount_0f7a4_14 : decode cJ6_bitCount_0f7a4 14 = .ok (.iand, 1) := by decide +kernel
theorem dJ6_bitCount_0f7a4_15 : decode cJ6_bitCount_0f7a4 15 = .ok (.iload_n 0, 1) := by decide +kernel
theorem dJ6_bitCount_0f7a4_16 : decode cJ6_bitCount_0f7a4 16 = .ok (.iconst 2, 1) := by decide +kernel
theorem dJ6_bitCount_0f7a4_17 : decode cJ6_bitCount_0f7a4 17 = .ok (.iushr, 1) := by decide +kernel
theorem dJ6_bitCount_0f7a4_18 : decode cJ6_bitCount_0f7a4 18 = .ok (.ldc_w 266, 3) := by decide +kernel
theorem dJ6_bitCount_0f7a4_21 : decode cJ6_bitCount_0f7a4 21 = .ok (.iand, 1) := by decide +kernel
theorem dJ6_bitCount_0f7a4_22 : decode cJ6_bitCount_0f7a4 22 = .ok (.iadd, 1) := by decide +kernel
theorem dJ6_bitCount_0f7a4_23 : decode cJ6_bitCount_0f7a4 23 = .ok (.istore_n 0, 1) := by decide +kernel
theorem dJ6_bitCount_0f7a4_24 : decode cJ6_bitCount_0f7a4 24 = .ok (.iload_n 0, 1) := by decide +kernel
theorem dJ6_bitCount_0f7a4_25 : decode cJ6_bitCount_0f7a4 25 = .ok (.iload_n 0, 1) := by decide +kernel
theorem dJ6_bitCount_0f7a4_26 : decode cJ6_bitCount_0f7a4 26 = .ok (.iconst 4, 1) := by decide +kernel
theorem dJ6_bitCount_0f7a4_27 : decode cJ6_bitCount_0f7a4 27 = .ok (.iushr, 1) := by decide +kernel
theorem dJ6_bitCount_0f7a4_28 : decode cJ6_bitCount_0f7a4 28 = .ok (.iadd, 1) := by decide +kernel
theorem dJ6_bitCount_0f7a4_29 : decode cJ6_bitCount_0f7a4 29 = .ok (.ldc_w 267, 3) := by decide +kernel
theorem dJ6_bitCount_0f7a4_32 : decode cJ6_bitCount_0f7a4 32 = .ok (.iand, 1) := by decide +kernel
theorem dJ6_bitCount_0f7a4_33 : decode cJ6_bitCount_0f7a4 33 = .ok (.istore_n 0, 1) := by decide +kernel
theorem dJ6_bitCount_0f7a4_34 : decode cJ6_bitCount_0f7a4 34 = .ok (.iload_n 0, 1) := by decide +kernel
theorem dJ6_bitCount_0f7a4_35 : decode cJ6_bitCount_0f7a4 35 = .ok (.iload_n 0, 1) := by decide +kernel
theorem dJ6_bitCount_0f7a4_36 : decode cJ6_bitCount_0f7a4 36 = .ok (.bipush 8, 2) := by decide +kernel
theorem dJ6_bitCount_0f7a4_38 : decode cJ6_bitCount_0f7a4 38 = .ok (.iushr, 1) := by decide +kernel
theorem dJ6_bitCount_0f7a4_39 : decode cJ6_bitCount_0f7a4 39 = .ok (.iadd, 1) := by decide +kernel
theorem dJ6_bitCount_0f7a4_40 : decode cJ6_bitCount_0f7a4 40 = .ok (.istore_n 0, 1) := by decide +kernel
theorem dJ6_bitCount_0f7a4_41 : decode cJ6_bitCount_0f7a4 41 = .ok (.iload_n 0, 1) := by decide +kernel
theorem dJ6_bitCount_0f7a4_42 : decode cJ6_bitCount_0f7a4 42 = .ok (.iload_n 0, 1) := by decide +kernel
theorem dJ6_bitCount_0f7a4_43 : decode cJ6_bitCount_0f7a4 43 = .ok (.bipush 16, 2) := by decide +kernel
theorem dJ6_bitCount_0f7a4_45 : decode cJ6_bitCount_0f7a4 45 = .ok (.iushr, 1) := by decide +kernel
theorem dJ6_bitCount_0f7a4_46 : decode cJ6_bitCount_0f7a4 46 = .ok (.iadd, 1) := by decide +kernel
theorem dJ6_bitCount_0f7a4_47 : decode cJ6_bitCount_0f7a4 47 = .ok (.istore_n 0, 1) := by decide +kernel
theorem dJ6_bitCount_0f7a4_48 : decode cJ6_bitCount_0f7a4 48 = .ok (.iload_n 0, 1) := by decide +kernel
theorem dJ6_bitCount_0f7a4_49 : decode cJ6_bitCount_0f7a4 49 = .ok (.bipush 63, 2) := by decide +kernel
theorem dJ6_bitCount_0f7a4_51 : decode cJ6_bitCount_0f7a4 51 = .ok (.iand, 1) := by decide +kernel
theorem dJ6_bitCount_0f7a4_52 : decode cJ6_bitCount_0f7a4 52 = .ok (.ireturn, 1) := by decide +kernel
theorem dJ13_bitCount_95d88_0 : decode cJ13_bitCount_95d88 0 = .ok (.lload_n 0, 1) := by decide +kernel
theorem dJ13_bitCount_95d88_1 : decode cJ13_bitCount_95d88 1 = .ok (.lload_n 0, 1) := by decide +kernel
theorem dJ13_bitCount_95d88_2 : decode cJ13_bitCount_95d88 2 = .ok (.iconst 1, 1) := by decide +kernel
theorem dJ13_bitCount_95d88_3 : decode cJ13_bitCount_95d88 3 = .ok (.lushr, 1) := by decide +kernel
theorem dJ13_bitCount_95d88_4 : decode cJ13_bitCount_95d88 4 = .ok (.ldc2_w 314, 3) := by decide +kernel
theorem dJ13_bitCount_95d88_7 : decode cJ13_bitCount_95d88 7 = .ok (.land, 1) := by decide +kernel
theorem dJ13_bitCount_95d88_8 : decode cJ13_bitCount_95d88 8 = .ok (.lsub, 1) := by decide +kernel
theorem dJ13_bitCount_95d88_9 : decode cJ13_bitCount_95d88 9 = .ok (.lstore_n 0, 1) := by decide +kernel
theorem dJ13_bitCount_95d88_10 : decode cJ13_bitCount_95d88 10 = .ok (.lload_n 0, 1) := by decide +kernel
theorem dJ13_bitCount_95d88_11 : decode cJ13_bitCount_95d88 11 = .ok (.ldc2_w 316, 3) := by decide +kernel
theorem dJ13_bitCount_95d88_14 : decode cJ13_bitCount_95d88 14 = .ok (.land, 1) := by decide +kernel
theorem dJ13_bitCount_95d88_15 : decode cJ13_bitCount_95d88 15 = .ok (.lload_n 0, 1) := by decide +kernel
theorem dJ13_bitCount_95d88_16 : decode cJ13_bitCount_95d88 16 = .ok (.iconst 2, 1) := by decide +kernel
theorem dJ13_bitCount_95d88_17 : decode cJ13_bitCount_95d88 17 = .ok (.lushr, 1) := by decide +kernel
theorem dJ13_bitCount_95d88_18 : decode cJ13_bitCount_95d88 18 = .ok (.ldc2_w 316, 3) := by decide +kernel
theorem dJ13_bitCount_95d88_21 : decode cJ13_bitCount_95d88 21 = .ok (.land, 1) := by decide +kernel
theorem dJ13_bitCount_95d88_22 : decode cJ13_bitCount_95d88 22 = .ok (.ladd, 1) := by decide +kernel
theorem dJ13_bitCount_95d88_23 : decode cJ13_bitCount_95d88 23 = .ok (.lstore_n 0, 1) := by decide +kernel
theorem dJ13_bitCount_95d88_24 : decode cJ13_bitCount_95d88 24 = .ok (.lload_n 0, 1) := by decide +kernel
theorem dJ13_bitCount_95d88_25 : decode cJ13_bitCount_95d88 25 = .ok (.lload_n 0, 1) := by decide +kernel
theorem dJ13_bitCount_95d88_26 : decode cJ13_bitCount_95d88 26 = .ok (.iconst 4, 1) := by decide +kernel
theorem dJ13_bitCount_95d88_27 : decode cJ13_bitCount_95d88 27 = .ok (.lushr, 1) := by decide +kernel
theorem dJ13_bitCount_95d88_28 : decode cJ13_bitCount_95d88 28 = .ok (.ladd, 1) := by decide +kernel
theorem dJ13_bitCount_95d88_29 : decode cJ13_bitCount_95d88 29 = .ok (.ldc2_w 318, 3) := by decide +kernel
theorem dJ13_bitCount_95d88_32 : decode cJ13_bitCount_95d88 32 = .ok (.land, 1) := by decide +kernel
theorem dJ13_bitCount_95d88_33 : decode cJ13_bitCount_95d88 33 = .ok (.lstore_n 0, 1) := by decide +kernel
theorem dJ13_bitCount_95d88_34 : decode cJ13_bitCount_95d88 34 = .ok (.lload_n 0, 1) := by decide +kernel
theorem dJ13_bitCount_95d88_35 : decode cJ13_bitCount_95d88 35 = .ok (.lload_n 0, 1) := by decide +kernel
theorem dJ13_bitCount_95d88_36 : decode cJ13_bitCount_95d88 36 = .ok (.bipush 8, 2) := by decide +kernel
theorem dJ13_bitCount_95d88_38 : decode cJ13_bitCount_95d88 38 = .ok (.lushr, 1) := by decide +kernel
theorem dJ13_bitCount_95d88_39 : decode cJ13_bitCount_95d88 39 = .ok (.ladd, 1) := by decide +kernel
theorem dJ13_bitCount_95d88_40 : decode cJ13_bitCount_95d88 40 = .ok (.lstore_n 0, 1) := by decide +kernel
theorem dJ13_bitCount_95d88_41 : decode cJ13_bitCount_95d88 41 = .ok (.lload_n 0, 1) := by decide +kernel
theorem dJ13_bitCount_95d88_42 : decode cJ13_bitCount_95d88 42 = .ok (.lload_n 0, 1) := by decide +kernel
theorem dJ13_bitCount_95d88_43 : decode cJ13_bitCount_95d88 43 = .ok (.bipush 16, 2) := by decide +kernel
theorem dJ13_bitCount_95d88_45 : decode cJ13_bitCount_95d88 45 = .ok (.lushr, 1) := by decide +kernel
theorem dJ13_bitCount_95d88_46 : decode cJ13_bitCount_95d88 46 = .ok (.ladd, 1) := by decide +kernel
theorem dJ13_bitCount_95d88_47 : decode cJ13_bitCount_95d88 47 = .ok (.lstore_n 0, 1) := by decide +kernel
theorem dJ13_bitCount_95d88_48 : decode cJ13_bitCount_95d88 48 = .ok (.lload_n 0, 1) := by decide +kernel
theorem dJ13_bitCount_95d88_49 : decode cJ13_bitCount_95d88 49 = .ok (.lload_n 0, 1) := by decide +kernel
theorem dJ13_bitCount_95d88_50 : decode cJ13_bitCount_95d88 50 = .ok (.bipush 32, 2) := by decide +kernel
theorem dJ13_bitCount_95d88_52 : decode cJ13_bitCount_95d88 52 = .ok (.lushr, 1) := by decide +kernel
theorem dJ13_bitCount_95d88_53 : decode cJ13_bitCount_95d88 53 = .ok (.ladd, 1) := by decide +kernel
theorem dJ13_bitCount_95d88_54 : decode cJ13_bitCount_95d88 54 = .ok (.lstore_n 0, 1) := by decide +kernel
theorem dJ13_bitCount_95d88_55 : decode cJ13_bitCount_95d88 55 = .ok (.lload_n 0, 1) := by decide +kernel
theorem dJ13_bitCount_95d88_56 : decode cJ13_bitCount_95d88 56 = .ok (.l2i, 1) := by decide +kernel
theorem dJ13_bitCount_95d88_57 : decode cJ13_bitCount_95d88 57 = .ok (.bipush 127, 2) := by decide +kernel
theorem dJ13_bitCount_95d88_59 : decode cJ13_bitCount_95d88 59 = .ok (.iand, 1) := by decide +kernel
theorem dJ13_bitCount_95d88_60 : decode cJ13_bitCount_95d88 60 = .ok (.ireturn, 1) := by decide +kernel
theorem dJ9_min_7cf53_0 : decode cJ9_min_7cf53 0 = .ok (.iload_n 0, 1) := by decide +kernel
theorem dJ9_min_7cf53_1 : decode cJ9_min_7cf53 1 = .ok (.iload_n 1, 1) := by decide +kernel
theorem dJ9_min_7cf53_2 : decode cJ9_min_7cf53 2 = .ok (.if_icmp .gt 7, 3) := by decide +kernel
theorem dJ9_min_7cf53_5 : decode cJ9_min_7cf53 5 = .ok (.iload_n 0, 1) := by decide +kernel
theorem dJ9_min_7cf53_6 : decode cJ9_min_7cf53 6 = .ok (.goto 4, 3) := by decide +kernel
theorem dJ9_min_7cf53_9 : decode cJ9_min_7cf53 9 = .ok (.iload_n 1, 1) := by decide +kernel
theorem dJ9_min_7cf53_10 : decode cJ9_min_7cf53 10 = .ok (.ireturn, 1) := by decide +kernel
theorem dJ7_fill_53178_0 : decode cJ7_fill_53178 0 = .ok (.iconst 0, 1) := by decide +kernel
theorem dJ7_fill_53178_1 : decode cJ7_fill_53178 1 = .ok (.istore_n 2, 1) := by decide +kernel
theorem dJ7_fill_53178_2 : decode cJ7_fill_53178 2 = .ok (.aload_n 0, 1) := by decide +kernel
theorem dJ7_fill_53178_3 : decode cJ7_fill_53178 3 = .ok (.arraylength, 1) := by decide +kernel
theorem dJ7_fill_53178_4 : decode cJ7_fill_53178 4 = .ok (.istore_n 3, 1) := by decide +kernel
theorem dJ7_fill_53178_5 : decode cJ7_fill_53178 5 = .ok (.iload_n 2, 1) := by decide +kernel
theorem dJ7_fill_53178_6 : decode cJ7_fill_53178 6 = .ok (.iload_n 3, 1) := by decide +kernel
theorem dJ7_fill_53178_7 : decode cJ7_fill_53178 7 = .ok (.if_icmp .ge 13, 3) := by decide +kernel
theorem dJ7_fill_53178_10 : decode cJ7_fill_53178 10 = .ok (.aload_n 0, 1) := by decide +kernel
theorem dJ7_fill_53178_11 : decode cJ7_fill_53178 11 = .ok (.iload_n 2, 1) := by decide +kernel
theorem dJ7_fill_53178_12 : decode cJ7_fill_53178 12 = .ok (.iload_n 1, 1) := by decide +kernel
theorem dJ7_fill_53178_13 : decode cJ7_fill_53178 13 = .ok (.iastore, 1) := by decide +kernel
theorem dJ7_fill_53178_14 : decode cJ7_fill_53178 14 = .ok (.iinc 2 1, 3) := by decide +kernel
theorem dJ7_fill_53178_17 : decode cJ7_fill_53178 17 = .ok (.goto (-12), 3) := by decide +kernel
theorem dJ7_fill_53178_20 : decode cJ7_fill_53178 20 = .ok (.return_, 1) := by decide +kernel
end
section
set_option maxRecDepth 20000 in
theorem ggX1_init_X1_clear : GoodIn wsX1_init wsX1_clear := goodIn_r _ [13, 14, 15, 16, 17, 6, 18, 19, 20, 21, 22, 23, 24, 25, 26, 27, 28, 29] (by decide +kernel) (by decide +kernel)
set_option maxRecDepth 20000 in
theorem gX1_init_X1_clear : GoodIn wsX1_init (wsV RX1 24 RX1 yX1_clear wsX1_clear) := goodIn_app (goodIn_of _ (by decide +kernel)) ggX1_init_X1_clear
theorem dX1_init_0 : decode cX1_init 0 = .ok (.aload_n 0, 1) := by decide +kernel
theorem dX1_init_1 : decode cX1_init 1 = .ok (.invokespecial 3, 3) := by decide +kernel
theorem dX1_init_4 : decode cX1_init 4 = .ok (.aload_n 0, 1) := by decide +kernel
theorem dX1_init_5 : decode cX1_init 5 = .ok (.bipush 80, 2) := by decide +kernel
theorem dX1_init_7 : decode cX1_init 7 = .ok (.newarray .int, 2) := by decide +kernel
theorem dX1_init_9 : decode cX1_init 9 = .ok (.putfield 9, 3) := by decide +kernel
theorem dX1_init_12 : decode cX1_init 12 = .ok (.aload_n 0, 1) := by decide +kernel
theorem dX1_init_13 : decode cX1_init 13 = .ok (.bipush 32, 2) := by decide +kernel
theorem dX1_init_15 : decode cX1_init 15 = .ok (.newarray .int, 2) := by decide +kernel
theorem dX1_init_17 : decode cX1_init 17 = .ok (.putfield 15, 3) := by decide +kernel
theorem dX1_init_20 : decode cX1_init 20 = .ok (.aload_n 0, 1) := by decide +kernel
theorem dX1_init_21 : decode cX1_init 21 = .ok (.bipush 32, 2) := by decide +kernel
theorem dX1_init_23 : decode cX1_init 23 = .ok (.newarray .int, 2) := by decide +kernel
theorem dX1_init_25 : decode cX1_init 25 = .ok (.putfield 18, 3) := by decide +kernel
theorem dX1_init_28 : decode cX1_init 28 = .ok (.aload_n 0, 1) := by decide +kernel
theorem dX1_init_29 : decode cX1_init 29 = .ok (.bipush 80, 2) := by decide +kernel
theorem dX1_init_31 : decode cX1_init 31 = .ok (.newarray .int, 2) := by decide +kernel
theorem dX1_init_33 : decode cX1_init 33 = .ok (.putfield 21, 3) := by decide +kernel
theorem dX1_init_36 : decode cX1_init 36 = .ok (.aload_n 0, 1) := by decide +kernel
theorem dX1_init_37 : decode cX1_init 37 = .ok (.invokevirtual 24, 3) := by decide +kernel
theorem dX1_init_40 : decode cX1_init 40 = .ok (.return_, 1) := by decide +kernel
set_option maxRecDepth 20000 in
theorem ggX1_clear_J7_fill_53178 : GoodIn wsX1_clear wsJ7_fill_53178 := goodIn_r _ [9] (by decide +kernel) (by decide +kernel)
set_option maxRecDepth 20000 in
theorem gX1_clear_J7_fill_53178 : GoodIn wsX1_clear (va_wsS RX1 41 yJ7_fill_53178 wsJ7_fill_53178) := goodIn_app (goodIn_of _ (by decide +kernel)) ggX1_clear_J7_fill_53178
theorem dX1_clear_0 : decode cX1_clear 0 = .ok (.aload_n 0, 1) := by decide +kernel
theorem dX1_clear_1 : decode cX1_clear 1 = .ok (.iconst 0, 1) := by decide +kernel
theorem dX1_clear_2 : decode cX1_clear 2 = .ok (.putfield 27, 3) := by decide +kernel
theorem dX1_clear_5 : decode cX1_clear 5 = .ok (.aload_n 0, 1) := by decide +kernel
theorem dX1_clear_6 : decode cX1_clear 6 = .ok (.iconst 0, 1) := by decide +kernel
theorem dX1_clear_7 : decode cX1_clear 7 = .ok (.putfield 31, 3) := by decide +kernel
theorem dX1_clear_10 : decode cX1_clear 10 = .ok (.aload_n 0, 1) := by decide +kernel
theorem dX1_clear_11 : decode cX1_clear 11 = .ok (.iconst 0, 1) := by decide +kernel
theorem dX1_clear_12 : decode cX1_clear 12 = .ok (.putfield 34, 3) := by decide +kernel
theorem dX1_clear_15 : decode cX1_clear 15 = .ok (.aload_n 0, 1) := by decide +kernel
theorem dX1_clear_16 : decode cX1_clear 16 = .ok (.iconst 0, 1) := by decide +kernel
theorem dX1_clear_17 : decode cX1_clear 17 = .ok (.putfield 37, 3) := by decide +kernel
theorem dX1_clear_20 : decode cX1_clear 20 = .ok (.aload_n 0, 1) := by decide +kernel
theorem dX1_clear_21 : decode cX1_clear 21 = .ok (.getfield 15, 3) := by decide +kernel
theorem dX1_clear_24 : decode cX1_clear 24 = .ok (.iconst (-1), 1) := by decide +kernel
theorem dX1_clear_25 : decode cX1_clear 25 = .ok (.invokestatic 41, 3) := by decide +kernel
theorem dX1_clear_28 : decode cX1_clear 28 = .ok (.aload_n 0, 1) := by decide +kernel
theorem dX1_clear_29 : decode cX1_clear 29 = .ok (.getfield 15, 3) := by decide +kernel
theorem dX1_clear_32 : decode cX1_clear 32 = .ok (.iconst 0, 1) := by decide +kernel
theorem dX1_clear_33 : decode cX1_clear 33 = .ok (.iconst 0, 1) := by decide +kernel
theorem dX1_clear_34 : decode cX1_clear 34 = .ok (.iastore, 1) := by decide +kernel
theorem dX1_clear_35 : decode cX1_clear 35 = .ok (.return_, 1) := by decide +kernel
theorem dX1_copyFrom_0 : decode cX1_copyFrom 0 = .ok (.aload_n 0, 1) := by decide +kernel
theorem dX1_copyFrom_1 : decode cX1_copyFrom 1 = .ok (.aload_n 1, 1) := by decide +kernel
theorem dX1_copyFrom_2 : decode cX1_copyFrom 2 = .ok (.getfield 27, 3) := by decide +kernel
theorem dX1_copyFrom_5 : decode cX1_copyFrom 5 = .ok (.putfield 27, 3) := by decide +kernel
theorem dX1_copyFrom_8 : decode cX1_copyFrom 8 = .ok (.aload_n 0, 1) := by decide +kernel
theorem dX1_copyFrom_9 : decode cX1_copyFrom 9 = .ok (.aload_n 1, 1) := by decide +kernel
theorem dX1_copyFrom_10 : decode cX1_copyFrom 10 = .ok (.getfield 31, 3) := by decide +kernel
theorem dX1_copyFrom_13 : decode cX1_copyFrom 13 = .ok (.putfield 31, 3) := by decide +kernel
theorem dX1_copyFrom_16 : decode cX1_copyFrom 16 = .ok (.aload_n 0, 1) := by decide +kernel
theorem dX1_copyFrom_17 : decode cX1_copyFrom 17 = .ok (.aload_n 1, 1) := by decide +kernel
theorem dX1_copyFrom_18 : decode cX1_copyFrom 18 = .ok (.getfield 34, 3) := by decide +kernel
theorem dX1_copyFrom_21 : decode cX1_copyFrom 21 = .ok (.putfield 34, 3) := by decide +kernel
theorem dX1_copyFrom_24 : decode cX1_copyFrom 24 = .ok (.aload_n 0, 1) := by decide +kernel
theorem dX1_copyFrom_25 : decode cX1_copyFrom 25 = .ok (.aload_n 1, 1) := by decide +kernel
theorem dX1_copyFrom_26 : decode cX1_copyFrom 26 = .ok (.getfield 37, 3) := by decide +kernel
theorem dX1_copyFrom_29 : decode cX1_copyFrom 29 = .ok (.putfield 37, 3) := by decide +kernel
theorem dX1_copyFrom_32 : decode cX1_copyFrom 32 = .ok (.aload_n 1, 1) := by decide +kernel
theorem dX1_copyFrom_33 : decode cX1_copyFrom 33 = .ok (.getfield 9, 3) := by decide +kernel
theorem dX1_copyFrom_36 : decode cX1_copyFrom 36 = .ok (.iconst 0, 1) := by decide +kernel
theorem dX1_copyFrom_37 : decode cX1_copyFrom 37 = .ok (.aload_n 0, 1) := by decide +kernel
theorem dX1_copyFrom_38 : decode cX1_copyFrom 38 = .ok (.getfield 9, 3) := by decide +kernel
theorem dX1_copyFrom_41 : decode cX1_copyFrom 41 = .ok (.iconst 0, 1) := by decide +kernel
theorem dX1_copyFrom_42 : decode cX1_copyFrom 42 = .ok (.bipush 80, 2) := by decide +kernel
theorem dX1_copyFrom_44 : decode cX1_copyFrom 44 = .ok (.invokestatic 47, 3) := by decide +kernel
theorem dX1_copyFrom_47 : decode cX1_copyFrom 47 = .ok (.aload_n 1, 1) := by decide +kernel
theorem dX1_copyFrom_48 : decode cX1_copyFrom 48 = .ok (.getfield 15, 3) := by decide +kernel
theorem dX1_copyFrom_51 : decode cX1_copyFrom 51 = .ok (.iconst 0, 1) := by decide +kernel
theorem dX1_copyFrom_52 : decode cX1_copyFrom 52 = .ok (.aload_n 0, 1) := by decide +kernel
theorem dX1_copyFrom_53 : decode cX1_copyFrom 53 = .ok (.getfield 15, 3) := by decide +kernel
theorem dX1_copyFrom_56 : decode cX1_copyFrom 56 = .ok (.iconst 0, 1) := by decide +kernel
theorem dX1_copyFrom_57 : decode cX1_copyFrom 57 = .ok (.bipush 32, 2) := by decide +kernel
theorem dX1_copyFrom_59 : decode cX1_copyFrom 59 = .ok (.invokestatic 47, 3) := by decide +kernel
theorem dX1_copyFrom_62 : decode cX1_copyFrom 62 = .ok (.aload_n 1, 1) := by decide +kernel
theorem dX1_copyFrom_63 : decode cX1_copyFrom 63 = .ok (.getfield 21, 3) := by decide +kernel
theorem dX1_copyFrom_66 : decode cX1_copyFrom 66 = .ok (.iconst 0, 1) := by decide +kernel
theorem dX1_copyFrom_67 : decode cX1_copyFrom 67 = .ok (.aload_n 0, 1) := by decide +kernel
theorem dX1_copyFrom_68 : decode cX1_copyFrom 68 = .ok (.getfield 21, 3) := by decide +kernel
theorem dX1_copyFrom_71 : decode cX1_copyFrom 71 = .ok (.iconst 0, 1) := by decide +kernel
theorem dX1_copyFrom_72 : decode cX1_copyFrom 72 = .ok (.bipush 80, 2) := by decide +kernel
theorem dX1_copyFrom_74 : decode cX1_copyFrom 74 = .ok (.invokestatic 47, 3) := by decide +kernel
theorem dX1_copyFrom_77 : decode cX1_copyFrom 77 = .ok (.return_, 1) := by decide +kernel
set_option maxRecDepth 20000 in
theorem ggX1_advance_X0_states : GoodIn wsX1_advance wsX0_states := goodIn_r _ [14, 15, 72, 73, 74] (by decide +kernel) (by decide +kernel)
set_option maxRecDepth 20000 in
theorem gX1_advance_X0_states : GoodIn wsX1_advance (wsV RX1 53 RX0 yX0_states wsX0_states) := goodIn_app (goodIn_of _ (by decide +kernel)) ggX1_advance_X0_states
set_option maxRecDepth 20000 in
theorem ggX1_advance_X0_lowerBefore : GoodIn wsX1_advance wsX0_lowerBefore := goodIn_r _ [19, 20, 11, 12, 13, 14, 15, 72, 73, 74] (by decide +kernel) (by decide +kernel)
set_option maxRecDepth 20000 in
theorem gX1_advance_X0_lowerBefore : GoodIn wsX1_advance (wsV RX1 59 RX0 yX0_lowerBefore wsX0_lowerBefore) := goodIn_app (goodIn_of _ (by decide +kernel)) ggX1_advance_X0_lowerBefore
set_option maxRecDepth 20000 in
theorem ggX1_advance_X0_bitInto : GoodIn wsX1_advance wsX0_bitInto := goodIn_r _ [24, 15, 72, 73, 74] (by decide +kernel) (by decide +kernel)
set_option maxRecDepth 20000 in
theorem gX1_advance_X0_bitInto : GoodIn wsX1_advance (wsV RX1 63 RX0 yX0_bitInto wsX0_bitInto) := goodIn_app (goodIn_of _ (by decide +kernel)) ggX1_advance_X0_bitInto
set_option maxRecDepth 20000 in
theorem ggX1_advance_X1_metricOver : GoodIn wsX1_advance wsX1_metricOver := goodIn_r _ [29, 3, 30, 31, 32, 13, 33, 34, 35, 36, 37, 38, 15, 39, 40, 41, 42, 43, 44, 45, 46, 47, 48, 49, 50, 64, 65, 66, 67, 68, 69, 70, 71, 72, 73, 74] (by decide +kernel) (by decide +kernel)
set_option maxRecDepth 20000 in
theorem gX1_advance_X1_metricOver : GoodIn wsX1_advance (wsV RX1 66 RX1 yX1_metricOver wsX1_metricOver) := goodIn_app (goodIn_of _ (by decide +kernel)) ggX1_advance_X1_metricOver
set_option maxRecDepth 20000 in
theorem ggX1_advance_X1_bestState : GoodIn wsX1_advance wsX1_bestState := goodIn_r _ [54, 3, 10, 11, 12, 13, 14, 15, 64, 65, 66, 67, 68, 69, 70, 71, 72, 73, 74] (by decide +kernel) (by decide +kernel)
set_option maxRecDepth 20000 in
theorem gX1_advance_X1_bestState : GoodIn wsX1_advance (wsV RX1 70 RX1 yX1_bestState wsX1_bestState) := goodIn_app (goodIn_of _ (by decide +kernel)) ggX1_advance_X1_bestState
set_option maxRecDepth 20000 in
theorem ggX1_advance_X1_releaseUpTo : GoodIn wsX1_advance wsX1_releaseUpTo := goodIn_r _ [58, 1, 9, 59, 21, 22, 23, 13, 24, 15, 60, 61, 62, 28, 63, 8, 16, 17, 18, 19, 20, 11, 12, 14, 64, 65, 66, 67, 68, 69, 70, 71, 72, 73, 74] (by decide +kernel) (by decide +kernel)
set_option maxRecDepth 20000 in
theorem gX1_advance_X1_releaseUpTo : GoodIn wsX1_advance (wsV RX1 74 RX1 yX1_releaseUpTo wsX1_releaseUpTo) := goodIn_app (goodIn_of _ (by decide +kernel)) ggX1_advance_X1_releaseUpTo
theorem dX1_advance_0 : decode cX1_advance 0 = .ok (.aload_n 0, 1) := by decide +kernel
theorem dX1_advance_1 : decode cX1_advance 1 = .ok (.getfield 27, 3) := by decide +kernel
theorem dX1_advance_4 : decode cX1_advance 4 = .ok (.bipush 80, 2) := by decide +kernel
theorem dX1_advance_6 : decode cX1_advance 6 = .ok (.if_icmp .lt 4, 3) := by decide +kernel
theorem dX1_advance_9 : decode cX1_advance 9 = .ok (.return_, 1) := by decide +kernel
theorem dX1_advance_10 : decode cX1_advance 10 = .ok (.aload_n 1, 1) := by decide +kernel
theorem dX1_advance_11 : decode cX1_advance 11 = .ok (.invokevirtual 53, 3) := by decide +kernel
theorem dX1_advance_14 : decode cX1_advance 14 = .ok (.istore 5, 2) := by decide +kernel
theorem dX1_advance_16 : decode cX1_advance 16 = .ok (.iconst 0, 1) := by decide +kernel
theorem dX1_advance_17 : decode cX1_advance 17 = .ok (.istore 6, 2) := by decide +kernel
theorem dX1_advance_19 : decode cX1_advance 19 = .ok (.iconst 0, 1) := by decide +kernel
theorem dX1_advance_20 : decode cX1_advance 20 = .ok (.istore 7, 2) := by decide +kernel
theorem dX1_advance_22 : decode cX1_advance 22 = .ok (.iload 7, 2) := by decide +kernel
theorem dX1_advance_24 : decode cX1_advance 24 = .ok (.iload 5, 2) := by decide +kernel
theorem dX1_advance_26 : decode cX1_advance 26 = .ok (.if_icmp .ge 114, 3) := by decide +kernel
theorem dX1_advance_29 : decode cX1_advance 29 = .ok (.aload_n 1, 1) := by decide +kernel
theorem dX1_advance_30 : decode cX1_advance 30 = .ok (.iload 7, 2) := by decide +kernel
theorem dX1_advance_32 : decode cX1_advance 32 = .ok (.invokevirtual 59, 3) := by decide +kernel
theorem dX1_advance_35 : decode cX1_advance 35 = .ok (.istore 8, 2) := by decide +kernel
theorem dX1_advance_37 : decode cX1_advance 37 = .ok (.aload_n 1, 1) := by decide +kernel
theorem dX1_advance_38 : decode cX1_advance 38 = .ok (.iload 7, 2) := by decide +kernel
theorem dX1_advance_40 : decode cX1_advance 40 = .ok (.invokevirtual 63, 3) := by decide +kernel
theorem dX1_advance_43 : decode cX1_advance 43 = .ok (.istore 9, 2) := by decide +kernel
theorem dX1_advance_45 : decode cX1_advance 45 = .ok (.aload_n 0, 1) := by decide +kernel
theorem dX1_advance_46 : decode cX1_advance 46 = .ok (.aload_n 1, 1) := by decide +kernel
theorem dX1_advance_47 : decode cX1_advance 47 = .ok (.iload 8, 2) := by decide +kernel
theorem dX1_advance_49 : decode cX1_advance 49 = .ok (.iload 9, 2) := by decide +kernel
theorem dX1_advance_51 : decode cX1_advance 51 = .ok (.aload_n 3, 1) := by decide +kernel
theorem dX1_advance_52 : decode cX1_advance 52 = .ok (.iload 4, 2) := by decide +kernel
theorem dX1_advance_54 : decode cX1_advance 54 = .ok (.invokevirtual 66, 3) := by decide +kernel
theorem dX1_advance_57 : decode cX1_advance 57 = .ok (.istore 10, 2) := by decide +kernel
theorem dX1_advance_59 : decode cX1_advance 59 = .ok (.aload_n 0, 1) := by decide +kernel
theorem dX1_advance_60 : decode cX1_advance 60 = .ok (.aload_n 1, 1) := by decide +kernel
theorem dX1_advance_61 : decode cX1_advance 61 = .ok (.iload 8, 2) := by decide +kernel
theorem dX1_advance_63 : decode cX1_advance 63 = .ok (.iconst 1, 1) := by decide +kernel
theorem dX1_advance_64 : decode cX1_advance 64 = .ok (.iadd, 1) := by decide +kernel
theorem dX1_advance_65 : decode cX1_advance 65 = .ok (.iload 9, 2) := by decide +kernel
theorem dX1_advance_67 : decode cX1_advance 67 = .ok (.aload_n 3, 1) := by decide +kernel
theorem dX1_advance_68 : decode cX1_advance 68 = .ok (.iload 4, 2) := by decide +kernel
theorem dX1_advance_70 : decode cX1_advance 70 = .ok (.invokevirtual 66, 3) := by decide +kernel
theorem dX1_advance_73 : decode cX1_advance 73 = .ok (.istore 11, 2) := by decide +kernel
theorem dX1_advance_75 : decode cX1_advance 75 = .ok (.iload 11, 2) := by decide +kernel
theorem dX1_advance_77 : decode cX1_advance 77 = .ok (.iconst (-1), 1) := by decide +kernel
theorem dX1_advance_78 : decode cX1_advance 78 = .ok (.if_icmp .eq 20, 3) := by decide +kernel
theorem dX1_advance_81 : decode cX1_advance 81 = .ok (.iload 10, 2) := by decide +kernel
theorem dX1_advance_83 : decode cX1_advance 83 = .ok (.iconst (-1), 1) := by decide +kernel
theorem dX1_advance_84 : decode cX1_advance 84 = .ok (.if_icmp .eq 10, 3) := by decide +kernel
theorem dX1_advance_87 : decode cX1_advance 87 = .ok (.iload 11, 2) := by decide +kernel
theorem dX1_advance_89 : decode cX1_advance 89 = .ok (.iload 10, 2) := by decide +kernel
theorem dX1_advance_91 : decode cX1_advance 91 = .ok (.if_icmp .ge 7, 3) := by decide +kernel
theorem dX1_advance_94 : decode cX1_advance 94 = .ok (.iconst 1, 1) := by decide +kernel
theorem dX1_advance_95 : decode cX1_advance 95 = .ok (.goto 4, 3) := by decide +kernel
theorem dX1_advance_98 : decode cX1_advance 98 = .ok (.iconst 0, 1) := by decide +kernel
theorem dX1_advance_99 : decode cX1_advance 99 = .ok (.istore 12, 2) := by decide +kernel
theorem dX1_advance_101 : decode cX1_advance 101 = .ok (.aload_n 0, 1) := by decide +kernel
theorem dX1_advance_102 : decode cX1_advance 102 = .ok (.getfield 18, 3) := by decide +kernel
theorem dX1_advance_105 : decode cX1_advance 105 = .ok (.iload 7, 2) := by decide +kernel
theorem dX1_advance_107 : decode cX1_advance 107 = .ok (.iload 12, 2) := by decide +kernel
theorem dX1_advance_109 : decode cX1_advance 109 = .ok (.ifCond .eq 8, 3) := by decide +kernel
theorem dX1_advance_112 : decode cX1_advance 112 = .ok (.iload 11, 2) := by decide +kernel
theorem dX1_advance_114 : decode cX1_advance 114 = .ok (.goto 5, 3) := by decide +kernel
theorem dX1_advance_117 : decode cX1_advance 117 = .ok (.iload 10, 2) := by decide +kernel
theorem dX1_advance_119 : decode cX1_advance 119 = .ok (.iastore, 1) := by decide +kernel
theorem dX1_advance_120 : decode cX1_advance 120 = .ok (.iload 12, 2) := by decide +kernel
theorem dX1_advance_122 : decode cX1_advance 122 = .ok (.ifCond .eq 12, 3) := by decide +kernel
theorem dX1_advance_125 : decode cX1_advance 125 = .ok (.iload 6, 2) := by decide +kernel
theorem dX1_advance_127 : decode cX1_advance 127 = .ok (.iconst 1, 1) := by decide +kernel
theorem dX1_advance_128 : decode cX1_advance 128 = .ok (.iload 7, 2) := by decide +kernel
theorem dX1_advance_130 : decode cX1_advance 130 = .ok (.ishl, 1) := by decide +kernel
theorem dX1_advance_131 : decode cX1_advance 131 = .ok (.ior, 1) := by decide +kernel
theorem dX1_advance_132 : decode cX1_advance 132 = .ok (.istore 6, 2) := by decide +kernel
theorem dX1_advance_134 : decode cX1_advance 134 = .ok (.iinc 7 1, 3) := by decide +kernel
theorem dX1_advance_137 : decode cX1_advance 137 = .ok (.goto (-115), 3) := by decide +kernel
theorem dX1_advance_140 : decode cX1_advance 140 = .ok (.aload_n 0, 1) := by decide +kernel
theorem dX1_advance_141 : decode cX1_advance 141 = .ok (.getfield 18, 3) := by decide +kernel
theorem dX1_advance_144 : decode cX1_advance 144 = .ok (.iconst 0, 1) := by decide +kernel
theorem dX1_advance_145 : decode cX1_advance 145 = .ok (.aload_n 0, 1) := by decide +kernel
theorem dX1_advance_146 : decode cX1_advance 146 = .ok (.getfield 15, 3) := by decide +kernel
theorem dX1_advance_149 : decode cX1_advance 149 = .ok (.iconst 0, 1) := by decide +kernel
theorem dX1_advance_150 : decode cX1_advance 150 = .ok (.iload 5, 2) := by decide +kernel
theorem dX1_advance_152 : decode cX1_advance 152 = .ok (.invokestatic 47, 3) := by decide +kernel
theorem dX1_advance_155 : decode cX1_advance 155 = .ok (.aload_n 0, 1) := by decide +kernel
theorem dX1_advance_156 : decode cX1_advance 156 = .ok (.getfield 21, 3) := by decide +kernel
theorem dX1_advance_159 : decode cX1_advance 159 = .ok (.aload_n 0, 1) := by decide +kernel
theorem dX1_advance_160 : decode cX1_advance 160 = .ok (.getfield 27, 3) := by decide +kernel
theorem dX1_advance_163 : decode cX1_advance 163 = .ok (.iload 6, 2) := by decide +kernel
theorem dX1_advance_165 : decode cX1_advance 165 = .ok (.iastore, 1) := by decide +kernel
theorem dX1_advance_166 : decode cX1_advance 166 = .ok (.aload_n 0, 1) := by decide +kernel
theorem dX1_advance_167 : decode cX1_advance 167 = .ok (.dup, 1) := by decide +kernel
theorem dX1_advance_168 : decode cX1_advance 168 = .ok (.getfield 27, 3) := by decide +kernel
theorem dX1_advance_171 : decode cX1_advance 171 = .ok (.iconst 1, 1) := by decide +kernel
theorem dX1_advance_172 : decode cX1_advance 172 = .ok (.iadd, 1) := by decide +kernel
theorem dX1_advance_173 : decode cX1_advance 173 = .ok (.putfield 27, 3) := by decide +kernel
theorem dX1_advance_176 : decode cX1_advance 176 = .ok (.aload_n 0, 1) := by decide +kernel
theorem dX1_advance_177 : decode cX1_advance 177 = .ok (.getfield 27, 3) := by decide +kernel
theorem dX1_advance_180 : decode cX1_advance 180 = .ok (.aload_n 0, 1) := by decide +kernel
theorem dX1_advance_181 : decode cX1_advance 181 = .ok (.getfield 34, 3) := by decide +kernel
theorem dX1_advance_184 : decode cX1_advance 184 = .ok (.isub, 1) := by decide +kernel
theorem dX1_advance_185 : decode cX1_advance 185 = .ok (.iload_n 2, 1) := by decide +kernel
theorem dX1_advance_186 : decode cX1_advance 186 = .ok (.if_icmp .lt 21, 3) := by decide +kernel
theorem dX1_advance_189 : decode cX1_advance 189 = .ok (.aload_n 0, 1) := by decide +kernel
theorem dX1_advance_190 : decode cX1_advance 190 = .ok (.aload_n 1, 1) := by decide +kernel
theorem dX1_advance_191 : decode cX1_advance 191 = .ok (.aload_n 0, 1) := by decide +kernel
theorem dX1_advance_192 : decode cX1_advance 192 = .ok (.aload_n 1, 1) := by decide +kernel
theorem dX1_advance_193 : decode cX1_advance 193 = .ok (.invokevirtual 70, 3) := by decide +kernel
theorem dX1_advance_196 : decode cX1_advance 196 = .ok (.aload_n 0, 1) := by decide +kernel
theorem dX1_advance_197 : decode cX1_advance 197 = .ok (.getfield 27, 3) := by decide +kernel
theorem dX1_advance_200 : decode cX1_advance 200 = .ok (.iload_n 2, 1) := by decide +kernel
theorem dX1_advance_201 : decode cX1_advance 201 = .ok (.isub, 1) := by decide +kernel
theorem dX1_advance_202 : decode cX1_advance 202 = .ok (.iconst 1, 1) := by decide +kernel
theorem dX1_advance_203 : decode cX1_advance 203 = .ok (.iadd, 1) := by decide +kernel
theorem dX1_advance_204 : decode cX1_advance 204 = .ok (.invokevirtual 74, 3) := by decide +kernel
theorem dX1_advance_207 : decode cX1_advance 207 = .ok (.return_, 1) := by decide +kernel
set_option maxRecDepth 20000 in
theorem ggX1_metricOver_X0_priceOf : GoodIn wsX1_metricOver wsX0_priceOf := goodIn_r _ [6, 7, 8, 9, 10, 5, 11, 12, 13, 14, 15, 16, 17, 18, 19, 20, 21, 22, 23, 24, 33, 34, 35] (by decide +kernel) (by decide +kernel)
set_option maxRecDepth 20000 in
theorem gX1_metricOver_X0_priceOf : GoodIn wsX1_metricOver (wsV RX1 78 RX0 yX0_priceOf wsX0_priceOf) := goodIn_app (goodIn_of _ (by decide +kernel)) ggX1_metricOver_X0_priceOf
theorem dX1_metricOver_0 : decode cX1_metricOver 0 = .ok (.aload_n 0, 1) := by decide +kernel
theorem dX1_metricOver_1 : decode cX1_metricOver 1 = .ok (.getfield 15, 3) := by decide +kernel
theorem dX1_metricOver_4 : decode cX1_metricOver 4 = .ok (.iload_n 2, 1) := by decide +kernel
theorem dX1_metricOver_5 : decode cX1_metricOver 5 = .ok (.iaload, 1) := by decide +kernel
theorem dX1_metricOver_6 : decode cX1_metricOver 6 = .ok (.iconst (-1), 1) := by decide +kernel
theorem dX1_metricOver_7 : decode cX1_metricOver 7 = .ok (.if_icmp .ne 5, 3) := by decide +kernel
theorem dX1_metricOver_10 : decode cX1_metricOver 10 = .ok (.iconst (-1), 1) := by decide +kernel
theorem dX1_metricOver_11 : decode cX1_metricOver 11 = .ok (.ireturn, 1) := by decide +kernel
theorem dX1_metricOver_12 : decode cX1_metricOver 12 = .ok (.aload_n 0, 1) := by decide +kernel
theorem dX1_metricOver_13 : decode cX1_metricOver 13 = .ok (.getfield 15, 3) := by decide +kernel
theorem dX1_metricOver_16 : decode cX1_metricOver 16 = .ok (.iload_n 2, 1) := by decide +kernel
theorem dX1_metricOver_17 : decode cX1_metricOver 17 = .ok (.iaload, 1) := by decide +kernel
theorem dX1_metricOver_18 : decode cX1_metricOver 18 = .ok (.aload_n 1, 1) := by decide +kernel
theorem dX1_metricOver_19 : decode cX1_metricOver 19 = .ok (.iload_n 2, 1) := by decide +kernel
theorem dX1_metricOver_20 : decode cX1_metricOver 20 = .ok (.iload_n 3, 1) := by decide +kernel
theorem dX1_metricOver_21 : decode cX1_metricOver 21 = .ok (.aload 4, 2) := by decide +kernel
theorem dX1_metricOver_23 : decode cX1_metricOver 23 = .ok (.iload 5, 2) := by decide +kernel
theorem dX1_metricOver_25 : decode cX1_metricOver 25 = .ok (.invokevirtual 78, 3) := by decide +kernel
theorem dX1_metricOver_28 : decode cX1_metricOver 28 = .ok (.iadd, 1) := by decide +kernel
theorem dX1_metricOver_29 : decode cX1_metricOver 29 = .ok (.ireturn, 1) := by decide +kernel
set_option maxRecDepth 20000 in
theorem ggX1_releaseUpTo_X0_bitInto : GoodIn wsX1_releaseUpTo wsX0_bitInto := goodIn_r _ [8, 9, 32, 33, 34] (by decide +kernel) (by decide +kernel)
set_option maxRecDepth 20000 in
theorem gX1_releaseUpTo_X0_bitInto : GoodIn wsX1_releaseUpTo (wsV RX1 63 RX0 yX0_bitInto wsX0_bitInto) := goodIn_app (goodIn_of _ (by decide +kernel)) ggX1_releaseUpTo_X0_bitInto
set_option maxRecDepth 20000 in
theorem ggX1_releaseUpTo_X1_stateBefore : GoodIn wsX1_releaseUpTo wsX1_stateBefore := goodIn_r _ [14, 15, 16, 17, 18, 7, 19, 20, 21, 22, 23, 9, 24, 25, 26, 27, 28, 29, 30, 31, 32, 33, 34] (by decide +kernel) (by decide +kernel)
set_option maxRecDepth 20000 in
theorem gX1_releaseUpTo_X1_stateBefore : GoodIn wsX1_releaseUpTo (wsV RX1 82 RX1 yX1_stateBefore wsX1_stateBefore) := goodIn_app (goodIn_of _ (by decide +kernel)) ggX1_releaseUpTo_X1_stateBefore
theorem dX1_releaseUpTo_0 : decode cX1_releaseUpTo 0 = .ok (.iload_n 2, 1) := by decide +kernel
theorem dX1_releaseUpTo_1 : decode cX1_releaseUpTo 1 = .ok (.istore 4, 2) := by decide +kernel
theorem dX1_releaseUpTo_3 : decode cX1_releaseUpTo 3 = .ok (.aload_n 0, 1) := by decide +kernel
theorem dX1_releaseUpTo_4 : decode cX1_releaseUpTo 4 = .ok (.getfield 27, 3) := by decide +kernel
theorem dX1_releaseUpTo_7 : decode cX1_releaseUpTo 7 = .ok (.iconst 1, 1) := by decide +kernel
theorem dX1_releaseUpTo_8 : decode cX1_releaseUpTo 8 = .ok (.isub, 1) := by decide +kernel
theorem dX1_releaseUpTo_9 : decode cX1_releaseUpTo 9 = .ok (.istore 5, 2) := by decide +kernel
theorem dX1_releaseUpTo_11 : decode cX1_releaseUpTo 11 = .ok (.iload 5, 2) := by decide +kernel
theorem dX1_releaseUpTo_13 : decode cX1_releaseUpTo 13 = .ok (.aload_n 0, 1) := by decide +kernel
theorem dX1_releaseUpTo_14 : decode cX1_releaseUpTo 14 = .ok (.getfield 34, 3) := by decide +kernel
theorem dX1_releaseUpTo_17 : decode cX1_releaseUpTo 17 = .ok (.if_icmp .lt 39, 3) := by decide +kernel
theorem dX1_releaseUpTo_20 : decode cX1_releaseUpTo 20 = .ok (.iload 5, 2) := by decide +kernel
theorem dX1_releaseUpTo_22 : decode cX1_releaseUpTo 22 = .ok (.iload_n 3, 1) := by decide +kernel
theorem dX1_releaseUpTo_23 : decode cX1_releaseUpTo 23 = .ok (.if_icmp .ge 16, 3) := by decide +kernel
theorem dX1_releaseUpTo_26 : decode cX1_releaseUpTo 26 = .ok (.aload_n 0, 1) := by decide +kernel
theorem dX1_releaseUpTo_27 : decode cX1_releaseUpTo 27 = .ok (.getfield 9, 3) := by decide +kernel
theorem dX1_releaseUpTo_30 : decode cX1_releaseUpTo 30 = .ok (.iload 5, 2) := by decide +kernel
theorem dX1_releaseUpTo_32 : decode cX1_releaseUpTo 32 = .ok (.aload_n 1, 1) := by decide +kernel
theorem dX1_releaseUpTo_33 : decode cX1_releaseUpTo 33 = .ok (.iload 4, 2) := by decide +kernel
theorem dX1_releaseUpTo_35 : decode cX1_releaseUpTo 35 = .ok (.invokevirtual 63, 3) := by decide +kernel
theorem dX1_releaseUpTo_38 : decode cX1_releaseUpTo 38 = .ok (.iastore, 1) := by decide +kernel
theorem dX1_releaseUpTo_39 : decode cX1_releaseUpTo 39 = .ok (.aload_n 0, 1) := by decide +kernel
theorem dX1_releaseUpTo_40 : decode cX1_releaseUpTo 40 = .ok (.aload_n 1, 1) := by decide +kernel
theorem dX1_releaseUpTo_41 : decode cX1_releaseUpTo 41 = .ok (.iload 4, 2) := by decide +kernel
theorem dX1_releaseUpTo_43 : decode cX1_releaseUpTo 43 = .ok (.iload 5, 2) := by decide +kernel
theorem dX1_releaseUpTo_45 : decode cX1_releaseUpTo 45 = .ok (.invokevirtual 82, 3) := by decide +kernel
theorem dX1_releaseUpTo_48 : decode cX1_releaseUpTo 48 = .ok (.istore 4, 2) := by decide +kernel
theorem dX1_releaseUpTo_50 : decode cX1_releaseUpTo 50 = .ok (.iinc 5 (-1), 3) := by decide +kernel
theorem dX1_releaseUpTo_53 : decode cX1_releaseUpTo 53 = .ok (.goto (-42), 3) := by decide +kernel
theorem dX1_releaseUpTo_56 : decode cX1_releaseUpTo 56 = .ok (.aload_n 0, 1) := by decide +kernel
theorem dX1_releaseUpTo_57 : decode cX1_releaseUpTo 57 = .ok (.iload_n 3, 1) := by decide +kernel
theorem dX1_releaseUpTo_58 : decode cX1_releaseUpTo 58 = .ok (.putfield 34, 3) := by decide +kernel
theorem dX1_releaseUpTo_61 : decode cX1_releaseUpTo 61 = .ok (.return_, 1) := by decide +kernel
set_option maxRecDepth 20000 in
theorem ggX1_stateBefore_X0_lowerBefore : GoodIn wsX1_stateBefore wsX0_lowerBefore := goodIn_r _ [6, 7, 8, 9, 5, 10, 11, 20, 21, 22] (by decide +kernel) (by decide +kernel)
set_option maxRecDepth 20000 in
theorem gX1_stateBefore_X0_lowerBefore : GoodIn wsX1_stateBefore (wsV RX1 59 RX0 yX0_lowerBefore wsX0_lowerBefore) := goodIn_app (goodIn_of _ (by decide +kernel)) ggX1_stateBefore_X0_lowerBefore
theorem dX1_stateBefore_0 : decode cX1_stateBefore 0 = .ok (.aload_n 1, 1) := by decide +kernel
theorem dX1_stateBefore_1 : decode cX1_stateBefore 1 = .ok (.iload_n 2, 1) := by decide +kernel
theorem dX1_stateBefore_2 : decode cX1_stateBefore 2 = .ok (.invokevirtual 59, 3) := by decide +kernel
theorem dX1_stateBefore_5 : decode cX1_stateBefore 5 = .ok (.aload_n 0, 1) := by decide +kernel
theorem dX1_stateBefore_6 : decode cX1_stateBefore 6 = .ok (.getfield 21, 3) := by decide +kernel
theorem dX1_stateBefore_9 : decode cX1_stateBefore 9 = .ok (.iload_n 3, 1) := by decide +kernel
theorem dX1_stateBefore_10 : decode cX1_stateBefore 10 = .ok (.iaload, 1) := by decide +kernel
theorem dX1_stateBefore_11 : decode cX1_stateBefore 11 = .ok (.iload_n 2, 1) := by decide +kernel
theorem dX1_stateBefore_12 : decode cX1_stateBefore 12 = .ok (.ishr, 1) := by decide +kernel
theorem dX1_stateBefore_13 : decode cX1_stateBefore 13 = .ok (.iconst 1, 1) := by decide +kernel
theorem dX1_stateBefore_14 : decode cX1_stateBefore 14 = .ok (.iand, 1) := by decide +kernel
theorem dX1_stateBefore_15 : decode cX1_stateBefore 15 = .ok (.iadd, 1) := by decide +kernel
theorem dX1_stateBefore_16 : decode cX1_stateBefore 16 = .ok (.ireturn, 1) := by decide +kernel
set_option maxRecDepth 20000 in
theorem ggX1_survivorBit_X1_stateBefore : GoodIn wsX1_survivorBit wsX1_stateBefore := goodIn_r _ [6, 7, 8, 9, 10, 11, 12, 13, 14, 15, 16, 17, 22, 23, 24, 25, 26, 27, 28, 29, 30, 31, 32] (by decide +kernel) (by decide +kernel)
set_option maxRecDepth 20000 in
theorem gX1_survivorBit_X1_stateBefore : GoodIn wsX1_survivorBit (wsV RX1 82 RX1 yX1_stateBefore wsX1_stateBefore) := goodIn_app (goodIn_of _ (by decide +kernel)) ggX1_survivorBit_X1_stateBefore
set_option maxRecDepth 20000 in
theorem ggX1_survivorBit_X0_bitInto : GoodIn wsX1_survivorBit wsX0_bitInto := goodIn_r _ [21, 17, 30, 31, 32] (by decide +kernel) (by decide +kernel)
set_option maxRecDepth 20000 in
theorem gX1_survivorBit_X0_bitInto : GoodIn wsX1_survivorBit (wsV RX1 63 RX0 yX0_bitInto wsX0_bitInto) := goodIn_app (goodIn_of _ (by decide +kernel)) ggX1_survivorBit_X0_bitInto
theorem dX1_survivorBit_0 : decode cX1_survivorBit 0 = .ok (.iload_n 2, 1) := by decide +kernel
theorem dX1_survivorBit_1 : decode cX1_survivorBit 1 = .ok (.istore 4, 2) := by decide +kernel
theorem dX1_survivorBit_3 : decode cX1_survivorBit 3 = .ok (.iconst 0, 1) := by decide +kernel
theorem dX1_survivorBit_4 : decode cX1_survivorBit 4 = .ok (.istore 5, 2) := by decide +kernel
theorem dX1_survivorBit_6 : decode cX1_survivorBit 6 = .ok (.iload 5, 2) := by decide +kernel
theorem dX1_survivorBit_8 : decode cX1_survivorBit 8 = .ok (.iload_n 3, 1) := by decide +kernel
theorem dX1_survivorBit_9 : decode cX1_survivorBit 9 = .ok (.if_icmp .ge 27, 3) := by decide +kernel
theorem dX1_survivorBit_12 : decode cX1_survivorBit 12 = .ok (.aload_n 0, 1) := by decide +kernel
theorem dX1_survivorBit_13 : decode cX1_survivorBit 13 = .ok (.aload_n 1, 1) := by decide +kernel
theorem dX1_survivorBit_14 : decode cX1_survivorBit 14 = .ok (.iload 4, 2) := by decide +kernel
theorem dX1_survivorBit_16 : decode cX1_survivorBit 16 = .ok (.aload_n 0, 1) := by decide +kernel
theorem dX1_survivorBit_17 : decode cX1_survivorBit 17 = .ok (.getfield 27, 3) := by decide +kernel
theorem dX1_survivorBit_20 : decode cX1_survivorBit 20 = .ok (.iconst 1, 1) := by decide +kernel
theorem dX1_survivorBit_21 : decode cX1_survivorBit 21 = .ok (.isub, 1) := by decide +kernel
theorem dX1_survivorBit_22 : decode cX1_survivorBit 22 = .ok (.iload 5, 2) := by decide +kernel
theorem dX1_survivorBit_24 : decode cX1_survivorBit 24 = .ok (.isub, 1) := by decide +kernel
theorem dX1_survivorBit_25 : decode cX1_survivorBit 25 = .ok (.invokevirtual 82, 3) := by decide +kernel
theorem dX1_survivorBit_28 : decode cX1_survivorBit 28 = .ok (.istore 4, 2) := by decide +kernel
theorem dX1_survivorBit_30 : decode cX1_survivorBit 30 = .ok (.iinc 5 1, 3) := by decide +kernel
theorem dX1_survivorBit_33 : decode cX1_survivorBit 33 = .ok (.goto (-27), 3) := by decide +kernel
theorem dX1_survivorBit_36 : decode cX1_survivorBit 36 = .ok (.aload_n 1, 1) := by decide +kernel
theorem dX1_survivorBit_37 : decode cX1_survivorBit 37 = .ok (.iload 4, 2) := by decide +kernel
theorem dX1_survivorBit_39 : decode cX1_survivorBit 39 = .ok (.invokevirtual 63, 3) := by decide +kernel
theorem dX1_survivorBit_42 : decode cX1_survivorBit 42 = .ok (.ireturn, 1) := by decide +kernel
set_option maxRecDepth 20000 in
theorem ggX1_commonBits_X0_states : GoodIn wsX1_commonBits wsX0_states := goodIn_r _ [6, 7, 36, 37, 38] (by decide +kernel) (by decide +kernel)
set_option maxRecDepth 20000 in
theorem gX1_commonBits_X0_states : GoodIn wsX1_commonBits (wsV RX1 53 RX0 yX0_states wsX0_states) := goodIn_app (goodIn_of _ (by decide +kernel)) ggX1_commonBits_X0_states
set_option maxRecDepth 20000 in
theorem ggX1_commonBits_X1_reached : GoodIn wsX1_commonBits wsX1_reached := goodIn_r _ [12, 13, 2, 3, 4, 5, 6, 7, 28, 29, 30, 31, 32, 33, 34, 35, 36, 37, 38] (by decide +kernel) (by decide +kernel)
set_option maxRecDepth 20000 in
theorem gX1_commonBits_X1_reached : GoodIn wsX1_commonBits (wsV RX1 86 RX1 yX1_reached wsX1_reached) := goodIn_app (goodIn_of _ (by decide +kernel)) ggX1_commonBits_X1_reached
set_option maxRecDepth 20000 in
theorem ggX1_commonBits_X0_bitInto : GoodIn wsX1_commonBits wsX0_bitInto := goodIn_r _ [17, 7, 36, 37, 38] (by decide +kernel) (by decide +kernel)
set_option maxRecDepth 20000 in
theorem gX1_commonBits_X0_bitInto : GoodIn wsX1_commonBits (wsV RX1 63 RX0 yX0_bitInto wsX0_bitInto) := goodIn_app (goodIn_of _ (by decide +kernel)) ggX1_commonBits_X0_bitInto
set_option maxRecDepth 20000 in
theorem ggX1_commonBits_X1_stateBefore : GoodIn wsX1_commonBits wsX1_stateBefore := goodIn_r _ [21, 22, 23, 24, 25, 5, 26, 27, 3, 4, 6, 7, 28, 29, 30, 31, 32, 33, 34, 35, 36, 37, 38] (by decide +kernel) (by decide +kernel)
set_option maxRecDepth 20000 in
theorem gX1_commonBits_X1_stateBefore : GoodIn wsX1_commonBits (wsV RX1 82 RX1 yX1_stateBefore wsX1_stateBefore) := goodIn_app (goodIn_of _ (by decide +kernel)) ggX1_commonBits_X1_stateBefore
theorem dX1_commonBits_0 : decode cX1_commonBits 0 = .ok (.aload_n 1, 1) := by decide +kernel
theorem dX1_commonBits_1 : decode cX1_commonBits 1 = .ok (.invokevirtual 53, 3) := by decide +kernel
theorem dX1_commonBits_4 : decode cX1_commonBits 4 = .ok (.istore_n 2, 1) := by decide +kernel
theorem dX1_commonBits_5 : decode cX1_commonBits 5 = .ok (.aload_n 0, 1) := by decide +kernel
theorem dX1_commonBits_6 : decode cX1_commonBits 6 = .ok (.getfield 27, 3) := by decide +kernel
theorem dX1_commonBits_9 : decode cX1_commonBits 9 = .ok (.istore_n 3, 1) := by decide +kernel
theorem dX1_commonBits_10 : decode cX1_commonBits 10 = .ok (.aload_n 0, 1) := by decide +kernel
theorem dX1_commonBits_11 : decode cX1_commonBits 11 = .ok (.aload_n 1, 1) := by decide +kernel
theorem dX1_commonBits_12 : decode cX1_commonBits 12 = .ok (.invokevirtual 86, 3) := by decide +kernel
theorem dX1_commonBits_15 : decode cX1_commonBits 15 = .ok (.lstore 4, 2) := by decide +kernel
theorem dX1_commonBits_17 : decode cX1_commonBits 17 = .ok (.aload_n 0, 1) := by decide +kernel
theorem dX1_commonBits_18 : decode cX1_commonBits 18 = .ok (.getfield 27, 3) := by decide +kernel
theorem dX1_commonBits_21 : decode cX1_commonBits 21 = .ok (.iconst 1, 1) := by decide +kernel
theorem dX1_commonBits_22 : decode cX1_commonBits 22 = .ok (.isub, 1) := by decide +kernel
theorem dX1_commonBits_23 : decode cX1_commonBits 23 = .ok (.istore 6, 2) := by decide +kernel
theorem dX1_commonBits_25 : decode cX1_commonBits 25 = .ok (.iload 6, 2) := by decide +kernel
theorem dX1_commonBits_27 : decode cX1_commonBits 27 = .ok (.ifCond .lt 84, 3) := by decide +kernel
theorem dX1_commonBits_30 : decode cX1_commonBits 30 = .ok (.lconst 0, 1) := by decide +kernel
theorem dX1_commonBits_31 : decode cX1_commonBits 31 = .ok (.lstore 7, 2) := by decide +kernel
theorem dX1_commonBits_33 : decode cX1_commonBits 33 = .ok (.iconst 0, 1) := by decide +kernel
theorem dX1_commonBits_34 : decode cX1_commonBits 34 = .ok (.istore 9, 2) := by decide +kernel
theorem dX1_commonBits_36 : decode cX1_commonBits 36 = .ok (.iconst 0, 1) := by decide +kernel
theorem dX1_commonBits_37 : decode cX1_commonBits 37 = .ok (.istore 10, 2) := by decide +kernel
theorem dX1_commonBits_39 : decode cX1_commonBits 39 = .ok (.iload 10, 2) := by decide +kernel
theorem dX1_commonBits_41 : decode cX1_commonBits 41 = .ok (.iload_n 2, 1) := by decide +kernel
theorem dX1_commonBits_42 : decode cX1_commonBits 42 = .ok (.if_icmp .ge 50, 3) := by decide +kernel
theorem dX1_commonBits_45 : decode cX1_commonBits 45 = .ok (.lload 4, 2) := by decide +kernel
theorem dX1_commonBits_47 : decode cX1_commonBits 47 = .ok (.iload 10, 2) := by decide +kernel
theorem dX1_commonBits_49 : decode cX1_commonBits 49 = .ok (.lshr, 1) := by decide +kernel
theorem dX1_commonBits_50 : decode cX1_commonBits 50 = .ok (.lconst 1, 1) := by decide +kernel
theorem dX1_commonBits_51 : decode cX1_commonBits 51 = .ok (.land, 1) := by decide +kernel
theorem dX1_commonBits_52 : decode cX1_commonBits 52 = .ok (.lconst 1, 1) := by decide +kernel
theorem dX1_commonBits_53 : decode cX1_commonBits 53 = .ok (.lcmp, 1) := by decide +kernel
theorem dX1_commonBits_54 : decode cX1_commonBits 54 = .ok (.ifCond .ne 32, 3) := by decide +kernel
theorem dX1_commonBits_57 : decode cX1_commonBits 57 = .ok (.iload 9, 2) := by decide +kernel
theorem dX1_commonBits_59 : decode cX1_commonBits 59 = .ok (.iconst 1, 1) := by decide +kernel
theorem dX1_commonBits_60 : decode cX1_commonBits 60 = .ok (.aload_n 1, 1) := by decide +kernel
theorem dX1_commonBits_61 : decode cX1_commonBits 61 = .ok (.iload 10, 2) := by decide +kernel
theorem dX1_commonBits_63 : decode cX1_commonBits 63 = .ok (.invokevirtual 63, 3) := by decide +kernel
theorem dX1_commonBits_66 : decode cX1_commonBits 66 = .ok (.ishl, 1) := by decide +kernel
theorem dX1_commonBits_67 : decode cX1_commonBits 67 = .ok (.ior, 1) := by decide +kernel
theorem dX1_commonBits_68 : decode cX1_commonBits 68 = .ok (.istore 9, 2) := by decide +kernel
theorem dX1_commonBits_70 : decode cX1_commonBits 70 = .ok (.lload 7, 2) := by decide +kernel
theorem dX1_commonBits_72 : decode cX1_commonBits 72 = .ok (.lconst 1, 1) := by decide +kernel
theorem dX1_commonBits_73 : decode cX1_commonBits 73 = .ok (.aload_n 0, 1) := by decide +kernel
theorem dX1_commonBits_74 : decode cX1_commonBits 74 = .ok (.aload_n 1, 1) := by decide +kernel
theorem dX1_commonBits_75 : decode cX1_commonBits 75 = .ok (.iload 10, 2) := by decide +kernel
theorem dX1_commonBits_77 : decode cX1_commonBits 77 = .ok (.iload 6, 2) := by decide +kernel
theorem dX1_commonBits_79 : decode cX1_commonBits 79 = .ok (.invokevirtual 82, 3) := by decide +kernel
theorem dX1_commonBits_82 : decode cX1_commonBits 82 = .ok (.lshl, 1) := by decide +kernel
theorem dX1_commonBits_83 : decode cX1_commonBits 83 = .ok (.lor, 1) := by decide +kernel
theorem dX1_commonBits_84 : decode cX1_commonBits 84 = .ok (.lstore 7, 2) := by decide +kernel
theorem dX1_commonBits_86 : decode cX1_commonBits 86 = .ok (.iinc 10 1, 3) := by decide +kernel
theorem dX1_commonBits_89 : decode cX1_commonBits 89 = .ok (.goto (-50), 3) := by decide +kernel
theorem dX1_commonBits_92 : decode cX1_commonBits 92 = .ok (.iload 9, 2) := by decide +kernel
theorem dX1_commonBits_94 : decode cX1_commonBits 94 = .ok (.iconst 3, 1) := by decide +kernel
theorem dX1_commonBits_95 : decode cX1_commonBits 95 = .ok (.if_icmp .ne 6, 3) := by decide +kernel
theorem dX1_commonBits_98 : decode cX1_commonBits 98 = .ok (.iload 6, 2) := by decide +kernel
theorem dX1_commonBits_100 : decode cX1_commonBits 100 = .ok (.istore_n 3, 1) := by decide +kernel
theorem dX1_commonBits_101 : decode cX1_commonBits 101 = .ok (.lload 7, 2) := by decide +kernel
theorem dX1_commonBits_103 : decode cX1_commonBits 103 = .ok (.lstore 4, 2) := by decide +kernel
theorem dX1_commonBits_105 : decode cX1_commonBits 105 = .ok (.iinc 6 (-1), 3) := by decide +kernel
theorem dX1_commonBits_108 : decode cX1_commonBits 108 = .ok (.goto (-83), 3) := by decide +kernel
theorem dX1_commonBits_111 : decode cX1_commonBits 111 = .ok (.iload_n 3, 1) := by decide +kernel
theorem dX1_commonBits_112 : decode cX1_commonBits 112 = .ok (.ireturn, 1) := by decide +kernel
set_option maxRecDepth 20000 in
theorem ggX1_reached_X0_states : GoodIn wsX1_reached wsX0_states := goodIn_r _ [6, 7, 16, 17, 18] (by decide +kernel) (by decide +kernel)
set_option maxRecDepth 20000 in
theorem gX1_reached_X0_states : GoodIn wsX1_reached (wsV RX1 53 RX0 yX0_states wsX0_states) := goodIn_app (goodIn_of _ (by decide +kernel)) ggX1_reached_X0_states
theorem dX1_reached_0 : decode cX1_reached 0 = .ok (.aload_n 1, 1) := by decide +kernel
theorem dX1_reached_1 : decode cX1_reached 1 = .ok (.invokevirtual 53, 3) := by decide +kernel
theorem dX1_reached_4 : decode cX1_reached 4 = .ok (.istore_n 2, 1) := by decide +kernel
theorem dX1_reached_5 : decode cX1_reached 5 = .ok (.lconst 0, 1) := by decide +kernel
theorem dX1_reached_6 : decode cX1_reached 6 = .ok (.lstore_n 3, 1) := by decide +kernel
theorem dX1_reached_7 : decode cX1_reached 7 = .ok (.iconst 0, 1) := by decide +kernel
theorem dX1_reached_8 : decode cX1_reached 8 = .ok (.istore 5, 2) := by decide +kernel
theorem dX1_reached_10 : decode cX1_reached 10 = .ok (.iload 5, 2) := by decide +kernel
theorem dX1_reached_12 : decode cX1_reached 12 = .ok (.iload_n 2, 1) := by decide +kernel
theorem dX1_reached_13 : decode cX1_reached 13 = .ok (.if_icmp .ge 27, 3) := by decide +kernel
theorem dX1_reached_16 : decode cX1_reached 16 = .ok (.aload_n 0, 1) := by decide +kernel
theorem dX1_reached_17 : decode cX1_reached 17 = .ok (.getfield 15, 3) := by decide +kernel
theorem dX1_reached_20 : decode cX1_reached 20 = .ok (.iload 5, 2) := by decide +kernel
theorem dX1_reached_22 : decode cX1_reached 22 = .ok (.iaload, 1) := by decide +kernel
theorem dX1_reached_23 : decode cX1_reached 23 = .ok (.iconst (-1), 1) := by decide +kernel
theorem dX1_reached_24 : decode cX1_reached 24 = .ok (.if_icmp .eq 10, 3) := by decide +kernel
theorem dX1_reached_27 : decode cX1_reached 27 = .ok (.lload_n 3, 1) := by decide +kernel
theorem dX1_reached_28 : decode cX1_reached 28 = .ok (.lconst 1, 1) := by decide +kernel
theorem dX1_reached_29 : decode cX1_reached 29 = .ok (.iload 5, 2) := by decide +kernel
theorem dX1_reached_31 : decode cX1_reached 31 = .ok (.lshl, 1) := by decide +kernel
theorem dX1_reached_32 : decode cX1_reached 32 = .ok (.lor, 1) := by decide +kernel
theorem dX1_reached_33 : decode cX1_reached 33 = .ok (.lstore_n 3, 1) := by decide +kernel
theorem dX1_reached_34 : decode cX1_reached 34 = .ok (.iinc 5 1, 3) := by decide +kernel
theorem dX1_reached_37 : decode cX1_reached 37 = .ok (.goto (-27), 3) := by decide +kernel
theorem dX1_reached_40 : decode cX1_reached 40 = .ok (.lload_n 3, 1) := by decide +kernel
theorem dX1_reached_41 : decode cX1_reached 41 = .ok (.lreturn, 1) := by decide +kernel
set_option maxRecDepth 20000 in
theorem ggX1_reachedStates_X1_reached : GoodIn wsX1_reachedStates wsX1_reached := goodIn_r _ [5, 6, 7, 8, 9, 10, 11, 12, 20, 21, 22, 23, 24, 25, 26, 27, 28, 29, 30] (by decide +kernel) (by decide +kernel)
set_option maxRecDepth 20000 in
theorem gX1_reachedStates_X1_reached : GoodIn wsX1_reachedStates (wsV RX1 86 RX1 yX1_reached wsX1_reached) := goodIn_app (goodIn_of _ (by decide +kernel)) ggX1_reachedStates_X1_reached
set_option maxRecDepth 20000 in
theorem ggX1_reachedStates_J13_bitCount_95d88 : GoodIn wsX1_reachedStates wsJ13_bitCount_95d88 := goodIn_r _ [16, 17, 18, 19] (by decide +kernel) (by decide +kernel)
set_option maxRecDepth 20000 in
theorem gX1_reachedStates_J13_bitCount_95d88 : GoodIn wsX1_reachedStates (va_wsS RX1 90 yJ13_bitCount_95d88 wsJ13_bitCount_95d88) := goodIn_app (goodIn_of _ (by decide +kernel)) ggX1_reachedStates_J13_bitCount_95d88
theorem dX1_reachedStates_0 : decode cX1_reachedStates 0 = .ok (.aload_n 0, 1) := by decide +kernel
theorem dX1_reachedStates_1 : decode cX1_reachedStates 1 = .ok (.aload_n 1, 1) := by decide +kernel
theorem dX1_reachedStates_2 : decode cX1_reachedStates 2 = .ok (.invokevirtual 86, 3) := by decide +kernel
theorem dX1_reachedStates_5 : decode cX1_reachedStates 5 = .ok (.invokestatic 90, 3) := by decide +kernel
theorem dX1_reachedStates_8 : decode cX1_reachedStates 8 = .ok (.ireturn, 1) := by decide +kernel
set_option maxRecDepth 20000 in
theorem ggX1_bestState_X0_states : GoodIn wsX1_bestState wsX0_states := goodIn_r _ [6, 7, 16, 17, 18] (by decide +kernel) (by decide +kernel)
set_option maxRecDepth 20000 in
theorem gX1_bestState_X0_states : GoodIn wsX1_bestState (wsV RX1 53 RX0 yX0_states wsX0_states) := goodIn_app (goodIn_of _ (by decide +kernel)) ggX1_bestState_X0_states
theorem dX1_bestState_0 : decode cX1_bestState 0 = .ok (.aload_n 1, 1) := by decide +kernel
theorem dX1_bestState_1 : decode cX1_bestState 1 = .ok (.invokevirtual 53, 3) := by decide +kernel
theorem dX1_bestState_4 : decode cX1_bestState 4 = .ok (.istore_n 2, 1) := by decide +kernel
theorem dX1_bestState_5 : decode cX1_bestState 5 = .ok (.iconst 0, 1) := by decide +kernel
theorem dX1_bestState_6 : decode cX1_bestState 6 = .ok (.istore_n 3, 1) := by decide +kernel
theorem dX1_bestState_7 : decode cX1_bestState 7 = .ok (.iconst 1, 1) := by decide +kernel
theorem dX1_bestState_8 : decode cX1_bestState 8 = .ok (.istore 4, 2) := by decide +kernel
theorem dX1_bestState_10 : decode cX1_bestState 10 = .ok (.iload 4, 2) := by decide +kernel
theorem dX1_bestState_12 : decode cX1_bestState 12 = .ok (.iload_n 2, 1) := by decide +kernel
theorem dX1_bestState_13 : decode cX1_bestState 13 = .ok (.if_icmp .ge 61, 3) := by decide +kernel
theorem dX1_bestState_16 : decode cX1_bestState 16 = .ok (.aload_n 0, 1) := by decide +kernel
theorem dX1_bestState_17 : decode cX1_bestState 17 = .ok (.getfield 15, 3) := by decide +kernel
theorem dX1_bestState_20 : decode cX1_bestState 20 = .ok (.iload_n 3, 1) := by decide +kernel
theorem dX1_bestState_21 : decode cX1_bestState 21 = .ok (.iaload, 1) := by decide +kernel
theorem dX1_bestState_22 : decode cX1_bestState 22 = .ok (.iconst (-1), 1) := by decide +kernel
theorem dX1_bestState_23 : decode cX1_bestState 23 = .ok (.if_icmp .eq 19, 3) := by decide +kernel
theorem dX1_bestState_26 : decode cX1_bestState 26 = .ok (.aload_n 0, 1) := by decide +kernel
theorem dX1_bestState_27 : decode cX1_bestState 27 = .ok (.getfield 15, 3) := by decide +kernel
theorem dX1_bestState_30 : decode cX1_bestState 30 = .ok (.iload 4, 2) := by decide +kernel
theorem dX1_bestState_32 : decode cX1_bestState 32 = .ok (.iaload, 1) := by decide +kernel
theorem dX1_bestState_33 : decode cX1_bestState 33 = .ok (.aload_n 0, 1) := by decide +kernel
theorem dX1_bestState_34 : decode cX1_bestState 34 = .ok (.getfield 15, 3) := by decide +kernel
theorem dX1_bestState_37 : decode cX1_bestState 37 = .ok (.iload_n 3, 1) := by decide +kernel
theorem dX1_bestState_38 : decode cX1_bestState 38 = .ok (.iaload, 1) := by decide +kernel
theorem dX1_bestState_39 : decode cX1_bestState 39 = .ok (.if_icmp .ge 7, 3) := by decide +kernel
theorem dX1_bestState_42 : decode cX1_bestState 42 = .ok (.iconst 1, 1) := by decide +kernel
theorem dX1_bestState_43 : decode cX1_bestState 43 = .ok (.goto 4, 3) := by decide +kernel
theorem dX1_bestState_46 : decode cX1_bestState 46 = .ok (.iconst 0, 1) := by decide +kernel
theorem dX1_bestState_47 : decode cX1_bestState 47 = .ok (.istore 5, 2) := by decide +kernel
theorem dX1_bestState_49 : decode cX1_bestState 49 = .ok (.aload_n 0, 1) := by decide +kernel
theorem dX1_bestState_50 : decode cX1_bestState 50 = .ok (.getfield 15, 3) := by decide +kernel
theorem dX1_bestState_53 : decode cX1_bestState 53 = .ok (.iload 4, 2) := by decide +kernel
theorem dX1_bestState_55 : decode cX1_bestState 55 = .ok (.iaload, 1) := by decide +kernel
theorem dX1_bestState_56 : decode cX1_bestState 56 = .ok (.iconst (-1), 1) := by decide +kernel
theorem dX1_bestState_57 : decode cX1_bestState 57 = .ok (.if_icmp .eq 11, 3) := by decide +kernel
theorem dX1_bestState_60 : decode cX1_bestState 60 = .ok (.iload 5, 2) := by decide +kernel
theorem dX1_bestState_62 : decode cX1_bestState 62 = .ok (.ifCond .eq 6, 3) := by decide +kernel
theorem dX1_bestState_65 : decode cX1_bestState 65 = .ok (.iload 4, 2) := by decide +kernel
theorem dX1_bestState_67 : decode cX1_bestState 67 = .ok (.istore_n 3, 1) := by decide +kernel
theorem dX1_bestState_68 : decode cX1_bestState 68 = .ok (.iinc 4 1, 3) := by decide +kernel
theorem dX1_bestState_71 : decode cX1_bestState 71 = .ok (.goto (-61), 3) := by decide +kernel
theorem dX1_bestState_74 : decode cX1_bestState 74 = .ok (.iload_n 3, 1) := by decide +kernel
theorem dX1_bestState_75 : decode cX1_bestState 75 = .ok (.ireturn, 1) := by decide +kernel
set_option maxRecDepth 20000 in
theorem ggX2_init_X2_clear : GoodIn wsX2_init wsX2_clear := goodIn_r _ [12, 13, 14, 15, 16, 17, 18, 19] (by decide +kernel) (by decide +kernel)
set_option maxRecDepth 20000 in
theorem gX2_init_X2_clear : GoodIn wsX2_init (wsV RX2 21 RX2 yX2_clear wsX2_clear) := goodIn_app (goodIn_of _ (by decide +kernel)) ggX2_init_X2_clear
theorem dX2_init_0 : decode cX2_init 0 = .ok (.aload_n 0, 1) := by decide +kernel
theorem dX2_init_1 : decode cX2_init 1 = .ok (.invokespecial 3, 3) := by decide +kernel
theorem dX2_init_4 : decode cX2_init 4 = .ok (.aload_n 0, 1) := by decide +kernel
theorem dX2_init_5 : decode cX2_init 5 = .ok (.bipush 80, 2) := by decide +kernel
theorem dX2_init_7 : decode cX2_init 7 = .ok (.newarray .int, 2) := by decide +kernel
theorem dX2_init_9 : decode cX2_init 9 = .ok (.putfield 9, 3) := by decide +kernel
theorem dX2_init_12 : decode cX2_init 12 = .ok (.aload_n 0, 1) := by decide +kernel
theorem dX2_init_13 : decode cX2_init 13 = .ok (.sipush 240, 3) := by decide +kernel
theorem dX2_init_16 : decode cX2_init 16 = .ok (.newarray .int, 2) := by decide +kernel
theorem dX2_init_18 : decode cX2_init 18 = .ok (.putfield 15, 3) := by decide +kernel
theorem dX2_init_21 : decode cX2_init 21 = .ok (.aload_n 0, 1) := by decide +kernel
theorem dX2_init_22 : decode cX2_init 22 = .ok (.sipush 240, 3) := by decide +kernel
theorem dX2_init_25 : decode cX2_init 25 = .ok (.newarray .int, 2) := by decide +kernel
theorem dX2_init_27 : decode cX2_init 27 = .ok (.putfield 18, 3) := by decide +kernel
theorem dX2_init_30 : decode cX2_init 30 = .ok (.aload_n 0, 1) := by decide +kernel
theorem dX2_init_31 : decode cX2_init 31 = .ok (.invokevirtual 21, 3) := by decide +kernel
theorem dX2_init_34 : decode cX2_init 34 = .ok (.return_, 1) := by decide +kernel
theorem dX2_clear_0 : decode cX2_clear 0 = .ok (.aload_n 0, 1) := by decide +kernel
theorem dX2_clear_1 : decode cX2_clear 1 = .ok (.iconst 0, 1) := by decide +kernel
theorem dX2_clear_2 : decode cX2_clear 2 = .ok (.putfield 24, 3) := by decide +kernel
theorem dX2_clear_5 : decode cX2_clear 5 = .ok (.aload_n 0, 1) := by decide +kernel
theorem dX2_clear_6 : decode cX2_clear 6 = .ok (.iconst 0, 1) := by decide +kernel
theorem dX2_clear_7 : decode cX2_clear 7 = .ok (.putfield 28, 3) := by decide +kernel
theorem dX2_clear_10 : decode cX2_clear 10 = .ok (.return_, 1) := by decide +kernel
theorem dX2_copyFrom_0 : decode cX2_copyFrom 0 = .ok (.aload_n 0, 1) := by decide +kernel
theorem dX2_copyFrom_1 : decode cX2_copyFrom 1 = .ok (.aload_n 1, 1) := by decide +kernel
theorem dX2_copyFrom_2 : decode cX2_copyFrom 2 = .ok (.getfield 24, 3) := by decide +kernel
theorem dX2_copyFrom_5 : decode cX2_copyFrom 5 = .ok (.putfield 24, 3) := by decide +kernel
theorem dX2_copyFrom_8 : decode cX2_copyFrom 8 = .ok (.aload_n 0, 1) := by decide +kernel
theorem dX2_copyFrom_9 : decode cX2_copyFrom 9 = .ok (.aload_n 1, 1) := by decide +kernel
theorem dX2_copyFrom_10 : decode cX2_copyFrom 10 = .ok (.getfield 28, 3) := by decide +kernel
theorem dX2_copyFrom_13 : decode cX2_copyFrom 13 = .ok (.putfield 28, 3) := by decide +kernel
theorem dX2_copyFrom_16 : decode cX2_copyFrom 16 = .ok (.aload_n 1, 1) := by decide +kernel
theorem dX2_copyFrom_17 : decode cX2_copyFrom 17 = .ok (.getfield 9, 3) := by decide +kernel
theorem dX2_copyFrom_20 : decode cX2_copyFrom 20 = .ok (.iconst 0, 1) := by decide +kernel
theorem dX2_copyFrom_21 : decode cX2_copyFrom 21 = .ok (.aload_n 0, 1) := by decide +kernel
theorem dX2_copyFrom_22 : decode cX2_copyFrom 22 = .ok (.getfield 9, 3) := by decide +kernel
theorem dX2_copyFrom_25 : decode cX2_copyFrom 25 = .ok (.iconst 0, 1) := by decide +kernel
theorem dX2_copyFrom_26 : decode cX2_copyFrom 26 = .ok (.bipush 80, 2) := by decide +kernel
theorem dX2_copyFrom_28 : decode cX2_copyFrom 28 = .ok (.invokestatic 31, 3) := by decide +kernel
theorem dX2_copyFrom_31 : decode cX2_copyFrom 31 = .ok (.aload_n 1, 1) := by decide +kernel
theorem dX2_copyFrom_32 : decode cX2_copyFrom 32 = .ok (.getfield 15, 3) := by decide +kernel
theorem dX2_copyFrom_35 : decode cX2_copyFrom 35 = .ok (.iconst 0, 1) := by decide +kernel
theorem dX2_copyFrom_36 : decode cX2_copyFrom 36 = .ok (.aload_n 0, 1) := by decide +kernel
theorem dX2_copyFrom_37 : decode cX2_copyFrom 37 = .ok (.getfield 15, 3) := by decide +kernel
theorem dX2_copyFrom_40 : decode cX2_copyFrom 40 = .ok (.iconst 0, 1) := by decide +kernel
theorem dX2_copyFrom_41 : decode cX2_copyFrom 41 = .ok (.sipush 240, 3) := by decide +kernel
theorem dX2_copyFrom_44 : decode cX2_copyFrom 44 = .ok (.invokestatic 31, 3) := by decide +kernel
theorem dX2_copyFrom_47 : decode cX2_copyFrom 47 = .ok (.aload_n 1, 1) := by decide +kernel
theorem dX2_copyFrom_48 : decode cX2_copyFrom 48 = .ok (.getfield 18, 3) := by decide +kernel
theorem dX2_copyFrom_51 : decode cX2_copyFrom 51 = .ok (.iconst 0, 1) := by decide +kernel
theorem dX2_copyFrom_52 : decode cX2_copyFrom 52 = .ok (.aload_n 0, 1) := by decide +kernel
theorem dX2_copyFrom_53 : decode cX2_copyFrom 53 = .ok (.getfield 18, 3) := by decide +kernel
theorem dX2_copyFrom_56 : decode cX2_copyFrom 56 = .ok (.iconst 0, 1) := by decide +kernel
theorem dX2_copyFrom_57 : decode cX2_copyFrom 57 = .ok (.sipush 240, 3) := by decide +kernel
theorem dX2_copyFrom_60 : decode cX2_copyFrom 60 = .ok (.invokestatic 31, 3) := by decide +kernel
theorem dX2_copyFrom_63 : decode cX2_copyFrom 63 = .ok (.return_, 1) := by decide +kernel
set_option maxRecDepth 20000 in
theorem ggX2_push_X0_windowOf : GoodIn wsX2_push wsX0_windowOf := goodIn_r _ [11, 12, 35, 36, 37] (by decide +kernel) (by decide +kernel)
set_option maxRecDepth 20000 in
theorem gX2_push_X0_windowOf : GoodIn wsX2_push (wsV RX2 37 RX0 yX0_windowOf wsX0_windowOf) := goodIn_app (goodIn_of _ (by decide +kernel)) ggX2_push_X0_windowOf
set_option maxRecDepth 20000 in
theorem ggX2_push_X0_symbolOf : GoodIn wsX2_push wsX0_symbolOf := goodIn_r _ [16, 17, 18, 19, 20, 21, 22, 23, 24, 35, 36, 37] (by decide +kernel) (by decide +kernel)
set_option maxRecDepth 20000 in
theorem gX2_push_X0_symbolOf : GoodIn wsX2_push (wsV RX2 46 RX0 yX0_symbolOf wsX0_symbolOf) := goodIn_app (goodIn_of _ (by decide +kernel)) ggX2_push_X0_symbolOf
set_option maxRecDepth 20000 in
theorem ggX2_push_X0_stateAfter : GoodIn wsX2_push wsX0_stateAfter := goodIn_r _ [28, 29, 8, 9, 10, 11, 12, 35, 36, 37] (by decide +kernel) (by decide +kernel)
set_option maxRecDepth 20000 in
theorem gX2_push_X0_stateAfter : GoodIn wsX2_push (wsV RX2 49 RX0 yX0_stateAfter wsX0_stateAfter) := goodIn_app (goodIn_of _ (by decide +kernel)) ggX2_push_X0_stateAfter
theorem dX2_push_0 : decode cX2_push 0 = .ok (.aload_n 0, 1) := by decide +kernel
theorem dX2_push_1 : decode cX2_push 1 = .ok (.getfield 28, 3) := by decide +kernel
theorem dX2_push_4 : decode cX2_push 4 = .ok (.bipush 80, 2) := by decide +kernel
theorem dX2_push_6 : decode cX2_push 6 = .ok (.if_icmp .lt 4, 3) := by decide +kernel
theorem dX2_push_9 : decode cX2_push 9 = .ok (.return_, 1) := by decide +kernel
theorem dX2_push_10 : decode cX2_push 10 = .ok (.aload_n 1, 1) := by decide +kernel
theorem dX2_push_11 : decode cX2_push 11 = .ok (.aload_n 0, 1) := by decide +kernel
theorem dX2_push_12 : decode cX2_push 12 = .ok (.getfield 24, 3) := by decide +kernel
theorem dX2_push_15 : decode cX2_push 15 = .ok (.iload_n 2, 1) := by decide +kernel
theorem dX2_push_16 : decode cX2_push 16 = .ok (.invokevirtual 37, 3) := by decide +kernel
theorem dX2_push_19 : decode cX2_push 19 = .ok (.istore_n 3, 1) := by decide +kernel
theorem dX2_push_20 : decode cX2_push 20 = .ok (.aload_n 0, 1) := by decide +kernel
theorem dX2_push_21 : decode cX2_push 21 = .ok (.getfield 28, 3) := by decide +kernel
theorem dX2_push_24 : decode cX2_push 24 = .ok (.aload_n 1, 1) := by decide +kernel
theorem dX2_push_25 : decode cX2_push 25 = .ok (.getfield 43, 3) := by decide +kernel
theorem dX2_push_28 : decode cX2_push 28 = .ok (.imul, 1) := by decide +kernel
theorem dX2_push_29 : decode cX2_push 29 = .ok (.istore 4, 2) := by decide +kernel
theorem dX2_push_31 : decode cX2_push 31 = .ok (.iconst 0, 1) := by decide +kernel
theorem dX2_push_32 : decode cX2_push 32 = .ok (.istore 5, 2) := by decide +kernel
theorem dX2_push_34 : decode cX2_push 34 = .ok (.iload 5, 2) := by decide +kernel
theorem dX2_push_36 : decode cX2_push 36 = .ok (.aload_n 1, 1) := by decide +kernel
theorem dX2_push_37 : decode cX2_push 37 = .ok (.getfield 43, 3) := by decide +kernel
theorem dX2_push_40 : decode cX2_push 40 = .ok (.if_icmp .ge 42, 3) := by decide +kernel
theorem dX2_push_43 : decode cX2_push 43 = .ok (.aload_n 1, 1) := by decide +kernel
theorem dX2_push_44 : decode cX2_push 44 = .ok (.iload 5, 2) := by decide +kernel
theorem dX2_push_46 : decode cX2_push 46 = .ok (.iload_n 3, 1) := by decide +kernel
theorem dX2_push_47 : decode cX2_push 47 = .ok (.invokevirtual 46, 3) := by decide +kernel
theorem dX2_push_50 : decode cX2_push 50 = .ok (.istore 6, 2) := by decide +kernel
theorem dX2_push_52 : decode cX2_push 52 = .ok (.aload_n 0, 1) := by decide +kernel
theorem dX2_push_53 : decode cX2_push 53 = .ok (.getfield 15, 3) := by decide +kernel
theorem dX2_push_56 : decode cX2_push 56 = .ok (.iload 4, 2) := by decide +kernel
theorem dX2_push_58 : decode cX2_push 58 = .ok (.iload 5, 2) := by decide +kernel
theorem dX2_push_60 : decode cX2_push 60 = .ok (.iadd, 1) := by decide +kernel
theorem dX2_push_61 : decode cX2_push 61 = .ok (.iload 6, 2) := by decide +kernel
theorem dX2_push_63 : decode cX2_push 63 = .ok (.iastore, 1) := by decide +kernel
theorem dX2_push_64 : decode cX2_push 64 = .ok (.aload_n 0, 1) := by decide +kernel
theorem dX2_push_65 : decode cX2_push 65 = .ok (.getfield 18, 3) := by decide +kernel
theorem dX2_push_68 : decode cX2_push 68 = .ok (.iload 4, 2) := by decide +kernel
theorem dX2_push_70 : decode cX2_push 70 = .ok (.iload 5, 2) := by decide +kernel
theorem dX2_push_72 : decode cX2_push 72 = .ok (.iadd, 1) := by decide +kernel
theorem dX2_push_73 : decode cX2_push 73 = .ok (.iload 6, 2) := by decide +kernel
theorem dX2_push_75 : decode cX2_push 75 = .ok (.iastore, 1) := by decide +kernel
theorem dX2_push_76 : decode cX2_push 76 = .ok (.iinc 5 1, 3) := by decide +kernel
theorem dX2_push_79 : decode cX2_push 79 = .ok (.goto (-45), 3) := by decide +kernel
theorem dX2_push_82 : decode cX2_push 82 = .ok (.aload_n 0, 1) := by decide +kernel
theorem dX2_push_83 : decode cX2_push 83 = .ok (.getfield 9, 3) := by decide +kernel
theorem dX2_push_86 : decode cX2_push 86 = .ok (.aload_n 0, 1) := by decide +kernel
theorem dX2_push_87 : decode cX2_push 87 = .ok (.getfield 28, 3) := by decide +kernel
theorem dX2_push_90 : decode cX2_push 90 = .ok (.iload_n 2, 1) := by decide +kernel
theorem dX2_push_91 : decode cX2_push 91 = .ok (.iastore, 1) := by decide +kernel
theorem dX2_push_92 : decode cX2_push 92 = .ok (.aload_n 0, 1) := by decide +kernel
theorem dX2_push_93 : decode cX2_push 93 = .ok (.dup, 1) := by decide +kernel
theorem dX2_push_94 : decode cX2_push 94 = .ok (.getfield 28, 3) := by decide +kernel
theorem dX2_push_97 : decode cX2_push 97 = .ok (.iconst 1, 1) := by decide +kernel
theorem dX2_push_98 : decode cX2_push 98 = .ok (.iadd, 1) := by decide +kernel
theorem dX2_push_99 : decode cX2_push 99 = .ok (.putfield 28, 3) := by decide +kernel
theorem dX2_push_102 : decode cX2_push 102 = .ok (.aload_n 0, 1) := by decide +kernel
theorem dX2_push_103 : decode cX2_push 103 = .ok (.aload_n 1, 1) := by decide +kernel
theorem dX2_push_104 : decode cX2_push 104 = .ok (.aload_n 0, 1) := by decide +kernel
theorem dX2_push_105 : decode cX2_push 105 = .ok (.getfield 24, 3) := by decide +kernel
theorem dX2_push_108 : decode cX2_push 108 = .ok (.iload_n 2, 1) := by decide +kernel
theorem dX2_push_109 : decode cX2_push 109 = .ok (.invokevirtual 49, 3) := by decide +kernel
theorem dX2_push_112 : decode cX2_push 112 = .ok (.putfield 24, 3) := by decide +kernel
theorem dX2_push_115 : decode cX2_push 115 = .ok (.return_, 1) := by decide +kernel
set_option maxRecDepth 20000 in
theorem ggX3_init_X0_init : GoodIn wsX3_init wsX0_init := goodIn_r _ [19, 20, 2, 3, 21, 22, 23, 24, 25, 7, 26, 27, 28, 66, 67, 68] (by decide +kernel) (by decide +kernel)
set_option maxRecDepth 20000 in
theorem gX3_init_X0_init : GoodIn wsX3_init (wsX0_init) := ggX3_init_X0_init
set_option maxRecDepth 20000 in
theorem ggX3_init_X2_init : GoodIn wsX3_init wsX2_init := goodIn_r _ [31, 32, 2, 3, 21, 33, 34, 35, 36, 37, 38, 11, 39, 40, 41, 69, 70, 71, 72, 73] (by decide +kernel) (by decide +kernel)
set_option maxRecDepth 20000 in
theorem gX3_init_X2_init : GoodIn wsX3_init (wsX2_init) := ggX3_init_X2_init
set_option maxRecDepth 20000 in
theorem ggX3_init_X1_init : GoodIn wsX3_init wsX1_init := goodIn_r _ [44, 45, 2, 3, 21, 46, 47, 48, 49, 50, 51, 52, 15, 53, 54, 55, 56, 57, 58, 59, 60, 61, 74, 75, 76, 77, 78, 79, 80, 81] (by decide +kernel) (by decide +kernel)
set_option maxRecDepth 20000 in
theorem gX3_init_X1_init : GoodIn wsX3_init (wsX1_init) := ggX3_init_X1_init
theorem dX3_init_0 : decode cX3_init 0 = .ok (.aload_n 0, 1) := by decide +kernel
theorem dX3_init_1 : decode cX3_init 1 = .ok (.invokespecial 1, 3) := by decide +kernel
theorem dX3_init_4 : decode cX3_init 4 = .ok (.aload_n 0, 1) := by decide +kernel
theorem dX3_init_5 : decode cX3_init 5 = .ok (.bipush 10, 2) := by decide +kernel
theorem dX3_init_7 : decode cX3_init 7 = .ok (.putfield 7, 3) := by decide +kernel
theorem dX3_init_10 : decode cX3_init 10 = .ok (.aload_n 0, 1) := by decide +kernel
theorem dX3_init_11 : decode cX3_init 11 = .ok (.new 13, 3) := by decide +kernel
theorem dX3_init_14 : decode cX3_init 14 = .ok (.dup, 1) := by decide +kernel
theorem dX3_init_15 : decode cX3_init 15 = .ok (.invokespecial 15, 3) := by decide +kernel
theorem dX3_init_18 : decode cX3_init 18 = .ok (.putfield 16, 3) := by decide +kernel
theorem dX3_init_21 : decode cX3_init 21 = .ok (.aload_n 0, 1) := by decide +kernel
theorem dX3_init_22 : decode cX3_init 22 = .ok (.new 20, 3) := by decide +kernel
theorem dX3_init_25 : decode cX3_init 25 = .ok (.dup, 1) := by decide +kernel
theorem dX3_init_26 : decode cX3_init 26 = .ok (.invokespecial 22, 3) := by decide +kernel
theorem dX3_init_29 : decode cX3_init 29 = .ok (.putfield 23, 3) := by decide +kernel
theorem dX3_init_32 : decode cX3_init 32 = .ok (.aload_n 0, 1) := by decide +kernel
theorem dX3_init_33 : decode cX3_init 33 = .ok (.new 27, 3) := by decide +kernel
theorem dX3_init_36 : decode cX3_init 36 = .ok (.dup, 1) := by decide +kernel
theorem dX3_init_37 : decode cX3_init 37 = .ok (.invokespecial 29, 3) := by decide +kernel
theorem dX3_init_40 : decode cX3_init 40 = .ok (.putfield 30, 3) := by decide +kernel
theorem dX3_init_43 : decode cX3_init 43 = .ok (.return_, 1) := by decide +kernel
set_option maxRecDepth 20000 in
theorem ggX3_copyFrom_X0_copyFrom : GoodIn wsX3_copyFrom wsX0_copyFrom := goodIn_r _ [9, 10, 11, 12, 13, 14, 8, 15, 16, 48, 49, 50] (by decide +kernel) (by decide +kernel)
set_option maxRecDepth 20000 in
theorem gX3_copyFrom_X0_copyFrom : GoodIn wsX3_copyFrom (wsV RX3 34 RX0 yX0_copyFrom wsX0_copyFrom) := goodIn_app (goodIn_of _ (by decide +kernel)) ggX3_copyFrom_X0_copyFrom
set_option maxRecDepth 20000 in
theorem ggX3_copyFrom_X2_copyFrom : GoodIn wsX3_copyFrom wsX2_copyFrom := goodIn_r _ [21, 22, 23, 24, 25, 26, 27, 28, 29, 30, 51, 52, 53, 54, 55] (by decide +kernel) (by decide +kernel)
set_option maxRecDepth 20000 in
theorem gX3_copyFrom_X2_copyFrom : GoodIn wsX3_copyFrom (wsV RX3 38 RX2 yX2_copyFrom wsX2_copyFrom) := goodIn_app (goodIn_of _ (by decide +kernel)) ggX3_copyFrom_X2_copyFrom
set_option maxRecDepth 20000 in
theorem ggX3_copyFrom_X1_copyFrom : GoodIn wsX3_copyFrom wsX1_copyFrom := goodIn_r _ [35, 36, 37, 38, 39, 40, 41, 26, 27, 28, 42, 43, 56, 57, 58, 59, 60, 61, 62, 63] (by decide +kernel) (by decide +kernel)
set_option maxRecDepth 20000 in
theorem gX3_copyFrom_X1_copyFrom : GoodIn wsX3_copyFrom (wsV RX3 41 RX1 yX1_copyFrom wsX1_copyFrom) := goodIn_app (goodIn_of _ (by decide +kernel)) ggX3_copyFrom_X1_copyFrom
theorem dX3_copyFrom_0 : decode cX3_copyFrom 0 = .ok (.aload_n 0, 1) := by decide +kernel
theorem dX3_copyFrom_1 : decode cX3_copyFrom 1 = .ok (.aload_n 1, 1) := by decide +kernel
theorem dX3_copyFrom_2 : decode cX3_copyFrom 2 = .ok (.getfield 7, 3) := by decide +kernel
theorem dX3_copyFrom_5 : decode cX3_copyFrom 5 = .ok (.putfield 7, 3) := by decide +kernel
theorem dX3_copyFrom_8 : decode cX3_copyFrom 8 = .ok (.aload_n 0, 1) := by decide +kernel
theorem dX3_copyFrom_9 : decode cX3_copyFrom 9 = .ok (.getfield 16, 3) := by decide +kernel
theorem dX3_copyFrom_12 : decode cX3_copyFrom 12 = .ok (.aload_n 1, 1) := by decide +kernel
theorem dX3_copyFrom_13 : decode cX3_copyFrom 13 = .ok (.getfield 16, 3) := by decide +kernel
theorem dX3_copyFrom_16 : decode cX3_copyFrom 16 = .ok (.invokevirtual 34, 3) := by decide +kernel
theorem dX3_copyFrom_19 : decode cX3_copyFrom 19 = .ok (.aload_n 0, 1) := by decide +kernel
theorem dX3_copyFrom_20 : decode cX3_copyFrom 20 = .ok (.getfield 23, 3) := by decide +kernel
theorem dX3_copyFrom_23 : decode cX3_copyFrom 23 = .ok (.aload_n 1, 1) := by decide +kernel
theorem dX3_copyFrom_24 : decode cX3_copyFrom 24 = .ok (.getfield 23, 3) := by decide +kernel
theorem dX3_copyFrom_27 : decode cX3_copyFrom 27 = .ok (.invokevirtual 38, 3) := by decide +kernel
theorem dX3_copyFrom_30 : decode cX3_copyFrom 30 = .ok (.aload_n 0, 1) := by decide +kernel
theorem dX3_copyFrom_31 : decode cX3_copyFrom 31 = .ok (.getfield 30, 3) := by decide +kernel
theorem dX3_copyFrom_34 : decode cX3_copyFrom 34 = .ok (.aload_n 1, 1) := by decide +kernel
theorem dX3_copyFrom_35 : decode cX3_copyFrom 35 = .ok (.getfield 30, 3) := by decide +kernel
theorem dX3_copyFrom_38 : decode cX3_copyFrom 38 = .ok (.invokevirtual 41, 3) := by decide +kernel
theorem dX3_copyFrom_41 : decode cX3_copyFrom 41 = .ok (.return_, 1) := by decide +kernel
theorem dX4_init_0 : decode cX4_init 0 = .ok (.aload_n 0, 1) := by decide +kernel
theorem dX4_init_1 : decode cX4_init 1 = .ok (.invokespecial 3, 3) := by decide +kernel
theorem dX4_init_4 : decode cX4_init 4 = .ok (.aload_n 0, 1) := by decide +kernel
theorem dX4_init_5 : decode cX4_init 5 = .ok (.iconst 0, 1) := by decide +kernel
theorem dX4_init_6 : decode cX4_init 6 = .ok (.putfield 9, 3) := by decide +kernel
theorem dX4_init_9 : decode cX4_init 9 = .ok (.aload_n 0, 1) := by decide +kernel
theorem dX4_init_10 : decode cX4_init 10 = .ok (.bipush 60, 2) := by decide +kernel
theorem dX4_init_12 : decode cX4_init 12 = .ok (.newarray .int, 2) := by decide +kernel
theorem dX4_init_14 : decode cX4_init 14 = .ok (.putfield 15, 3) := by decide +kernel
theorem dX4_init_17 : decode cX4_init 17 = .ok (.return_, 1) := by decide +kernel
set_option maxRecDepth 20000 in
theorem ggX4_append_X4_valueOf : GoodIn wsX4_append wsX4_valueOf := goodIn_r _ [6] (by decide +kernel) (by decide +kernel)
set_option maxRecDepth 20000 in
theorem gX4_append_X4_valueOf : GoodIn wsX4_append (va_wsS RX4 19 yX4_valueOf wsX4_valueOf) := goodIn_app (goodIn_of _ (by decide +kernel)) ggX4_append_X4_valueOf
theorem dX4_append_0 : decode cX4_append 0 = .ok (.aload_n 0, 1) := by decide +kernel
theorem dX4_append_1 : decode cX4_append 1 = .ok (.getfield 9, 3) := by decide +kernel
theorem dX4_append_4 : decode cX4_append 4 = .ok (.bipush 60, 2) := by decide +kernel
theorem dX4_append_6 : decode cX4_append 6 = .ok (.if_icmp .lt 4, 3) := by decide +kernel
theorem dX4_append_9 : decode cX4_append 9 = .ok (.return_, 1) := by decide +kernel
theorem dX4_append_10 : decode cX4_append 10 = .ok (.aload_n 0, 1) := by decide +kernel
theorem dX4_append_11 : decode cX4_append 11 = .ok (.getfield 15, 3) := by decide +kernel
theorem dX4_append_14 : decode cX4_append 14 = .ok (.aload_n 0, 1) := by decide +kernel
theorem dX4_append_15 : decode cX4_append 15 = .ok (.getfield 9, 3) := by decide +kernel
theorem dX4_append_18 : decode cX4_append 18 = .ok (.iload_n 1, 1) := by decide +kernel
theorem dX4_append_19 : decode cX4_append 19 = .ok (.invokestatic 19, 3) := by decide +kernel
theorem dX4_append_22 : decode cX4_append 22 = .ok (.iastore, 1) := by decide +kernel
theorem dX4_append_23 : decode cX4_append 23 = .ok (.aload_n 0, 1) := by decide +kernel
theorem dX4_append_24 : decode cX4_append 24 = .ok (.dup, 1) := by decide +kernel
theorem dX4_append_25 : decode cX4_append 25 = .ok (.getfield 9, 3) := by decide +kernel
theorem dX4_append_28 : decode cX4_append 28 = .ok (.iconst 1, 1) := by decide +kernel
theorem dX4_append_29 : decode cX4_append 29 = .ok (.iadd, 1) := by decide +kernel
theorem dX4_append_30 : decode cX4_append 30 = .ok (.putfield 9, 3) := by decide +kernel
theorem dX4_append_33 : decode cX4_append 33 = .ok (.return_, 1) := by decide +kernel
theorem dX4_valueOf_0 : decode cX4_valueOf 0 = .ok (.iload_n 0, 1) := by decide +kernel
theorem dX4_valueOf_1 : decode cX4_valueOf 1 = .ok (.bipush 48, 2) := by decide +kernel
theorem dX4_valueOf_3 : decode cX4_valueOf 3 = .ok (.if_icmp .ne 5, 3) := by decide +kernel
theorem dX4_valueOf_6 : decode cX4_valueOf 6 = .ok (.iconst 0, 1) := by decide +kernel
theorem dX4_valueOf_7 : decode cX4_valueOf 7 = .ok (.ireturn, 1) := by decide +kernel
theorem dX4_valueOf_8 : decode cX4_valueOf 8 = .ok (.iload_n 0, 1) := by decide +kernel
theorem dX4_valueOf_9 : decode cX4_valueOf 9 = .ok (.bipush 49, 2) := by decide +kernel
theorem dX4_valueOf_11 : decode cX4_valueOf 11 = .ok (.if_icmp .ne 5, 3) := by decide +kernel
theorem dX4_valueOf_14 : decode cX4_valueOf 14 = .ok (.iconst 1, 1) := by decide +kernel
theorem dX4_valueOf_15 : decode cX4_valueOf 15 = .ok (.ireturn, 1) := by decide +kernel
theorem dX4_valueOf_16 : decode cX4_valueOf 16 = .ok (.iload_n 0, 1) := by decide +kernel
theorem dX4_valueOf_17 : decode cX4_valueOf 17 = .ok (.bipush 63, 2) := by decide +kernel
theorem dX4_valueOf_19 : decode cX4_valueOf 19 = .ok (.if_icmp .ne 7, 3) := by decide +kernel
theorem dX4_valueOf_22 : decode cX4_valueOf 22 = .ok (.iconst 2, 1) := by decide +kernel
theorem dX4_valueOf_23 : decode cX4_valueOf 23 = .ok (.goto 4, 3) := by decide +kernel
theorem dX4_valueOf_26 : decode cX4_valueOf 26 = .ok (.iconst 3, 1) := by decide +kernel
theorem dX4_valueOf_27 : decode cX4_valueOf 27 = .ok (.ireturn, 1) := by decide +kernel
theorem dX4_firstFault_0 : decode cX4_firstFault 0 = .ok (.aload_n 0, 1) := by decide +kernel
theorem dX4_firstFault_1 : decode cX4_firstFault 1 = .ok (.getfield 9, 3) := by decide +kernel
theorem dX4_firstFault_4 : decode cX4_firstFault 4 = .ok (.ifCond .ne 5, 3) := by decide +kernel
theorem dX4_firstFault_7 : decode cX4_firstFault 7 = .ok (.iconst 0, 1) := by decide +kernel
theorem dX4_firstFault_8 : decode cX4_firstFault 8 = .ok (.ireturn, 1) := by decide +kernel
theorem dX4_firstFault_9 : decode cX4_firstFault 9 = .ok (.iconst 0, 1) := by decide +kernel
theorem dX4_firstFault_10 : decode cX4_firstFault 10 = .ok (.istore_n 2, 1) := by decide +kernel
theorem dX4_firstFault_11 : decode cX4_firstFault 11 = .ok (.iload_n 2, 1) := by decide +kernel
theorem dX4_firstFault_12 : decode cX4_firstFault 12 = .ok (.aload_n 0, 1) := by decide +kernel
theorem dX4_firstFault_13 : decode cX4_firstFault 13 = .ok (.getfield 9, 3) := by decide +kernel
theorem dX4_firstFault_16 : decode cX4_firstFault 16 = .ok (.if_icmp .ge 21, 3) := by decide +kernel
theorem dX4_firstFault_19 : decode cX4_firstFault 19 = .ok (.aload_n 0, 1) := by decide +kernel
theorem dX4_firstFault_20 : decode cX4_firstFault 20 = .ok (.getfield 15, 3) := by decide +kernel
theorem dX4_firstFault_23 : decode cX4_firstFault 23 = .ok (.iload_n 2, 1) := by decide +kernel
theorem dX4_firstFault_24 : decode cX4_firstFault 24 = .ok (.iaload, 1) := by decide +kernel
theorem dX4_firstFault_25 : decode cX4_firstFault 25 = .ok (.iload_n 1, 1) := by decide +kernel
theorem dX4_firstFault_26 : decode cX4_firstFault 26 = .ok (.if_icmp .le 5, 3) := by decide +kernel
theorem dX4_firstFault_29 : decode cX4_firstFault 29 = .ok (.iload_n 2, 1) := by decide +kernel
theorem dX4_firstFault_30 : decode cX4_firstFault 30 = .ok (.ireturn, 1) := by decide +kernel
theorem dX4_firstFault_31 : decode cX4_firstFault 31 = .ok (.iinc 2 1, 3) := by decide +kernel
theorem dX4_firstFault_34 : decode cX4_firstFault 34 = .ok (.goto (-23), 3) := by decide +kernel
theorem dX4_firstFault_37 : decode cX4_firstFault 37 = .ok (.iconst (-1), 1) := by decide +kernel
theorem dX4_firstFault_38 : decode cX4_firstFault 38 = .ok (.ireturn, 1) := by decide +kernel
end
section
set_option maxRecDepth 20000 in
theorem ggX5_init_X3_init : GoodIn wsX5_init wsX3_init := goodIn_r _ [20, 21, 2, 3, 22, 23, 24, 25, 26, 27, 28, 29, 30, 31, 32, 33, 34, 35, 36, 37, 38, 16, 39, 40, 41, 42, 43, 44, 45, 46, 47, 48, 49, 50, 51, 52, 53, 54, 55, 56, 57, 58, 59, 60, 61, 62, 63, 64, 65, 66, 67, 68, 69, 70, 71, 72, 73, 74, 75, 76, 77, 78, 85, 86, 87, 88, 98, 99, 100, 101, 102, 103, 104, 105, 106, 107, 108, 109, 110, 111, 112, 113] (by decide +kernel) (by decide +kernel)
set_option maxRecDepth 20000 in
theorem gX5_init_X3_init : GoodIn wsX5_init (wsX3_init) := ggX5_init_X3_init
set_option maxRecDepth 20000 in
theorem ggX5_init_X4_init : GoodIn wsX5_init wsX4_init := goodIn_r _ [81, 82, 2, 3, 83, 16, 84, 96, 97] (by decide +kernel) (by decide +kernel)
set_option maxRecDepth 20000 in
theorem gX5_init_X4_init : GoodIn wsX5_init (wsX4_init) := ggX5_init_X4_init
theorem dX5_init_0 : decode cX5_init 0 = .ok (.aload_n 0, 1) := by decide +kernel
theorem dX5_init_1 : decode cX5_init 1 = .ok (.invokespecial 3, 3) := by decide +kernel
theorem dX5_init_4 : decode cX5_init 4 = .ok (.aload_n 0, 1) := by decide +kernel
theorem dX5_init_5 : decode cX5_init 5 = .ok (.new 9, 3) := by decide +kernel
theorem dX5_init_8 : decode cX5_init 8 = .ok (.dup, 1) := by decide +kernel
theorem dX5_init_9 : decode cX5_init 9 = .ok (.invokespecial 11, 3) := by decide +kernel
theorem dX5_init_12 : decode cX5_init 12 = .ok (.putfield 12, 3) := by decide +kernel
theorem dX5_init_15 : decode cX5_init 15 = .ok (.aload_n 0, 1) := by decide +kernel
theorem dX5_init_16 : decode cX5_init 16 = .ok (.new 9, 3) := by decide +kernel
theorem dX5_init_19 : decode cX5_init 19 = .ok (.dup, 1) := by decide +kernel
theorem dX5_init_20 : decode cX5_init 20 = .ok (.invokespecial 11, 3) := by decide +kernel
theorem dX5_init_23 : decode cX5_init 23 = .ok (.putfield 16, 3) := by decide +kernel
theorem dX5_init_26 : decode cX5_init 26 = .ok (.aload_n 0, 1) := by decide +kernel
theorem dX5_init_27 : decode cX5_init 27 = .ok (.iconst 0, 1) := by decide +kernel
theorem dX5_init_28 : decode cX5_init 28 = .ok (.putfield 19, 3) := by decide +kernel
theorem dX5_init_31 : decode cX5_init 31 = .ok (.aload_n 0, 1) := by decide +kernel
theorem dX5_init_32 : decode cX5_init 32 = .ok (.iconst 4, 1) := by decide +kernel
theorem dX5_init_33 : decode cX5_init 33 = .ok (.anewarray 9, 3) := by decide +kernel
theorem dX5_init_36 : decode cX5_init 36 = .ok (.putfield 23, 3) := by decide +kernel
theorem dX5_init_39 : decode cX5_init 39 = .ok (.iconst 0, 1) := by decide +kernel
theorem dX5_init_40 : decode cX5_init 40 = .ok (.istore_n 1, 1) := by decide +kernel
theorem dX5_init_41 : decode cX5_init 41 = .ok (.iload_n 1, 1) := by decide +kernel
theorem dX5_init_42 : decode cX5_init 42 = .ok (.iconst 4, 1) := by decide +kernel
theorem dX5_init_43 : decode cX5_init 43 = .ok (.if_icmp .ge 22, 3) := by decide +kernel
theorem dX5_init_46 : decode cX5_init 46 = .ok (.aload_n 0, 1) := by decide +kernel
theorem dX5_init_47 : decode cX5_init 47 = .ok (.getfield 23, 3) := by decide +kernel
theorem dX5_init_50 : decode cX5_init 50 = .ok (.iload_n 1, 1) := by decide +kernel
theorem dX5_init_51 : decode cX5_init 51 = .ok (.new 9, 3) := by decide +kernel
theorem dX5_init_54 : decode cX5_init 54 = .ok (.dup, 1) := by decide +kernel
theorem dX5_init_55 : decode cX5_init 55 = .ok (.invokespecial 11, 3) := by decide +kernel
theorem dX5_init_58 : decode cX5_init 58 = .ok (.aastore, 1) := by decide +kernel
theorem dX5_init_59 : decode cX5_init 59 = .ok (.iinc 1 1, 3) := by decide +kernel
theorem dX5_init_62 : decode cX5_init 62 = .ok (.goto (-21), 3) := by decide +kernel
theorem dX5_init_65 : decode cX5_init 65 = .ok (.aload_n 0, 1) := by decide +kernel
theorem dX5_init_66 : decode cX5_init 66 = .ok (.iconst 0, 1) := by decide +kernel
theorem dX5_init_67 : decode cX5_init 67 = .ok (.putfield 27, 3) := by decide +kernel
theorem dX5_init_70 : decode cX5_init 70 = .ok (.aload_n 0, 1) := by decide +kernel
theorem dX5_init_71 : decode cX5_init 71 = .ok (.new 31, 3) := by decide +kernel
theorem dX5_init_74 : decode cX5_init 74 = .ok (.dup, 1) := by decide +kernel
theorem dX5_init_75 : decode cX5_init 75 = .ok (.invokespecial 33, 3) := by decide +kernel
theorem dX5_init_78 : decode cX5_init 78 = .ok (.putfield 34, 3) := by decide +kernel
theorem dX5_init_81 : decode cX5_init 81 = .ok (.aload_n 0, 1) := by decide +kernel
theorem dX5_init_82 : decode cX5_init 82 = .ok (.bipush 32, 2) := by decide +kernel
theorem dX5_init_84 : decode cX5_init 84 = .ok (.newarray .int, 2) := by decide +kernel
theorem dX5_init_86 : decode cX5_init 86 = .ok (.putfield 38, 3) := by decide +kernel
theorem dX5_init_89 : decode cX5_init 89 = .ok (.return_, 1) := by decide +kernel
set_option maxRecDepth 20000 in
theorem ggX5_setCode_X5_recordNow : GoodIn wsX5_setCode wsX5_recordNow := goodIn_r _ [10, 11, 12, 1, 13, 14, 15, 9, 16, 17, 18, 19, 20, 21, 22, 23, 24, 25, 26, 27, 28, 29, 30, 31, 32, 33, 34, 35, 36, 37, 38, 39, 40, 41, 42, 43, 44, 45, 46, 47, 48, 49, 50, 51, 52, 53, 54, 55, 56, 57, 58, 59, 60, 61, 62, 63, 64, 78, 79, 80, 81, 82, 83, 84, 85, 86, 87, 88, 89, 90, 91, 92, 93, 94, 95, 96, 97, 98, 99, 100, 101, 102, 103, 104] (by decide +kernel) (by decide +kernel)
set_option maxRecDepth 20000 in
theorem gX5_setCode_X5_recordNow : GoodIn wsX5_setCode (wsV RX5 42 RX5 yX5_recordNow wsX5_recordNow) := goodIn_app (goodIn_of _ (by decide +kernel)) ggX5_setCode_X5_recordNow
set_option maxRecDepth 20000 in
theorem ggX5_setCode_X0_choose : GoodIn wsX5_setCode wsX0_choose := goodIn_r _ [36, 31, 37, 32, 89, 90, 91] (by decide +kernel) (by decide +kernel)
set_option maxRecDepth 20000 in
theorem gX5_setCode_X0_choose : GoodIn wsX5_setCode (wsV RX5 49 RX0 yX0_choose wsX0_choose) := goodIn_app (goodIn_of _ (by decide +kernel)) ggX5_setCode_X0_choose
set_option maxRecDepth 20000 in
theorem ggX5_setCode_X2_clear : GoodIn wsX5_setCode wsX2_clear := goodIn_r _ [69, 43, 44, 92, 93, 94, 95, 96] (by decide +kernel) (by decide +kernel)
set_option maxRecDepth 20000 in
theorem gX5_setCode_X2_clear : GoodIn wsX5_setCode (wsV RX5 59 RX2 yX2_clear wsX2_clear) := goodIn_app (goodIn_of _ (by decide +kernel)) ggX5_setCode_X2_clear
set_option maxRecDepth 20000 in
theorem ggX5_setCode_X1_clear : GoodIn wsX5_setCode wsX1_clear := goodIn_r _ [73, 57, 58, 59, 60, 63, 74, 75, 76, 77, 97, 98, 99, 100, 101, 102, 103, 104] (by decide +kernel) (by decide +kernel)
set_option maxRecDepth 20000 in
theorem gX5_setCode_X1_clear : GoodIn wsX5_setCode (wsV RX5 68 RX1 yX1_clear wsX1_clear) := goodIn_app (goodIn_of _ (by decide +kernel)) ggX5_setCode_X1_clear
theorem dX5_setCode_0 : decode cX5_setCode 0 = .ok (.iload_n 1, 1) := by decide +kernel
theorem dX5_setCode_1 : decode cX5_setCode 1 = .ok (.iconst 1, 1) := by decide +kernel
theorem dX5_setCode_2 : decode cX5_setCode 2 = .ok (.if_icmp .lt 8, 3) := by decide +kernel
theorem dX5_setCode_5 : decode cX5_setCode 5 = .ok (.iload_n 1, 1) := by decide +kernel
theorem dX5_setCode_6 : decode cX5_setCode 6 = .ok (.iconst 5, 1) := by decide +kernel
theorem dX5_setCode_7 : decode cX5_setCode 7 = .ok (.if_icmp .le 6, 3) := by decide +kernel
theorem dX5_setCode_10 : decode cX5_setCode 10 = .ok (.bipush (-2), 2) := by decide +kernel
theorem dX5_setCode_12 : decode cX5_setCode 12 = .ok (.ireturn, 1) := by decide +kernel
theorem dX5_setCode_13 : decode cX5_setCode 13 = .ok (.iconst 2, 1) := by decide +kernel
theorem dX5_setCode_14 : decode cX5_setCode 14 = .ok (.iload_n 1, 1) := by decide +kernel
theorem dX5_setCode_15 : decode cX5_setCode 15 = .ok (.ishl, 1) := by decide +kernel
theorem dX5_setCode_16 : decode cX5_setCode 16 = .ok (.iconst 1, 1) := by decide +kernel
theorem dX5_setCode_17 : decode cX5_setCode 17 = .ok (.isub, 1) := by decide +kernel
theorem dX5_setCode_18 : decode cX5_setCode 18 = .ok (.istore 5, 2) := by decide +kernel
theorem dX5_setCode_20 : decode cX5_setCode 20 = .ok (.iload_n 2, 1) := by decide +kernel
theorem dX5_setCode_21 : decode cX5_setCode 21 = .ok (.iconst 1, 1) := by decide +kernel
theorem dX5_setCode_22 : decode cX5_setCode 22 = .ok (.if_icmp .lt 20, 3) := by decide +kernel
theorem dX5_setCode_25 : decode cX5_setCode 25 = .ok (.iload_n 2, 1) := by decide +kernel
theorem dX5_setCode_26 : decode cX5_setCode 26 = .ok (.iload 5, 2) := by decide +kernel
theorem dX5_setCode_28 : decode cX5_setCode 28 = .ok (.if_icmp .gt 14, 3) := by decide +kernel
theorem dX5_setCode_31 : decode cX5_setCode 31 = .ok (.iload_n 3, 1) := by decide +kernel
theorem dX5_setCode_32 : decode cX5_setCode 32 = .ok (.iconst 1, 1) := by decide +kernel
theorem dX5_setCode_33 : decode cX5_setCode 33 = .ok (.if_icmp .lt 9, 3) := by decide +kernel
theorem dX5_setCode_36 : decode cX5_setCode 36 = .ok (.iload_n 3, 1) := by decide +kernel
theorem dX5_setCode_37 : decode cX5_setCode 37 = .ok (.iload 5, 2) := by decide +kernel
theorem dX5_setCode_39 : decode cX5_setCode 39 = .ok (.if_icmp .le 6, 3) := by decide +kernel
theorem dX5_setCode_42 : decode cX5_setCode 42 = .ok (.bipush (-2), 2) := by decide +kernel
theorem dX5_setCode_44 : decode cX5_setCode 44 = .ok (.ireturn, 1) := by decide +kernel
theorem dX5_setCode_45 : decode cX5_setCode 45 = .ok (.iload 4, 2) := by decide +kernel
theorem dX5_setCode_47 : decode cX5_setCode 47 = .ok (.ifCond .lt 10, 3) := by decide +kernel
theorem dX5_setCode_50 : decode cX5_setCode 50 = .ok (.iload 4, 2) := by decide +kernel
theorem dX5_setCode_52 : decode cX5_setCode 52 = .ok (.iload 5, 2) := by decide +kernel
theorem dX5_setCode_54 : decode cX5_setCode 54 = .ok (.if_icmp .le 6, 3) := by decide +kernel
theorem dX5_setCode_57 : decode cX5_setCode 57 = .ok (.bipush (-2), 2) := by decide +kernel
theorem dX5_setCode_59 : decode cX5_setCode 59 = .ok (.ireturn, 1) := by decide +kernel
theorem dX5_setCode_60 : decode cX5_setCode 60 = .ok (.aload_n 0, 1) := by decide +kernel
theorem dX5_setCode_61 : decode cX5_setCode 61 = .ok (.invokevirtual 42, 3) := by decide +kernel
theorem dX5_setCode_64 : decode cX5_setCode 64 = .ok (.aload_n 0, 1) := by decide +kernel
theorem dX5_setCode_65 : decode cX5_setCode 65 = .ok (.getfield 12, 3) := by decide +kernel
theorem dX5_setCode_68 : decode cX5_setCode 68 = .ok (.getfield 45, 3) := by decide +kernel
theorem dX5_setCode_71 : decode cX5_setCode 71 = .ok (.iload_n 1, 1) := by decide +kernel
theorem dX5_setCode_72 : decode cX5_setCode 72 = .ok (.iload_n 2, 1) := by decide +kernel
theorem dX5_setCode_73 : decode cX5_setCode 73 = .ok (.iload_n 3, 1) := by decide +kernel
theorem dX5_setCode_74 : decode cX5_setCode 74 = .ok (.iload 4, 2) := by decide +kernel
theorem dX5_setCode_76 : decode cX5_setCode 76 = .ok (.invokevirtual 49, 3) := by decide +kernel
theorem dX5_setCode_79 : decode cX5_setCode 79 = .ok (.aload_n 0, 1) := by decide +kernel
theorem dX5_setCode_80 : decode cX5_setCode 80 = .ok (.getfield 12, 3) := by decide +kernel
theorem dX5_setCode_83 : decode cX5_setCode 83 = .ok (.getfield 55, 3) := by decide +kernel
theorem dX5_setCode_86 : decode cX5_setCode 86 = .ok (.invokevirtual 59, 3) := by decide +kernel
theorem dX5_setCode_89 : decode cX5_setCode 89 = .ok (.aload_n 0, 1) := by decide +kernel
theorem dX5_setCode_90 : decode cX5_setCode 90 = .ok (.getfield 12, 3) := by decide +kernel
theorem dX5_setCode_93 : decode cX5_setCode 93 = .ok (.getfield 64, 3) := by decide +kernel
theorem dX5_setCode_96 : decode cX5_setCode 96 = .ok (.invokevirtual 68, 3) := by decide +kernel
theorem dX5_setCode_99 : decode cX5_setCode 99 = .ok (.aload_n 0, 1) := by decide +kernel
theorem dX5_setCode_100 : decode cX5_setCode 100 = .ok (.getfield 12, 3) := by decide +kernel
theorem dX5_setCode_103 : decode cX5_setCode 103 = .ok (.getfield 45, 3) := by decide +kernel
theorem dX5_setCode_106 : decode cX5_setCode 106 = .ok (.getfield 71, 3) := by decide +kernel
theorem dX5_setCode_109 : decode cX5_setCode 109 = .ok (.ireturn, 1) := by decide +kernel
set_option maxRecDepth 20000 in
theorem ggX5_setDepth_X5_recordNow : GoodIn wsX5_setDepth wsX5_recordNow := goodIn_r _ [9, 10, 11, 1, 12, 13, 14, 8, 15, 16, 17, 18, 19, 20, 21, 22, 23, 24, 25, 26, 27, 28, 29, 30, 31, 32, 33, 34, 35, 36, 37, 38, 39, 40, 41, 42, 43, 44, 45, 46, 47, 48, 49, 50, 51, 52, 53, 54, 55, 56, 57, 58, 59, 60, 61, 62, 63, 64, 65, 66, 67, 68, 69, 70, 71, 72, 73, 74, 83, 84, 85, 86, 87, 88, 89, 90, 75, 76, 77, 78, 79, 80, 81, 82] (by decide +kernel) (by decide +kernel)
set_option maxRecDepth 20000 in
theorem gX5_setDepth_X5_recordNow : GoodIn wsX5_setDepth (wsV RX5 42 RX5 yX5_recordNow wsX5_recordNow) := goodIn_app (goodIn_of _ (by decide +kernel)) ggX5_setDepth_X5_recordNow
theorem dX5_setDepth_0 : decode cX5_setDepth 0 = .ok (.iload_n 1, 1) := by decide +kernel
theorem dX5_setDepth_1 : decode cX5_setDepth 1 = .ok (.iconst 2, 1) := by decide +kernel
theorem dX5_setDepth_2 : decode cX5_setDepth 2 = .ok (.if_icmp .lt 9, 3) := by decide +kernel
theorem dX5_setDepth_5 : decode cX5_setDepth 5 = .ok (.iload_n 1, 1) := by decide +kernel
theorem dX5_setDepth_6 : decode cX5_setDepth 6 = .ok (.bipush 40, 2) := by decide +kernel
theorem dX5_setDepth_8 : decode cX5_setDepth 8 = .ok (.if_icmp .le 6, 3) := by decide +kernel
theorem dX5_setDepth_11 : decode cX5_setDepth 11 = .ok (.bipush (-2), 2) := by decide +kernel
theorem dX5_setDepth_13 : decode cX5_setDepth 13 = .ok (.ireturn, 1) := by decide +kernel
theorem dX5_setDepth_14 : decode cX5_setDepth 14 = .ok (.aload_n 0, 1) := by decide +kernel
theorem dX5_setDepth_15 : decode cX5_setDepth 15 = .ok (.getfield 12, 3) := by decide +kernel
theorem dX5_setDepth_18 : decode cX5_setDepth 18 = .ok (.getfield 64, 3) := by decide +kernel
theorem dX5_setDepth_21 : decode cX5_setDepth 21 = .ok (.getfield 74, 3) := by decide +kernel
theorem dX5_setDepth_24 : decode cX5_setDepth 24 = .ok (.ifCond .le 6, 3) := by decide +kernel
theorem dX5_setDepth_27 : decode cX5_setDepth 27 = .ok (.bipush (-4), 2) := by decide +kernel
theorem dX5_setDepth_29 : decode cX5_setDepth 29 = .ok (.ireturn, 1) := by decide +kernel
theorem dX5_setDepth_30 : decode cX5_setDepth 30 = .ok (.aload_n 0, 1) := by decide +kernel
theorem dX5_setDepth_31 : decode cX5_setDepth 31 = .ok (.getfield 12, 3) := by decide +kernel
theorem dX5_setDepth_34 : decode cX5_setDepth 34 = .ok (.getfield 77, 3) := by decide +kernel
theorem dX5_setDepth_37 : decode cX5_setDepth 37 = .ok (.iload_n 1, 1) := by decide +kernel
theorem dX5_setDepth_38 : decode cX5_setDepth 38 = .ok (.if_icmp .ne 6, 3) := by decide +kernel
theorem dX5_setDepth_41 : decode cX5_setDepth 41 = .ok (.bipush (-5), 2) := by decide +kernel
theorem dX5_setDepth_43 : decode cX5_setDepth 43 = .ok (.ireturn, 1) := by decide +kernel
theorem dX5_setDepth_44 : decode cX5_setDepth 44 = .ok (.aload_n 0, 1) := by decide +kernel
theorem dX5_setDepth_45 : decode cX5_setDepth 45 = .ok (.invokevirtual 42, 3) := by decide +kernel
theorem dX5_setDepth_48 : decode cX5_setDepth 48 = .ok (.aload_n 0, 1) := by decide +kernel
theorem dX5_setDepth_49 : decode cX5_setDepth 49 = .ok (.getfield 12, 3) := by decide +kernel
theorem dX5_setDepth_52 : decode cX5_setDepth 52 = .ok (.getfield 77, 3) := by decide +kernel
theorem dX5_setDepth_55 : decode cX5_setDepth 55 = .ok (.istore_n 2, 1) := by decide +kernel
theorem dX5_setDepth_56 : decode cX5_setDepth 56 = .ok (.aload_n 0, 1) := by decide +kernel
theorem dX5_setDepth_57 : decode cX5_setDepth 57 = .ok (.getfield 12, 3) := by decide +kernel
theorem dX5_setDepth_60 : decode cX5_setDepth 60 = .ok (.iload_n 1, 1) := by decide +kernel
theorem dX5_setDepth_61 : decode cX5_setDepth 61 = .ok (.putfield 77, 3) := by decide +kernel
theorem dX5_setDepth_64 : decode cX5_setDepth 64 = .ok (.iload_n 2, 1) := by decide +kernel
theorem dX5_setDepth_65 : decode cX5_setDepth 65 = .ok (.ireturn, 1) := by decide +kernel
set_option maxRecDepth 20000 in
theorem ggX5_send_X4_firstFault : GoodIn wsX5_send wsX4_firstFault := goodIn_r _ [12, 13, 14, 115, 116] (by decide +kernel) (by decide +kernel)
set_option maxRecDepth 20000 in
theorem gX5_send_X4_firstFault : GoodIn wsX5_send (wsV RX5 80 RX4 yX4_firstFault wsX4_firstFault) := goodIn_app (goodIn_of _ (by decide +kernel)) ggX5_send_X4_firstFault
set_option maxRecDepth 20000 in
theorem ggX5_send_X5_recordNow : GoodIn wsX5_send wsX5_recordNow := goodIn_r _ [19, 20, 21, 2, 22, 23, 24, 18, 25, 26, 27, 28, 29, 30, 31, 32, 33, 34, 35, 36, 37, 38, 39, 40, 41, 42, 43, 44, 45, 46, 47, 48, 49, 50, 51, 52, 53, 54, 55, 56, 57, 58, 59, 60, 61, 62, 63, 64, 65, 66, 67, 68, 69, 70, 71, 72, 73, 99, 100, 101, 102, 103, 104, 105, 106, 107, 108, 109, 117, 118, 119, 110, 111, 112, 113, 114, 120, 121, 122, 123, 124, 125, 126, 127] (by decide +kernel) (by decide +kernel)
set_option maxRecDepth 20000 in
theorem gX5_send_X5_recordNow : GoodIn wsX5_send (wsV RX5 42 RX5 yX5_recordNow wsX5_recordNow) := goodIn_app (goodIn_of _ (by decide +kernel)) ggX5_send_X5_recordNow
set_option maxRecDepth 20000 in
theorem ggX5_send_X2_push : GoodIn wsX5_send wsX2_push := goodIn_r _ [77, 53, 52, 78, 59, 60, 54, 79, 80, 81, 38, 82, 40, 83, 84, 85, 86, 41, 87, 88, 89, 90, 91, 92, 93, 94, 95, 96, 97, 98, 110, 111, 112, 113, 114, 117, 118, 119] (by decide +kernel) (by decide +kernel)
set_option maxRecDepth 20000 in
theorem gX5_send_X2_push : GoodIn wsX5_send (wsV RX5 93 RX2 yX2_push wsX2_push) := goodIn_app (goodIn_of _ (by decide +kernel)) ggX5_send_X2_push
theorem dX5_send_0 : decode cX5_send 0 = .ok (.aload_n 0, 1) := by decide +kernel
theorem dX5_send_1 : decode cX5_send 1 = .ok (.getfield 34, 3) := by decide +kernel
theorem dX5_send_4 : decode cX5_send 4 = .ok (.iconst 1, 1) := by decide +kernel
theorem dX5_send_5 : decode cX5_send 5 = .ok (.invokevirtual 80, 3) := by decide +kernel
theorem dX5_send_8 : decode cX5_send 8 = .ok (.istore_n 1, 1) := by decide +kernel
theorem dX5_send_9 : decode cX5_send 9 = .ok (.iload_n 1, 1) := by decide +kernel
theorem dX5_send_10 : decode cX5_send 10 = .ok (.iconst (-1), 1) := by decide +kernel
theorem dX5_send_11 : decode cX5_send 11 = .ok (.if_icmp .eq 8, 3) := by decide +kernel
theorem dX5_send_14 : decode cX5_send 14 = .ok (.bipush (-100), 2) := by decide +kernel
theorem dX5_send_16 : decode cX5_send 16 = .ok (.iload_n 1, 1) := by decide +kernel
theorem dX5_send_17 : decode cX5_send 17 = .ok (.isub, 1) := by decide +kernel
theorem dX5_send_18 : decode cX5_send 18 = .ok (.ireturn, 1) := by decide +kernel
theorem dX5_send_19 : decode cX5_send 19 = .ok (.aload_n 0, 1) := by decide +kernel
theorem dX5_send_20 : decode cX5_send 20 = .ok (.getfield 12, 3) := by decide +kernel
theorem dX5_send_23 : decode cX5_send 23 = .ok (.getfield 55, 3) := by decide +kernel
theorem dX5_send_26 : decode cX5_send 26 = .ok (.getfield 84, 3) := by decide +kernel
theorem dX5_send_29 : decode cX5_send 29 = .ok (.aload_n 0, 1) := by decide +kernel
theorem dX5_send_30 : decode cX5_send 30 = .ok (.getfield 34, 3) := by decide +kernel
theorem dX5_send_33 : decode cX5_send 33 = .ok (.getfield 87, 3) := by decide +kernel
theorem dX5_send_36 : decode cX5_send 36 = .ok (.iadd, 1) := by decide +kernel
theorem dX5_send_37 : decode cX5_send 37 = .ok (.bipush 80, 2) := by decide +kernel
theorem dX5_send_39 : decode cX5_send 39 = .ok (.if_icmp .le 6, 3) := by decide +kernel
theorem dX5_send_42 : decode cX5_send 42 = .ok (.bipush (-3), 2) := by decide +kernel
theorem dX5_send_44 : decode cX5_send 44 = .ok (.ireturn, 1) := by decide +kernel
theorem dX5_send_45 : decode cX5_send 45 = .ok (.aload_n 0, 1) := by decide +kernel
theorem dX5_send_46 : decode cX5_send 46 = .ok (.invokevirtual 42, 3) := by decide +kernel
theorem dX5_send_49 : decode cX5_send 49 = .ok (.iconst 0, 1) := by decide +kernel
theorem dX5_send_50 : decode cX5_send 50 = .ok (.istore_n 2, 1) := by decide +kernel
theorem dX5_send_51 : decode cX5_send 51 = .ok (.iload_n 2, 1) := by decide +kernel
theorem dX5_send_52 : decode cX5_send 52 = .ok (.aload_n 0, 1) := by decide +kernel
theorem dX5_send_53 : decode cX5_send 53 = .ok (.getfield 34, 3) := by decide +kernel
theorem dX5_send_56 : decode cX5_send 56 = .ok (.getfield 87, 3) := by decide +kernel
theorem dX5_send_59 : decode cX5_send 59 = .ok (.if_icmp .ge 35, 3) := by decide +kernel
theorem dX5_send_62 : decode cX5_send 62 = .ok (.aload_n 0, 1) := by decide +kernel
theorem dX5_send_63 : decode cX5_send 63 = .ok (.getfield 12, 3) := by decide +kernel
theorem dX5_send_66 : decode cX5_send 66 = .ok (.getfield 55, 3) := by decide +kernel
theorem dX5_send_69 : decode cX5_send 69 = .ok (.aload_n 0, 1) := by decide +kernel
theorem dX5_send_70 : decode cX5_send 70 = .ok (.getfield 12, 3) := by decide +kernel
theorem dX5_send_73 : decode cX5_send 73 = .ok (.getfield 45, 3) := by decide +kernel
theorem dX5_send_76 : decode cX5_send 76 = .ok (.aload_n 0, 1) := by decide +kernel
theorem dX5_send_77 : decode cX5_send 77 = .ok (.getfield 34, 3) := by decide +kernel
theorem dX5_send_80 : decode cX5_send 80 = .ok (.getfield 90, 3) := by decide +kernel
theorem dX5_send_83 : decode cX5_send 83 = .ok (.iload_n 2, 1) := by decide +kernel
theorem dX5_send_84 : decode cX5_send 84 = .ok (.iaload, 1) := by decide +kernel
theorem dX5_send_85 : decode cX5_send 85 = .ok (.invokevirtual 93, 3) := by decide +kernel
theorem dX5_send_88 : decode cX5_send 88 = .ok (.iinc 2 1, 3) := by decide +kernel
theorem dX5_send_91 : decode cX5_send 91 = .ok (.goto (-40), 3) := by decide +kernel
theorem dX5_send_94 : decode cX5_send 94 = .ok (.aload_n 0, 1) := by decide +kernel
theorem dX5_send_95 : decode cX5_send 95 = .ok (.getfield 12, 3) := by decide +kernel
theorem dX5_send_98 : decode cX5_send 98 = .ok (.getfield 55, 3) := by decide +kernel
theorem dX5_send_101 : decode cX5_send 101 = .ok (.getfield 84, 3) := by decide +kernel
theorem dX5_send_104 : decode cX5_send 104 = .ok (.ireturn, 1) := by decide +kernel
set_option maxRecDepth 20000 in
theorem ggX5_sendTail_X5_recordNow : GoodIn wsX5_sendTail wsX5_recordNow := goodIn_r _ [10, 11, 12, 1, 13, 14, 15, 9, 16, 17, 18, 19, 20, 21, 22, 23, 24, 25, 26, 27, 28, 29, 30, 31, 32, 33, 34, 35, 36, 37, 38, 39, 40, 41, 42, 43, 44, 45, 46, 47, 48, 49, 50, 51, 52, 53, 54, 55, 56, 57, 58, 59, 60, 61, 62, 63, 64, 90, 91, 92, 93, 94, 95, 96, 97, 98, 99, 100, 101, 102, 103, 104, 105, 106, 107, 108, 109, 110, 111, 112, 113, 114, 115, 116] (by decide +kernel) (by decide +kernel)
set_option maxRecDepth 20000 in
theorem gX5_sendTail_X5_recordNow : GoodIn wsX5_sendTail (wsV RX5 42 RX5 yX5_recordNow wsX5_recordNow) := goodIn_app (goodIn_of _ (by decide +kernel)) ggX5_sendTail_X5_recordNow
set_option maxRecDepth 20000 in
theorem ggX5_sendTail_X2_push : GoodIn wsX5_sendTail wsX2_push := goodIn_r _ [68, 44, 43, 69, 50, 51, 45, 70, 71, 72, 29, 73, 31, 74, 75, 76, 77, 32, 78, 79, 80, 81, 82, 83, 84, 85, 86, 87, 88, 89, 104, 105, 106, 107, 108, 101, 102, 103] (by decide +kernel) (by decide +kernel)
set_option maxRecDepth 20000 in
theorem gX5_sendTail_X2_push : GoodIn wsX5_sendTail (wsV RX5 93 RX2 yX2_push wsX2_push) := goodIn_app (goodIn_of _ (by decide +kernel)) ggX5_sendTail_X2_push
theorem dX5_sendTail_0 : decode cX5_sendTail 0 = .ok (.aload_n 0, 1) := by decide +kernel
theorem dX5_sendTail_1 : decode cX5_sendTail 1 = .ok (.getfield 12, 3) := by decide +kernel
theorem dX5_sendTail_4 : decode cX5_sendTail 4 = .ok (.getfield 45, 3) := by decide +kernel
theorem dX5_sendTail_7 : decode cX5_sendTail 7 = .ok (.getfield 97, 3) := by decide +kernel
theorem dX5_sendTail_10 : decode cX5_sendTail 10 = .ok (.istore_n 1, 1) := by decide +kernel
theorem dX5_sendTail_11 : decode cX5_sendTail 11 = .ok (.aload_n 0, 1) := by decide +kernel
theorem dX5_sendTail_12 : decode cX5_sendTail 12 = .ok (.getfield 12, 3) := by decide +kernel
theorem dX5_sendTail_15 : decode cX5_sendTail 15 = .ok (.getfield 55, 3) := by decide +kernel
theorem dX5_sendTail_18 : decode cX5_sendTail 18 = .ok (.getfield 84, 3) := by decide +kernel
theorem dX5_sendTail_21 : decode cX5_sendTail 21 = .ok (.iload_n 1, 1) := by decide +kernel
theorem dX5_sendTail_22 : decode cX5_sendTail 22 = .ok (.iadd, 1) := by decide +kernel
theorem dX5_sendTail_23 : decode cX5_sendTail 23 = .ok (.bipush 80, 2) := by decide +kernel
theorem dX5_sendTail_25 : decode cX5_sendTail 25 = .ok (.if_icmp .le 6, 3) := by decide +kernel
theorem dX5_sendTail_28 : decode cX5_sendTail 28 = .ok (.bipush (-3), 2) := by decide +kernel
theorem dX5_sendTail_30 : decode cX5_sendTail 30 = .ok (.ireturn, 1) := by decide +kernel
theorem dX5_sendTail_31 : decode cX5_sendTail 31 = .ok (.aload_n 0, 1) := by decide +kernel
theorem dX5_sendTail_32 : decode cX5_sendTail 32 = .ok (.invokevirtual 42, 3) := by decide +kernel
theorem dX5_sendTail_35 : decode cX5_sendTail 35 = .ok (.iconst 0, 1) := by decide +kernel
theorem dX5_sendTail_36 : decode cX5_sendTail 36 = .ok (.istore_n 2, 1) := by decide +kernel
theorem dX5_sendTail_37 : decode cX5_sendTail 37 = .ok (.iload_n 2, 1) := by decide +kernel
theorem dX5_sendTail_38 : decode cX5_sendTail 38 = .ok (.iload_n 1, 1) := by decide +kernel
theorem dX5_sendTail_39 : decode cX5_sendTail 39 = .ok (.if_icmp .ge 27, 3) := by decide +kernel
theorem dX5_sendTail_42 : decode cX5_sendTail 42 = .ok (.aload_n 0, 1) := by decide +kernel
theorem dX5_sendTail_43 : decode cX5_sendTail 43 = .ok (.getfield 12, 3) := by decide +kernel
theorem dX5_sendTail_46 : decode cX5_sendTail 46 = .ok (.getfield 55, 3) := by decide +kernel
theorem dX5_sendTail_49 : decode cX5_sendTail 49 = .ok (.aload_n 0, 1) := by decide +kernel
theorem dX5_sendTail_50 : decode cX5_sendTail 50 = .ok (.getfield 12, 3) := by decide +kernel
theorem dX5_sendTail_53 : decode cX5_sendTail 53 = .ok (.getfield 45, 3) := by decide +kernel
theorem dX5_sendTail_56 : decode cX5_sendTail 56 = .ok (.iconst 0, 1) := by decide +kernel
theorem dX5_sendTail_57 : decode cX5_sendTail 57 = .ok (.invokevirtual 93, 3) := by decide +kernel
theorem dX5_sendTail_60 : decode cX5_sendTail 60 = .ok (.iinc 2 1, 3) := by decide +kernel
theorem dX5_sendTail_63 : decode cX5_sendTail 63 = .ok (.goto (-26), 3) := by decide +kernel
theorem dX5_sendTail_66 : decode cX5_sendTail 66 = .ok (.aload_n 0, 1) := by decide +kernel
theorem dX5_sendTail_67 : decode cX5_sendTail 67 = .ok (.getfield 12, 3) := by decide +kernel
theorem dX5_sendTail_70 : decode cX5_sendTail 70 = .ok (.getfield 55, 3) := by decide +kernel
theorem dX5_sendTail_73 : decode cX5_sendTail 73 = .ok (.getfield 84, 3) := by decide +kernel
theorem dX5_sendTail_76 : decode cX5_sendTail 76 = .ok (.ireturn, 1) := by decide +kernel
set_option maxRecDepth 20000 in
theorem ggX5_flip_X5_isOnLine : GoodIn wsX5_flip wsX5_isOnLine := goodIn_r _ [8, 9, 10, 11, 7, 12, 1, 2, 13, 14, 15, 80, 81, 82, 83, 84, 85, 86, 87, 88, 89, 90, 91, 92, 93, 94, 95, 96, 97, 98] (by decide +kernel) (by decide +kernel)
set_option maxRecDepth 20000 in
theorem gX5_flip_X5_isOnLine : GoodIn wsX5_flip (wsV RX5 100 RX5 yX5_isOnLine wsX5_isOnLine) := goodIn_app (goodIn_of _ (by decide +kernel)) ggX5_flip_X5_isOnLine
set_option maxRecDepth 20000 in
theorem ggX5_flip_X5_isTaken : GoodIn wsX5_flip wsX5_isTaken := goodIn_r _ [19, 1, 20, 21, 14, 15, 80, 81, 82, 83, 84, 85, 86, 87, 88, 89, 90, 99, 100, 101, 102, 103, 104, 105, 106, 96, 97, 98] (by decide +kernel) (by decide +kernel)
set_option maxRecDepth 20000 in
theorem gX5_flip_X5_isTaken : GoodIn wsX5_flip (wsV RX5 107 RX5 yX5_isTaken wsX5_isTaken) := goodIn_app (goodIn_of _ (by decide +kernel)) ggX5_flip_X5_isTaken
set_option maxRecDepth 20000 in
theorem ggX5_flip_X5_recordNow : GoodIn wsX5_flip wsX5_recordNow := goodIn_r _ [25, 26, 27, 1, 28, 29, 30, 7, 31, 32, 33, 34, 35, 36, 37, 38, 39, 40, 41, 42, 43, 44, 45, 46, 47, 48, 49, 50, 51, 52, 53, 54, 55, 56, 57, 58, 59, 60, 61, 62, 63, 64, 65, 66, 67, 68, 69, 70, 71, 72, 73, 74, 75, 76, 77, 78, 79, 80, 81, 82, 83, 84, 85, 86, 87, 88, 89, 90, 96, 97, 98, 91, 92, 93, 94, 95, 99, 100, 101, 102, 103, 104, 105, 106] (by decide +kernel) (by decide +kernel)
set_option maxRecDepth 20000 in
theorem gX5_flip_X5_recordNow : GoodIn wsX5_flip (wsV RX5 42 RX5 yX5_recordNow wsX5_recordNow) := goodIn_app (goodIn_of _ (by decide +kernel)) ggX5_flip_X5_recordNow
theorem dX5_flip_0 : decode cX5_flip 0 = .ok (.aload_n 0, 1) := by decide +kernel
theorem dX5_flip_1 : decode cX5_flip 1 = .ok (.iload_n 1, 1) := by decide +kernel
theorem dX5_flip_2 : decode cX5_flip 2 = .ok (.invokevirtual 100, 3) := by decide +kernel
theorem dX5_flip_5 : decode cX5_flip 5 = .ok (.ifCond .ne 5, 3) := by decide +kernel
theorem dX5_flip_8 : decode cX5_flip 8 = .ok (.iconst (-1), 1) := by decide +kernel
theorem dX5_flip_9 : decode cX5_flip 9 = .ok (.ireturn, 1) := by decide +kernel
theorem dX5_flip_10 : decode cX5_flip 10 = .ok (.aload_n 0, 1) := by decide +kernel
theorem dX5_flip_11 : decode cX5_flip 11 = .ok (.getfield 12, 3) := by decide +kernel
theorem dX5_flip_14 : decode cX5_flip 14 = .ok (.getfield 55, 3) := by decide +kernel
theorem dX5_flip_17 : decode cX5_flip 17 = .ok (.getfield 104, 3) := by decide +kernel
theorem dX5_flip_20 : decode cX5_flip 20 = .ok (.iload_n 1, 1) := by decide +kernel
theorem dX5_flip_21 : decode cX5_flip 21 = .ok (.iaload, 1) := by decide +kernel
theorem dX5_flip_22 : decode cX5_flip 22 = .ok (.iconst 2, 1) := by decide +kernel
theorem dX5_flip_23 : decode cX5_flip 23 = .ok (.if_icmp .eq 11, 3) := by decide +kernel
theorem dX5_flip_26 : decode cX5_flip 26 = .ok (.aload_n 0, 1) := by decide +kernel
theorem dX5_flip_27 : decode cX5_flip 27 = .ok (.iload_n 1, 1) := by decide +kernel
theorem dX5_flip_28 : decode cX5_flip 28 = .ok (.invokevirtual 107, 3) := by decide +kernel
theorem dX5_flip_31 : decode cX5_flip 31 = .ok (.ifCond .eq 6, 3) := by decide +kernel
theorem dX5_flip_34 : decode cX5_flip 34 = .ok (.bipush (-4), 2) := by decide +kernel
theorem dX5_flip_36 : decode cX5_flip 36 = .ok (.ireturn, 1) := by decide +kernel
theorem dX5_flip_37 : decode cX5_flip 37 = .ok (.aload_n 0, 1) := by decide +kernel
theorem dX5_flip_38 : decode cX5_flip 38 = .ok (.invokevirtual 42, 3) := by decide +kernel
theorem dX5_flip_41 : decode cX5_flip 41 = .ok (.iconst 1, 1) := by decide +kernel
theorem dX5_flip_42 : decode cX5_flip 42 = .ok (.aload_n 0, 1) := by decide +kernel
theorem dX5_flip_43 : decode cX5_flip 43 = .ok (.getfield 12, 3) := by decide +kernel
theorem dX5_flip_46 : decode cX5_flip 46 = .ok (.getfield 55, 3) := by decide +kernel
theorem dX5_flip_49 : decode cX5_flip 49 = .ok (.getfield 104, 3) := by decide +kernel
theorem dX5_flip_52 : decode cX5_flip 52 = .ok (.iload_n 1, 1) := by decide +kernel
theorem dX5_flip_53 : decode cX5_flip 53 = .ok (.iaload, 1) := by decide +kernel
theorem dX5_flip_54 : decode cX5_flip 54 = .ok (.isub, 1) := by decide +kernel
theorem dX5_flip_55 : decode cX5_flip 55 = .ok (.istore_n 2, 1) := by decide +kernel
theorem dX5_flip_56 : decode cX5_flip 56 = .ok (.aload_n 0, 1) := by decide +kernel
theorem dX5_flip_57 : decode cX5_flip 57 = .ok (.getfield 12, 3) := by decide +kernel
theorem dX5_flip_60 : decode cX5_flip 60 = .ok (.getfield 55, 3) := by decide +kernel
theorem dX5_flip_63 : decode cX5_flip 63 = .ok (.getfield 104, 3) := by decide +kernel
theorem dX5_flip_66 : decode cX5_flip 66 = .ok (.iload_n 1, 1) := by decide +kernel
theorem dX5_flip_67 : decode cX5_flip 67 = .ok (.iload_n 2, 1) := by decide +kernel
theorem dX5_flip_68 : decode cX5_flip 68 = .ok (.iastore, 1) := by decide +kernel
theorem dX5_flip_69 : decode cX5_flip 69 = .ok (.iload_n 2, 1) := by decide +kernel
theorem dX5_flip_70 : decode cX5_flip 70 = .ok (.ireturn, 1) := by decide +kernel
set_option maxRecDepth 20000 in
theorem ggX5_erase_X5_isOnLine : GoodIn wsX5_erase wsX5_isOnLine := goodIn_r _ [8, 9, 10, 11, 7, 12, 1, 2, 13, 14, 15, 80, 81, 82, 83, 84, 85, 86, 87, 88, 89, 90, 91, 92, 93, 94, 95, 96, 97, 98] (by decide +kernel) (by decide +kernel)
set_option maxRecDepth 20000 in
theorem gX5_erase_X5_isOnLine : GoodIn wsX5_erase (wsV RX5 100 RX5 yX5_isOnLine wsX5_isOnLine) := goodIn_app (goodIn_of _ (by decide +kernel)) ggX5_erase_X5_isOnLine
set_option maxRecDepth 20000 in
theorem ggX5_erase_X5_isTaken : GoodIn wsX5_erase wsX5_isTaken := goodIn_r _ [19, 1, 20, 21, 14, 15, 80, 81, 82, 83, 84, 85, 86, 87, 88, 89, 90, 99, 100, 101, 102, 103, 104, 105, 106, 96, 97, 98] (by decide +kernel) (by decide +kernel)
set_option maxRecDepth 20000 in
theorem gX5_erase_X5_isTaken : GoodIn wsX5_erase (wsV RX5 107 RX5 yX5_isTaken wsX5_isTaken) := goodIn_app (goodIn_of _ (by decide +kernel)) ggX5_erase_X5_isTaken
set_option maxRecDepth 20000 in
theorem ggX5_erase_X5_recordNow : GoodIn wsX5_erase wsX5_recordNow := goodIn_r _ [25, 26, 27, 1, 28, 29, 30, 7, 31, 32, 33, 34, 35, 36, 37, 38, 39, 40, 41, 42, 43, 44, 45, 46, 47, 48, 49, 50, 51, 52, 53, 54, 55, 56, 57, 58, 59, 60, 61, 62, 63, 64, 65, 66, 67, 68, 69, 70, 71, 72, 73, 74, 75, 76, 77, 78, 79, 80, 81, 82, 83, 84, 85, 86, 87, 88, 89, 90, 96, 97, 98, 91, 92, 93, 94, 95, 99, 100, 101, 102, 103, 104, 105, 106] (by decide +kernel) (by decide +kernel)
set_option maxRecDepth 20000 in
theorem gX5_erase_X5_recordNow : GoodIn wsX5_erase (wsV RX5 42 RX5 yX5_recordNow wsX5_recordNow) := goodIn_app (goodIn_of _ (by decide +kernel)) ggX5_erase_X5_recordNow
theorem dX5_erase_0 : decode cX5_erase 0 = .ok (.aload_n 0, 1) := by decide +kernel
theorem dX5_erase_1 : decode cX5_erase 1 = .ok (.iload_n 1, 1) := by decide +kernel
theorem dX5_erase_2 : decode cX5_erase 2 = .ok (.invokevirtual 100, 3) := by decide +kernel
theorem dX5_erase_5 : decode cX5_erase 5 = .ok (.ifCond .ne 5, 3) := by decide +kernel
theorem dX5_erase_8 : decode cX5_erase 8 = .ok (.iconst (-1), 1) := by decide +kernel
theorem dX5_erase_9 : decode cX5_erase 9 = .ok (.ireturn, 1) := by decide +kernel
theorem dX5_erase_10 : decode cX5_erase 10 = .ok (.aload_n 0, 1) := by decide +kernel
theorem dX5_erase_11 : decode cX5_erase 11 = .ok (.iload_n 1, 1) := by decide +kernel
theorem dX5_erase_12 : decode cX5_erase 12 = .ok (.invokevirtual 107, 3) := by decide +kernel
theorem dX5_erase_15 : decode cX5_erase 15 = .ok (.ifCond .eq 6, 3) := by decide +kernel
theorem dX5_erase_18 : decode cX5_erase 18 = .ok (.bipush (-4), 2) := by decide +kernel
theorem dX5_erase_20 : decode cX5_erase 20 = .ok (.ireturn, 1) := by decide +kernel
theorem dX5_erase_21 : decode cX5_erase 21 = .ok (.aload_n 0, 1) := by decide +kernel
theorem dX5_erase_22 : decode cX5_erase 22 = .ok (.getfield 12, 3) := by decide +kernel
theorem dX5_erase_25 : decode cX5_erase 25 = .ok (.getfield 55, 3) := by decide +kernel
theorem dX5_erase_28 : decode cX5_erase 28 = .ok (.getfield 104, 3) := by decide +kernel
theorem dX5_erase_31 : decode cX5_erase 31 = .ok (.iload_n 1, 1) := by decide +kernel
theorem dX5_erase_32 : decode cX5_erase 32 = .ok (.iaload, 1) := by decide +kernel
theorem dX5_erase_33 : decode cX5_erase 33 = .ok (.istore_n 2, 1) := by decide +kernel
theorem dX5_erase_34 : decode cX5_erase 34 = .ok (.iload_n 2, 1) := by decide +kernel
theorem dX5_erase_35 : decode cX5_erase 35 = .ok (.iconst 2, 1) := by decide +kernel
theorem dX5_erase_36 : decode cX5_erase 36 = .ok (.if_icmp .ne 6, 3) := by decide +kernel
theorem dX5_erase_39 : decode cX5_erase 39 = .ok (.bipush (-5), 2) := by decide +kernel
theorem dX5_erase_41 : decode cX5_erase 41 = .ok (.ireturn, 1) := by decide +kernel
theorem dX5_erase_42 : decode cX5_erase 42 = .ok (.aload_n 0, 1) := by decide +kernel
theorem dX5_erase_43 : decode cX5_erase 43 = .ok (.invokevirtual 42, 3) := by decide +kernel
theorem dX5_erase_46 : decode cX5_erase 46 = .ok (.aload_n 0, 1) := by decide +kernel
theorem dX5_erase_47 : decode cX5_erase 47 = .ok (.getfield 12, 3) := by decide +kernel
theorem dX5_erase_50 : decode cX5_erase 50 = .ok (.getfield 55, 3) := by decide +kernel
theorem dX5_erase_53 : decode cX5_erase 53 = .ok (.getfield 104, 3) := by decide +kernel
theorem dX5_erase_56 : decode cX5_erase 56 = .ok (.iload_n 1, 1) := by decide +kernel
theorem dX5_erase_57 : decode cX5_erase 57 = .ok (.iconst 2, 1) := by decide +kernel
theorem dX5_erase_58 : decode cX5_erase 58 = .ok (.iastore, 1) := by decide +kernel
theorem dX5_erase_59 : decode cX5_erase 59 = .ok (.iload_n 2, 1) := by decide +kernel
theorem dX5_erase_60 : decode cX5_erase 60 = .ok (.ireturn, 1) := by decide +kernel
set_option maxRecDepth 20000 in
theorem ggX5_take_X5_recordNow : GoodIn wsX5_take wsX5_recordNow := goodIn_r _ [17, 18, 19, 1, 20, 21, 22, 16, 23, 24, 25, 26, 27, 28, 29, 30, 31, 32, 33, 34, 35, 36, 37, 38, 39, 40, 41, 42, 43, 44, 45, 46, 47, 48, 49, 50, 51, 52, 53, 54, 55, 56, 57, 58, 59, 60, 61, 62, 63, 64, 65, 66, 67, 68, 69, 70, 71, 125, 126, 127, 128, 129, 130, 131, 132, 133, 134, 135, 149, 150, 151, 144, 145, 146, 147, 148, 136, 137, 138, 139, 140, 141, 142, 143] (by decide +kernel) (by decide +kernel)
set_option maxRecDepth 20000 in
theorem gX5_take_X5_recordNow : GoodIn wsX5_take (wsV RX5 42 RX5 yX5_recordNow wsX5_recordNow) := goodIn_app (goodIn_of _ (by decide +kernel)) ggX5_take_X5_recordNow
set_option maxRecDepth 20000 in
theorem ggX5_take_X1_advance : GoodIn wsX5_take wsX1_advance := goodIn_r _ [75, 64, 76, 70, 69, 54, 55, 56, 71, 66, 77, 78, 79, 36, 80, 38, 81, 82, 83, 84, 85, 86, 87, 88, 89, 90, 91, 92, 62, 93, 94, 95, 96, 97, 44, 98, 99, 100, 101, 102, 103, 104, 105, 39, 106, 107, 108, 109, 110, 111, 112, 113, 114, 115, 116, 117, 118, 119, 120, 68, 121, 122, 123, 124, 136, 137, 138, 139, 140, 141, 142, 143, 149, 150, 151] (by decide +kernel) (by decide +kernel)
set_option maxRecDepth 20000 in
theorem gX5_take_X1_advance : GoodIn wsX5_take (wsV RX5 116 RX1 yX1_advance wsX1_advance) := goodIn_app (goodIn_of _ (by decide +kernel)) ggX5_take_X1_advance
theorem dX5_take_0 : decode cX5_take 0 = .ok (.aload_n 0, 1) := by decide +kernel
theorem dX5_take_1 : decode cX5_take 1 = .ok (.getfield 12, 3) := by decide +kernel
theorem dX5_take_4 : decode cX5_take 4 = .ok (.getfield 64, 3) := by decide +kernel
theorem dX5_take_7 : decode cX5_take 7 = .ok (.astore_n 2, 1) := by decide +kernel
theorem dX5_take_8 : decode cX5_take 8 = .ok (.iload_n 1, 1) := by decide +kernel
theorem dX5_take_9 : decode cX5_take 9 = .ok (.iconst 1, 1) := by decide +kernel
theorem dX5_take_10 : decode cX5_take 10 = .ok (.if_icmp .lt 9, 3) := by decide +kernel
theorem dX5_take_13 : decode cX5_take 13 = .ok (.iload_n 1, 1) := by decide +kernel
theorem dX5_take_14 : decode cX5_take 14 = .ok (.bipush 80, 2) := by decide +kernel
theorem dX5_take_16 : decode cX5_take 16 = .ok (.if_icmp .le 6, 3) := by decide +kernel
theorem dX5_take_19 : decode cX5_take 19 = .ok (.bipush (-2), 2) := by decide +kernel
theorem dX5_take_21 : decode cX5_take 21 = .ok (.ireturn, 1) := by decide +kernel
theorem dX5_take_22 : decode cX5_take 22 = .ok (.aload_n 2, 1) := by decide +kernel
theorem dX5_take_23 : decode cX5_take 23 = .ok (.getfield 110, 3) := by decide +kernel
theorem dX5_take_26 : decode cX5_take 26 = .ok (.ifCond .ne 22, 3) := by decide +kernel
theorem dX5_take_29 : decode cX5_take 29 = .ok (.aload_n 2, 1) := by decide +kernel
theorem dX5_take_30 : decode cX5_take 30 = .ok (.getfield 113, 3) := by decide +kernel
theorem dX5_take_33 : decode cX5_take 33 = .ok (.iload_n 1, 1) := by decide +kernel
theorem dX5_take_34 : decode cX5_take 34 = .ok (.iadd, 1) := by decide +kernel
theorem dX5_take_35 : decode cX5_take 35 = .ok (.aload_n 0, 1) := by decide +kernel
theorem dX5_take_36 : decode cX5_take 36 = .ok (.getfield 12, 3) := by decide +kernel
theorem dX5_take_39 : decode cX5_take 39 = .ok (.getfield 55, 3) := by decide +kernel
theorem dX5_take_42 : decode cX5_take 42 = .ok (.getfield 84, 3) := by decide +kernel
theorem dX5_take_45 : decode cX5_take 45 = .ok (.if_icmp .le 6, 3) := by decide +kernel
theorem dX5_take_48 : decode cX5_take 48 = .ok (.bipush (-4), 2) := by decide +kernel
theorem dX5_take_50 : decode cX5_take 50 = .ok (.ireturn, 1) := by decide +kernel
theorem dX5_take_51 : decode cX5_take 51 = .ok (.aload_n 2, 1) := by decide +kernel
theorem dX5_take_52 : decode cX5_take 52 = .ok (.getfield 74, 3) := by decide +kernel
theorem dX5_take_55 : decode cX5_take 55 = .ok (.iload_n 1, 1) := by decide +kernel
theorem dX5_take_56 : decode cX5_take 56 = .ok (.iadd, 1) := by decide +kernel
theorem dX5_take_57 : decode cX5_take 57 = .ok (.bipush 80, 2) := by decide +kernel
theorem dX5_take_59 : decode cX5_take 59 = .ok (.if_icmp .le 6, 3) := by decide +kernel
theorem dX5_take_62 : decode cX5_take 62 = .ok (.bipush (-3), 2) := by decide +kernel
theorem dX5_take_64 : decode cX5_take 64 = .ok (.ireturn, 1) := by decide +kernel
theorem dX5_take_65 : decode cX5_take 65 = .ok (.aload_n 0, 1) := by decide +kernel
theorem dX5_take_66 : decode cX5_take 66 = .ok (.invokevirtual 42, 3) := by decide +kernel
theorem dX5_take_69 : decode cX5_take 69 = .ok (.aload_n 0, 1) := by decide +kernel
theorem dX5_take_70 : decode cX5_take 70 = .ok (.getfield 12, 3) := by decide +kernel
theorem dX5_take_73 : decode cX5_take 73 = .ok (.getfield 45, 3) := by decide +kernel
theorem dX5_take_76 : decode cX5_take 76 = .ok (.getfield 71, 3) := by decide +kernel
theorem dX5_take_79 : decode cX5_take 79 = .ok (.istore_n 3, 1) := by decide +kernel
theorem dX5_take_80 : decode cX5_take 80 = .ok (.iconst 0, 1) := by decide +kernel
theorem dX5_take_81 : decode cX5_take 81 = .ok (.istore 4, 2) := by decide +kernel
theorem dX5_take_83 : decode cX5_take 83 = .ok (.iload 4, 2) := by decide +kernel
theorem dX5_take_85 : decode cX5_take 85 = .ok (.iload_n 1, 1) := by decide +kernel
theorem dX5_take_86 : decode cX5_take 86 = .ok (.if_icmp .ge 53, 3) := by decide +kernel
theorem dX5_take_89 : decode cX5_take 89 = .ok (.aload_n 2, 1) := by decide +kernel
theorem dX5_take_90 : decode cX5_take 90 = .ok (.aload_n 0, 1) := by decide +kernel
theorem dX5_take_91 : decode cX5_take 91 = .ok (.getfield 12, 3) := by decide +kernel
theorem dX5_take_94 : decode cX5_take 94 = .ok (.getfield 45, 3) := by decide +kernel
theorem dX5_take_97 : decode cX5_take 97 = .ok (.aload_n 0, 1) := by decide +kernel
theorem dX5_take_98 : decode cX5_take 98 = .ok (.getfield 12, 3) := by decide +kernel
theorem dX5_take_101 : decode cX5_take 101 = .ok (.getfield 77, 3) := by decide +kernel
theorem dX5_take_104 : decode cX5_take 104 = .ok (.aload_n 0, 1) := by decide +kernel
theorem dX5_take_105 : decode cX5_take 105 = .ok (.getfield 12, 3) := by decide +kernel
theorem dX5_take_108 : decode cX5_take 108 = .ok (.getfield 55, 3) := by decide +kernel
theorem dX5_take_111 : decode cX5_take 111 = .ok (.getfield 104, 3) := by decide +kernel
theorem dX5_take_114 : decode cX5_take 114 = .ok (.aload_n 2, 1) := by decide +kernel
theorem dX5_take_115 : decode cX5_take 115 = .ok (.getfield 113, 3) := by decide +kernel
theorem dX5_take_118 : decode cX5_take 118 = .ok (.iload_n 3, 1) := by decide +kernel
theorem dX5_take_119 : decode cX5_take 119 = .ok (.imul, 1) := by decide +kernel
theorem dX5_take_120 : decode cX5_take 120 = .ok (.invokevirtual 116, 3) := by decide +kernel
theorem dX5_take_123 : decode cX5_take 123 = .ok (.aload_n 2, 1) := by decide +kernel
theorem dX5_take_124 : decode cX5_take 124 = .ok (.dup, 1) := by decide +kernel
theorem dX5_take_125 : decode cX5_take 125 = .ok (.getfield 113, 3) := by decide +kernel
theorem dX5_take_128 : decode cX5_take 128 = .ok (.iconst 1, 1) := by decide +kernel
theorem dX5_take_129 : decode cX5_take 129 = .ok (.iadd, 1) := by decide +kernel
theorem dX5_take_130 : decode cX5_take 130 = .ok (.putfield 113, 3) := by decide +kernel
theorem dX5_take_133 : decode cX5_take 133 = .ok (.iinc 4 1, 3) := by decide +kernel
theorem dX5_take_136 : decode cX5_take 136 = .ok (.goto (-53), 3) := by decide +kernel
theorem dX5_take_139 : decode cX5_take 139 = .ok (.aload_n 2, 1) := by decide +kernel
theorem dX5_take_140 : decode cX5_take 140 = .ok (.getfield 120, 3) := by decide +kernel
theorem dX5_take_143 : decode cX5_take 143 = .ok (.ireturn, 1) := by decide +kernel
set_option maxRecDepth 20000 in
theorem ggX5_hear_X4_firstFault : GoodIn wsX5_hear wsX4_firstFault := goodIn_r _ [16, 17, 18, 145, 146] (by decide +kernel) (by decide +kernel)
set_option maxRecDepth 20000 in
theorem gX5_hear_X4_firstFault : GoodIn wsX5_hear (wsV RX5 80 RX4 yX4_firstFault wsX4_firstFault) := goodIn_app (goodIn_of _ (by decide +kernel)) ggX5_hear_X4_firstFault
set_option maxRecDepth 20000 in
theorem ggX5_hear_X5_recordNow : GoodIn wsX5_hear wsX5_recordNow := goodIn_r _ [23, 24, 25, 1, 26, 27, 28, 22, 29, 30, 31, 32, 33, 34, 35, 36, 37, 38, 39, 40, 41, 42, 43, 44, 45, 46, 47, 48, 49, 50, 51, 52, 53, 54, 55, 56, 57, 58, 59, 60, 61, 62, 63, 64, 65, 66, 67, 68, 69, 70, 71, 72, 73, 74, 75, 76, 77, 131, 132, 133, 134, 135, 136, 137, 138, 139, 140, 141, 142, 143, 144, 155, 156, 157, 158, 159, 147, 148, 149, 150, 151, 152, 153, 154] (by decide +kernel) (by decide +kernel)
set_option maxRecDepth 20000 in
theorem gX5_hear_X5_recordNow : GoodIn wsX5_hear (wsV RX5 42 RX5 yX5_recordNow wsX5_recordNow) := goodIn_app (goodIn_of _ (by decide +kernel)) ggX5_hear_X5_recordNow
set_option maxRecDepth 20000 in
theorem ggX5_hear_X1_advance : GoodIn wsX5_hear wsX1_advance := goodIn_r _ [81, 70, 82, 76, 75, 60, 61, 62, 77, 72, 83, 84, 85, 42, 86, 44, 87, 88, 89, 90, 91, 92, 93, 94, 95, 96, 97, 98, 68, 99, 100, 101, 102, 103, 50, 104, 105, 106, 107, 108, 109, 110, 111, 45, 112, 113, 114, 115, 116, 117, 118, 119, 120, 121, 122, 123, 124, 125, 126, 74, 127, 128, 129, 130, 147, 148, 149, 150, 151, 152, 153, 154, 142, 143, 144] (by decide +kernel) (by decide +kernel)
set_option maxRecDepth 20000 in
theorem gX5_hear_X1_advance : GoodIn wsX5_hear (wsV RX5 116 RX1 yX1_advance wsX1_advance) := goodIn_app (goodIn_of _ (by decide +kernel)) ggX5_hear_X1_advance
theorem dX5_hear_0 : decode cX5_hear 0 = .ok (.aload_n 0, 1) := by decide +kernel
theorem dX5_hear_1 : decode cX5_hear 1 = .ok (.getfield 12, 3) := by decide +kernel
theorem dX5_hear_4 : decode cX5_hear 4 = .ok (.getfield 64, 3) := by decide +kernel
theorem dX5_hear_7 : decode cX5_hear 7 = .ok (.astore_n 1, 1) := by decide +kernel
theorem dX5_hear_8 : decode cX5_hear 8 = .ok (.aload_n 0, 1) := by decide +kernel
theorem dX5_hear_9 : decode cX5_hear 9 = .ok (.getfield 34, 3) := by decide +kernel
theorem dX5_hear_12 : decode cX5_hear 12 = .ok (.iconst 2, 1) := by decide +kernel
theorem dX5_hear_13 : decode cX5_hear 13 = .ok (.invokevirtual 80, 3) := by decide +kernel
theorem dX5_hear_16 : decode cX5_hear 16 = .ok (.istore_n 2, 1) := by decide +kernel
theorem dX5_hear_17 : decode cX5_hear 17 = .ok (.iload_n 2, 1) := by decide +kernel
theorem dX5_hear_18 : decode cX5_hear 18 = .ok (.iconst (-1), 1) := by decide +kernel
theorem dX5_hear_19 : decode cX5_hear 19 = .ok (.if_icmp .eq 8, 3) := by decide +kernel
theorem dX5_hear_22 : decode cX5_hear 22 = .ok (.bipush (-100), 2) := by decide +kernel
theorem dX5_hear_24 : decode cX5_hear 24 = .ok (.iload_n 2, 1) := by decide +kernel
theorem dX5_hear_25 : decode cX5_hear 25 = .ok (.isub, 1) := by decide +kernel
theorem dX5_hear_26 : decode cX5_hear 26 = .ok (.ireturn, 1) := by decide +kernel
theorem dX5_hear_27 : decode cX5_hear 27 = .ok (.aload_n 0, 1) := by decide +kernel
theorem dX5_hear_28 : decode cX5_hear 28 = .ok (.getfield 12, 3) := by decide +kernel
theorem dX5_hear_31 : decode cX5_hear 31 = .ok (.getfield 45, 3) := by decide +kernel
theorem dX5_hear_34 : decode cX5_hear 34 = .ok (.getfield 71, 3) := by decide +kernel
theorem dX5_hear_37 : decode cX5_hear 37 = .ok (.istore_n 3, 1) := by decide +kernel
theorem dX5_hear_38 : decode cX5_hear 38 = .ok (.iload_n 3, 1) := by decide +kernel
theorem dX5_hear_39 : decode cX5_hear 39 = .ok (.ifCond .le 15, 3) := by decide +kernel
theorem dX5_hear_42 : decode cX5_hear 42 = .ok (.aload_n 0, 1) := by decide +kernel
theorem dX5_hear_43 : decode cX5_hear 43 = .ok (.getfield 34, 3) := by decide +kernel
theorem dX5_hear_46 : decode cX5_hear 46 = .ok (.getfield 87, 3) := by decide +kernel
theorem dX5_hear_49 : decode cX5_hear 49 = .ok (.iload_n 3, 1) := by decide +kernel
theorem dX5_hear_50 : decode cX5_hear 50 = .ok (.idiv, 1) := by decide +kernel
theorem dX5_hear_51 : decode cX5_hear 51 = .ok (.goto 4, 3) := by decide +kernel
theorem dX5_hear_54 : decode cX5_hear 54 = .ok (.iconst 0, 1) := by decide +kernel
theorem dX5_hear_55 : decode cX5_hear 55 = .ok (.istore 4, 2) := by decide +kernel
theorem dX5_hear_57 : decode cX5_hear 57 = .ok (.iload 4, 2) := by decide +kernel
theorem dX5_hear_59 : decode cX5_hear 59 = .ok (.iload_n 3, 1) := by decide +kernel
theorem dX5_hear_60 : decode cX5_hear 60 = .ok (.imul, 1) := by decide +kernel
theorem dX5_hear_61 : decode cX5_hear 61 = .ok (.aload_n 0, 1) := by decide +kernel
theorem dX5_hear_62 : decode cX5_hear 62 = .ok (.getfield 34, 3) := by decide +kernel
theorem dX5_hear_65 : decode cX5_hear 65 = .ok (.getfield 87, 3) := by decide +kernel
theorem dX5_hear_68 : decode cX5_hear 68 = .ok (.if_icmp .eq 6, 3) := by decide +kernel
theorem dX5_hear_71 : decode cX5_hear 71 = .ok (.bipush (-2), 2) := by decide +kernel
theorem dX5_hear_73 : decode cX5_hear 73 = .ok (.ireturn, 1) := by decide +kernel
theorem dX5_hear_74 : decode cX5_hear 74 = .ok (.aload_n 1, 1) := by decide +kernel
theorem dX5_hear_75 : decode cX5_hear 75 = .ok (.getfield 110, 3) := by decide +kernel
theorem dX5_hear_78 : decode cX5_hear 78 = .ok (.ifCond .eq 6, 3) := by decide +kernel
theorem dX5_hear_81 : decode cX5_hear 81 = .ok (.bipush (-4), 2) := by decide +kernel
theorem dX5_hear_83 : decode cX5_hear 83 = .ok (.ireturn, 1) := by decide +kernel
theorem dX5_hear_84 : decode cX5_hear 84 = .ok (.aload_n 1, 1) := by decide +kernel
theorem dX5_hear_85 : decode cX5_hear 85 = .ok (.getfield 74, 3) := by decide +kernel
theorem dX5_hear_88 : decode cX5_hear 88 = .ok (.iload 4, 2) := by decide +kernel
theorem dX5_hear_90 : decode cX5_hear 90 = .ok (.iadd, 1) := by decide +kernel
theorem dX5_hear_91 : decode cX5_hear 91 = .ok (.bipush 80, 2) := by decide +kernel
theorem dX5_hear_93 : decode cX5_hear 93 = .ok (.if_icmp .le 6, 3) := by decide +kernel
theorem dX5_hear_96 : decode cX5_hear 96 = .ok (.bipush (-3), 2) := by decide +kernel
theorem dX5_hear_98 : decode cX5_hear 98 = .ok (.ireturn, 1) := by decide +kernel
theorem dX5_hear_99 : decode cX5_hear 99 = .ok (.aload_n 0, 1) := by decide +kernel
theorem dX5_hear_100 : decode cX5_hear 100 = .ok (.invokevirtual 42, 3) := by decide +kernel
theorem dX5_hear_103 : decode cX5_hear 103 = .ok (.iconst 0, 1) := by decide +kernel
theorem dX5_hear_104 : decode cX5_hear 104 = .ok (.istore 5, 2) := by decide +kernel
theorem dX5_hear_106 : decode cX5_hear 106 = .ok (.iload 5, 2) := by decide +kernel
theorem dX5_hear_108 : decode cX5_hear 108 = .ok (.iload 4, 2) := by decide +kernel
theorem dX5_hear_110 : decode cX5_hear 110 = .ok (.if_icmp .ge 38, 3) := by decide +kernel
theorem dX5_hear_113 : decode cX5_hear 113 = .ok (.aload_n 1, 1) := by decide +kernel
theorem dX5_hear_114 : decode cX5_hear 114 = .ok (.aload_n 0, 1) := by decide +kernel
theorem dX5_hear_115 : decode cX5_hear 115 = .ok (.getfield 12, 3) := by decide +kernel
theorem dX5_hear_118 : decode cX5_hear 118 = .ok (.getfield 45, 3) := by decide +kernel
theorem dX5_hear_121 : decode cX5_hear 121 = .ok (.aload_n 0, 1) := by decide +kernel
theorem dX5_hear_122 : decode cX5_hear 122 = .ok (.getfield 12, 3) := by decide +kernel
theorem dX5_hear_125 : decode cX5_hear 125 = .ok (.getfield 77, 3) := by decide +kernel
theorem dX5_hear_128 : decode cX5_hear 128 = .ok (.aload_n 0, 1) := by decide +kernel
theorem dX5_hear_129 : decode cX5_hear 129 = .ok (.getfield 34, 3) := by decide +kernel
theorem dX5_hear_132 : decode cX5_hear 132 = .ok (.getfield 90, 3) := by decide +kernel
theorem dX5_hear_135 : decode cX5_hear 135 = .ok (.iload 5, 2) := by decide +kernel
theorem dX5_hear_137 : decode cX5_hear 137 = .ok (.iload_n 3, 1) := by decide +kernel
theorem dX5_hear_138 : decode cX5_hear 138 = .ok (.imul, 1) := by decide +kernel
theorem dX5_hear_139 : decode cX5_hear 139 = .ok (.invokevirtual 116, 3) := by decide +kernel
theorem dX5_hear_142 : decode cX5_hear 142 = .ok (.iinc 5 1, 3) := by decide +kernel
theorem dX5_hear_145 : decode cX5_hear 145 = .ok (.goto (-39), 3) := by decide +kernel
theorem dX5_hear_148 : decode cX5_hear 148 = .ok (.aload_n 1, 1) := by decide +kernel
theorem dX5_hear_149 : decode cX5_hear 149 = .ok (.getfield 120, 3) := by decide +kernel
theorem dX5_hear_152 : decode cX5_hear 152 = .ok (.ireturn, 1) := by decide +kernel
set_option maxRecDepth 20000 in
theorem ggX5_finish_X5_recordNow : GoodIn wsX5_finish wsX5_recordNow := goodIn_r _ [12, 13, 14, 1, 15, 16, 17, 11, 18, 19, 20, 21, 22, 23, 24, 25, 26, 27, 28, 29, 30, 31, 32, 33, 34, 35, 36, 37, 38, 39, 40, 41, 42, 43, 44, 45, 46, 47, 48, 49, 50, 51, 52, 53, 54, 55, 56, 57, 58, 59, 60, 61, 62, 63, 64, 65, 66, 92, 93, 94, 95, 96, 97, 98, 99, 100, 101, 102, 111, 112, 113, 114, 115, 116, 117, 118, 103, 104, 105, 106, 107, 108, 109, 110] (by decide +kernel) (by decide +kernel)
set_option maxRecDepth 20000 in
theorem gX5_finish_X5_recordNow : GoodIn wsX5_finish (wsV RX5 42 RX5 yX5_recordNow wsX5_recordNow) := goodIn_app (goodIn_of _ (by decide +kernel)) ggX5_finish_X5_recordNow
set_option maxRecDepth 20000 in
theorem ggX5_finish_X1_bestState : GoodIn wsX5_finish wsX1_bestState := goodIn_r _ [70, 65, 71, 72, 73, 31, 74, 33, 103, 104, 105, 106, 107, 108, 109, 110, 111, 112, 113] (by decide +kernel) (by decide +kernel)
set_option maxRecDepth 20000 in
theorem gX5_finish_X1_bestState : GoodIn wsX5_finish (wsV RX5 126 RX1 yX1_bestState wsX1_bestState) := goodIn_app (goodIn_of _ (by decide +kernel)) ggX5_finish_X1_bestState
set_option maxRecDepth 20000 in
theorem ggX5_finish_X1_releaseUpTo : GoodIn wsX5_finish wsX1_releaseUpTo := goodIn_r _ [78, 59, 61, 63, 79, 80, 81, 31, 82, 33, 83, 84, 85, 57, 86, 66, 87, 88, 89, 90, 91, 72, 73, 74, 103, 104, 105, 106, 107, 108, 109, 110, 111, 112, 113] (by decide +kernel) (by decide +kernel)
set_option maxRecDepth 20000 in
theorem gX5_finish_X1_releaseUpTo : GoodIn wsX5_finish (wsV RX5 130 RX1 yX1_releaseUpTo wsX1_releaseUpTo) := goodIn_app (goodIn_of _ (by decide +kernel)) ggX5_finish_X1_releaseUpTo
theorem dX5_finish_0 : decode cX5_finish 0 = .ok (.aload_n 0, 1) := by decide +kernel
theorem dX5_finish_1 : decode cX5_finish 1 = .ok (.getfield 12, 3) := by decide +kernel
theorem dX5_finish_4 : decode cX5_finish 4 = .ok (.getfield 64, 3) := by decide +kernel
theorem dX5_finish_7 : decode cX5_finish 7 = .ok (.astore_n 2, 1) := by decide +kernel
theorem dX5_finish_8 : decode cX5_finish 8 = .ok (.aload_n 2, 1) := by decide +kernel
theorem dX5_finish_9 : decode cX5_finish 9 = .ok (.getfield 110, 3) := by decide +kernel
theorem dX5_finish_12 : decode cX5_finish 12 = .ok (.ifCond .ne 17, 3) := by decide +kernel
theorem dX5_finish_15 : decode cX5_finish 15 = .ok (.iload_n 1, 1) := by decide +kernel
theorem dX5_finish_16 : decode cX5_finish 16 = .ok (.ifCond .eq 16, 3) := by decide +kernel
theorem dX5_finish_19 : decode cX5_finish 19 = .ok (.aload_n 2, 1) := by decide +kernel
theorem dX5_finish_20 : decode cX5_finish 20 = .ok (.getfield 123, 3) := by decide +kernel
theorem dX5_finish_23 : decode cX5_finish 23 = .ok (.iconst 0, 1) := by decide +kernel
theorem dX5_finish_24 : decode cX5_finish 24 = .ok (.iaload, 1) := by decide +kernel
theorem dX5_finish_25 : decode cX5_finish 25 = .ok (.iconst (-1), 1) := by decide +kernel
theorem dX5_finish_26 : decode cX5_finish 26 = .ok (.if_icmp .ne 6, 3) := by decide +kernel
theorem dX5_finish_29 : decode cX5_finish 29 = .ok (.bipush (-4), 2) := by decide +kernel
theorem dX5_finish_31 : decode cX5_finish 31 = .ok (.ireturn, 1) := by decide +kernel
theorem dX5_finish_32 : decode cX5_finish 32 = .ok (.aload_n 0, 1) := by decide +kernel
theorem dX5_finish_33 : decode cX5_finish 33 = .ok (.invokevirtual 42, 3) := by decide +kernel
theorem dX5_finish_36 : decode cX5_finish 36 = .ok (.iload_n 1, 1) := by decide +kernel
theorem dX5_finish_37 : decode cX5_finish 37 = .ok (.ifCond .eq 7, 3) := by decide +kernel
theorem dX5_finish_40 : decode cX5_finish 40 = .ok (.iconst 0, 1) := by decide +kernel
theorem dX5_finish_41 : decode cX5_finish 41 = .ok (.goto 14, 3) := by decide +kernel
theorem dX5_finish_44 : decode cX5_finish 44 = .ok (.aload_n 2, 1) := by decide +kernel
theorem dX5_finish_45 : decode cX5_finish 45 = .ok (.aload_n 0, 1) := by decide +kernel
theorem dX5_finish_46 : decode cX5_finish 46 = .ok (.getfield 12, 3) := by decide +kernel
theorem dX5_finish_49 : decode cX5_finish 49 = .ok (.getfield 45, 3) := by decide +kernel
theorem dX5_finish_52 : decode cX5_finish 52 = .ok (.invokevirtual 126, 3) := by decide +kernel
theorem dX5_finish_55 : decode cX5_finish 55 = .ok (.istore_n 3, 1) := by decide +kernel
theorem dX5_finish_56 : decode cX5_finish 56 = .ok (.aload_n 2, 1) := by decide +kernel
theorem dX5_finish_57 : decode cX5_finish 57 = .ok (.aload_n 0, 1) := by decide +kernel
theorem dX5_finish_58 : decode cX5_finish 58 = .ok (.getfield 12, 3) := by decide +kernel
theorem dX5_finish_61 : decode cX5_finish 61 = .ok (.getfield 45, 3) := by decide +kernel
theorem dX5_finish_64 : decode cX5_finish 64 = .ok (.iload_n 3, 1) := by decide +kernel
theorem dX5_finish_65 : decode cX5_finish 65 = .ok (.aload_n 2, 1) := by decide +kernel
theorem dX5_finish_66 : decode cX5_finish 66 = .ok (.getfield 74, 3) := by decide +kernel
theorem dX5_finish_69 : decode cX5_finish 69 = .ok (.invokevirtual 130, 3) := by decide +kernel
theorem dX5_finish_72 : decode cX5_finish 72 = .ok (.aload_n 2, 1) := by decide +kernel
theorem dX5_finish_73 : decode cX5_finish 73 = .ok (.iconst 1, 1) := by decide +kernel
theorem dX5_finish_74 : decode cX5_finish 74 = .ok (.putfield 110, 3) := by decide +kernel
theorem dX5_finish_77 : decode cX5_finish 77 = .ok (.aload_n 2, 1) := by decide +kernel
theorem dX5_finish_78 : decode cX5_finish 78 = .ok (.getfield 120, 3) := by decide +kernel
theorem dX5_finish_81 : decode cX5_finish 81 = .ok (.ireturn, 1) := by decide +kernel
set_option maxRecDepth 20000 in
theorem ggX5_reset_X5_recordNow : GoodIn wsX5_reset wsX5_recordNow := goodIn_r _ [8, 9, 10, 1, 11, 12, 13, 7, 14, 15, 16, 17, 18, 19, 20, 21, 22, 23, 24, 25, 26, 27, 28, 29, 30, 31, 32, 33, 34, 35, 36, 37, 38, 39, 40, 41, 42, 43, 44, 45, 46, 47, 48, 49, 50, 51, 52, 53, 54, 55, 56, 57, 58, 59, 60, 61, 62, 71, 72, 73, 74, 75, 76, 77, 78, 79, 80, 81, 90, 91, 92, 93, 94, 95, 96, 97, 82, 83, 84, 85, 86, 87, 88, 89] (by decide +kernel) (by decide +kernel)
set_option maxRecDepth 20000 in
theorem gX5_reset_X5_recordNow : GoodIn wsX5_reset (wsV RX5 42 RX5 yX5_recordNow wsX5_recordNow) := goodIn_app (goodIn_of _ (by decide +kernel)) ggX5_reset_X5_recordNow
set_option maxRecDepth 20000 in
theorem ggX5_reset_X1_clear : GoodIn wsX5_reset wsX1_clear := goodIn_r _ [66, 55, 56, 57, 58, 61, 67, 68, 69, 70, 82, 83, 84, 85, 86, 87, 88, 89] (by decide +kernel) (by decide +kernel)
set_option maxRecDepth 20000 in
theorem gX5_reset_X1_clear : GoodIn wsX5_reset (wsV RX5 68 RX1 yX1_clear wsX1_clear) := goodIn_app (goodIn_of _ (by decide +kernel)) ggX5_reset_X1_clear
theorem dX5_reset_0 : decode cX5_reset 0 = .ok (.aload_n 0, 1) := by decide +kernel
theorem dX5_reset_1 : decode cX5_reset 1 = .ok (.invokevirtual 42, 3) := by decide +kernel
theorem dX5_reset_4 : decode cX5_reset 4 = .ok (.aload_n 0, 1) := by decide +kernel
theorem dX5_reset_5 : decode cX5_reset 5 = .ok (.getfield 12, 3) := by decide +kernel
theorem dX5_reset_8 : decode cX5_reset 8 = .ok (.getfield 64, 3) := by decide +kernel
theorem dX5_reset_11 : decode cX5_reset 11 = .ok (.getfield 74, 3) := by decide +kernel
theorem dX5_reset_14 : decode cX5_reset 14 = .ok (.istore_n 1, 1) := by decide +kernel
theorem dX5_reset_15 : decode cX5_reset 15 = .ok (.aload_n 0, 1) := by decide +kernel
theorem dX5_reset_16 : decode cX5_reset 16 = .ok (.getfield 12, 3) := by decide +kernel
theorem dX5_reset_19 : decode cX5_reset 19 = .ok (.getfield 64, 3) := by decide +kernel
theorem dX5_reset_22 : decode cX5_reset 22 = .ok (.invokevirtual 68, 3) := by decide +kernel
theorem dX5_reset_25 : decode cX5_reset 25 = .ok (.iload_n 1, 1) := by decide +kernel
theorem dX5_reset_26 : decode cX5_reset 26 = .ok (.ireturn, 1) := by decide +kernel
set_option maxRecDepth 20000 in
theorem ggX5_type_X4_append : GoodIn wsX5_type wsX4_append := goodIn_r _ [7, 8, 9, 10, 11, 6, 12, 20, 21] (by decide +kernel) (by decide +kernel)
set_option maxRecDepth 20000 in
theorem gX5_type_X4_append : GoodIn wsX5_type (wsV RX5 134 RX4 yX4_append wsX4_append) := goodIn_app (goodIn_of _ (by decide +kernel)) ggX5_type_X4_append
theorem dX5_type_0 : decode cX5_type 0 = .ok (.aload_n 0, 1) := by decide +kernel
theorem dX5_type_1 : decode cX5_type 1 = .ok (.getfield 34, 3) := by decide +kernel
theorem dX5_type_4 : decode cX5_type 4 = .ok (.getfield 87, 3) := by decide +kernel
theorem dX5_type_7 : decode cX5_type 7 = .ok (.bipush 60, 2) := by decide +kernel
theorem dX5_type_9 : decode cX5_type 9 = .ok (.if_icmp .lt 6, 3) := by decide +kernel
theorem dX5_type_12 : decode cX5_type 12 = .ok (.bipush (-3), 2) := by decide +kernel
theorem dX5_type_14 : decode cX5_type 14 = .ok (.ireturn, 1) := by decide +kernel
theorem dX5_type_15 : decode cX5_type 15 = .ok (.aload_n 0, 1) := by decide +kernel
theorem dX5_type_16 : decode cX5_type 16 = .ok (.getfield 34, 3) := by decide +kernel
theorem dX5_type_19 : decode cX5_type 19 = .ok (.iload_n 1, 1) := by decide +kernel
theorem dX5_type_20 : decode cX5_type 20 = .ok (.invokevirtual 134, 3) := by decide +kernel
theorem dX5_type_23 : decode cX5_type 23 = .ok (.aload_n 0, 1) := by decide +kernel
theorem dX5_type_24 : decode cX5_type 24 = .ok (.getfield 34, 3) := by decide +kernel
theorem dX5_type_27 : decode cX5_type 27 = .ok (.getfield 87, 3) := by decide +kernel
theorem dX5_type_30 : decode cX5_type 30 = .ok (.ireturn, 1) := by decide +kernel
theorem dX5_clearText_0 : decode cX5_clearText 0 = .ok (.aload_n 0, 1) := by decide +kernel
theorem dX5_clearText_1 : decode cX5_clearText 1 = .ok (.getfield 34, 3) := by decide +kernel
theorem dX5_clearText_4 : decode cX5_clearText 4 = .ok (.getfield 87, 3) := by decide +kernel
theorem dX5_clearText_7 : decode cX5_clearText 7 = .ok (.istore_n 1, 1) := by decide +kernel
theorem dX5_clearText_8 : decode cX5_clearText 8 = .ok (.aload_n 0, 1) := by decide +kernel
theorem dX5_clearText_9 : decode cX5_clearText 9 = .ok (.getfield 34, 3) := by decide +kernel
theorem dX5_clearText_12 : decode cX5_clearText 12 = .ok (.iconst 0, 1) := by decide +kernel
theorem dX5_clearText_13 : decode cX5_clearText 13 = .ok (.putfield 87, 3) := by decide +kernel
theorem dX5_clearText_16 : decode cX5_clearText 16 = .ok (.iload_n 1, 1) := by decide +kernel
theorem dX5_clearText_17 : decode cX5_clearText 17 = .ok (.ireturn, 1) := by decide +kernel
set_option maxRecDepth 20000 in
theorem ggX5_undo_X3_copyFrom : GoodIn wsX5_undo wsX3_copyFrom := goodIn_r _ [8, 9, 10, 11, 12, 13, 14, 15, 16, 17, 18, 19, 20, 21, 22, 23, 24, 25, 26, 27, 28, 29, 30, 31, 32, 33, 34, 35, 36, 37, 38, 39, 40, 41, 42, 43, 44, 45, 46, 47, 48, 49, 50, 51, 59, 60, 61, 62, 63, 64, 65, 66, 67, 68, 69, 70, 71, 72, 73, 74, 75, 76, 77, 78] (by decide +kernel) (by decide +kernel)
set_option maxRecDepth 20000 in
theorem gX5_undo_X3_copyFrom : GoodIn wsX5_undo (wsV RX5 138 RX3 yX3_copyFrom wsX3_copyFrom) := goodIn_app (goodIn_of _ (by decide +kernel)) ggX5_undo_X3_copyFrom
theorem dX5_undo_0 : decode cX5_undo 0 = .ok (.aload_n 0, 1) := by decide +kernel
theorem dX5_undo_1 : decode cX5_undo 1 = .ok (.getfield 27, 3) := by decide +kernel
theorem dX5_undo_4 : decode cX5_undo 4 = .ok (.iconst 1, 1) := by decide +kernel
theorem dX5_undo_5 : decode cX5_undo 5 = .ok (.if_icmp .ge 6, 3) := by decide +kernel
theorem dX5_undo_8 : decode cX5_undo 8 = .ok (.bipush (-5), 2) := by decide +kernel
theorem dX5_undo_10 : decode cX5_undo 10 = .ok (.ireturn, 1) := by decide +kernel
theorem dX5_undo_11 : decode cX5_undo 11 = .ok (.aload_n 0, 1) := by decide +kernel
theorem dX5_undo_12 : decode cX5_undo 12 = .ok (.dup, 1) := by decide +kernel
theorem dX5_undo_13 : decode cX5_undo 13 = .ok (.getfield 27, 3) := by decide +kernel
theorem dX5_undo_16 : decode cX5_undo 16 = .ok (.iconst 1, 1) := by decide +kernel
theorem dX5_undo_17 : decode cX5_undo 17 = .ok (.isub, 1) := by decide +kernel
theorem dX5_undo_18 : decode cX5_undo 18 = .ok (.putfield 27, 3) := by decide +kernel
theorem dX5_undo_21 : decode cX5_undo 21 = .ok (.aload_n 0, 1) := by decide +kernel
theorem dX5_undo_22 : decode cX5_undo 22 = .ok (.getfield 12, 3) := by decide +kernel
theorem dX5_undo_25 : decode cX5_undo 25 = .ok (.aload_n 0, 1) := by decide +kernel
theorem dX5_undo_26 : decode cX5_undo 26 = .ok (.getfield 23, 3) := by decide +kernel
theorem dX5_undo_29 : decode cX5_undo 29 = .ok (.aload_n 0, 1) := by decide +kernel
theorem dX5_undo_30 : decode cX5_undo 30 = .ok (.getfield 27, 3) := by decide +kernel
theorem dX5_undo_33 : decode cX5_undo 33 = .ok (.aaload, 1) := by decide +kernel
theorem dX5_undo_34 : decode cX5_undo 34 = .ok (.invokevirtual 138, 3) := by decide +kernel
theorem dX5_undo_37 : decode cX5_undo 37 = .ok (.aload_n 0, 1) := by decide +kernel
theorem dX5_undo_38 : decode cX5_undo 38 = .ok (.getfield 27, 3) := by decide +kernel
theorem dX5_undo_41 : decode cX5_undo 41 = .ok (.ireturn, 1) := by decide +kernel
set_option maxRecDepth 20000 in
theorem ggX5_keep_X3_copyFrom : GoodIn wsX5_keep wsX3_copyFrom := goodIn_r _ [10, 11, 12, 13, 14, 15, 16, 17, 18, 19, 20, 21, 22, 23, 24, 25, 26, 27, 28, 29, 30, 31, 32, 33, 34, 35, 36, 37, 38, 39, 40, 41, 42, 43, 44, 45, 46, 47, 48, 49, 50, 51, 52, 53, 61, 62, 63, 64, 70, 71, 72, 65, 66, 67, 68, 69, 73, 74, 75, 76, 77, 78, 79, 80] (by decide +kernel) (by decide +kernel)
set_option maxRecDepth 20000 in
theorem gX5_keep_X3_copyFrom : GoodIn wsX5_keep (wsV RX5 138 RX3 yX3_copyFrom wsX3_copyFrom) := goodIn_app (goodIn_of _ (by decide +kernel)) ggX5_keep_X3_copyFrom
theorem dX5_keep_0 : decode cX5_keep 0 = .ok (.aload_n 0, 1) := by decide +kernel
theorem dX5_keep_1 : decode cX5_keep 1 = .ok (.getfield 16, 3) := by decide +kernel
theorem dX5_keep_4 : decode cX5_keep 4 = .ok (.aload_n 0, 1) := by decide +kernel
theorem dX5_keep_5 : decode cX5_keep 5 = .ok (.getfield 12, 3) := by decide +kernel
theorem dX5_keep_8 : decode cX5_keep 8 = .ok (.invokevirtual 138, 3) := by decide +kernel
theorem dX5_keep_11 : decode cX5_keep 11 = .ok (.aload_n 0, 1) := by decide +kernel
theorem dX5_keep_12 : decode cX5_keep 12 = .ok (.iconst 1, 1) := by decide +kernel
theorem dX5_keep_13 : decode cX5_keep 13 = .ok (.putfield 19, 3) := by decide +kernel
theorem dX5_keep_16 : decode cX5_keep 16 = .ok (.aload_n 0, 1) := by decide +kernel
theorem dX5_keep_17 : decode cX5_keep 17 = .ok (.getfield 12, 3) := by decide +kernel
theorem dX5_keep_20 : decode cX5_keep 20 = .ok (.getfield 55, 3) := by decide +kernel
theorem dX5_keep_23 : decode cX5_keep 23 = .ok (.getfield 84, 3) := by decide +kernel
theorem dX5_keep_26 : decode cX5_keep 26 = .ok (.ireturn, 1) := by decide +kernel
set_option maxRecDepth 20000 in
theorem ggX5_restore_X5_recordNow : GoodIn wsX5_restore wsX5_recordNow := goodIn_r _ [10, 11, 12, 2, 13, 14, 15, 9, 16, 17, 18, 19, 20, 21, 22, 23, 24, 25, 26, 27, 28, 29, 30, 31, 32, 33, 34, 35, 36, 37, 38, 39, 40, 41, 42, 43, 44, 45, 46, 47, 48, 49, 50, 51, 52, 53, 54, 55, 56, 57, 58, 59, 60, 61, 62, 63, 64, 65, 66, 67, 68, 69, 70, 71, 72, 73, 74, 75, 81, 82, 83, 76, 77, 78, 79, 80, 84, 85, 86, 87, 88, 89, 90, 91] (by decide +kernel) (by decide +kernel)
set_option maxRecDepth 20000 in
theorem gX5_restore_X5_recordNow : GoodIn wsX5_restore (wsV RX5 42 RX5 yX5_recordNow wsX5_recordNow) := goodIn_app (goodIn_of _ (by decide +kernel)) ggX5_restore_X5_recordNow
set_option maxRecDepth 20000 in
theorem ggX5_restore_X3_copyFrom : GoodIn wsX5_restore wsX3_copyFrom := goodIn_r _ [21, 22, 23, 24, 25, 26, 27, 28, 29, 30, 31, 32, 33, 34, 35, 36, 37, 38, 39, 40, 41, 42, 43, 44, 45, 46, 47, 48, 49, 50, 51, 52, 53, 54, 55, 56, 57, 58, 59, 60, 61, 62, 63, 64, 72, 73, 74, 75, 81, 82, 83, 76, 77, 78, 79, 80, 84, 85, 86, 87, 88, 89, 90, 91] (by decide +kernel) (by decide +kernel)
set_option maxRecDepth 20000 in
theorem gX5_restore_X3_copyFrom : GoodIn wsX5_restore (wsV RX5 138 RX3 yX3_copyFrom wsX3_copyFrom) := goodIn_app (goodIn_of _ (by decide +kernel)) ggX5_restore_X3_copyFrom
theorem dX5_restore_0 : decode cX5_restore 0 = .ok (.aload_n 0, 1) := by decide +kernel
theorem dX5_restore_1 : decode cX5_restore 1 = .ok (.getfield 19, 3) := by decide +kernel
theorem dX5_restore_4 : decode cX5_restore 4 = .ok (.ifCond .ne 6, 3) := by decide +kernel
theorem dX5_restore_7 : decode cX5_restore 7 = .ok (.bipush (-5), 2) := by decide +kernel
theorem dX5_restore_9 : decode cX5_restore 9 = .ok (.ireturn, 1) := by decide +kernel
theorem dX5_restore_10 : decode cX5_restore 10 = .ok (.aload_n 0, 1) := by decide +kernel
theorem dX5_restore_11 : decode cX5_restore 11 = .ok (.invokevirtual 42, 3) := by decide +kernel
theorem dX5_restore_14 : decode cX5_restore 14 = .ok (.aload_n 0, 1) := by decide +kernel
theorem dX5_restore_15 : decode cX5_restore 15 = .ok (.getfield 12, 3) := by decide +kernel
theorem dX5_restore_18 : decode cX5_restore 18 = .ok (.aload_n 0, 1) := by decide +kernel
theorem dX5_restore_19 : decode cX5_restore 19 = .ok (.getfield 16, 3) := by decide +kernel
theorem dX5_restore_22 : decode cX5_restore 22 = .ok (.invokevirtual 138, 3) := by decide +kernel
theorem dX5_restore_25 : decode cX5_restore 25 = .ok (.aload_n 0, 1) := by decide +kernel
theorem dX5_restore_26 : decode cX5_restore 26 = .ok (.getfield 12, 3) := by decide +kernel
theorem dX5_restore_29 : decode cX5_restore 29 = .ok (.getfield 55, 3) := by decide +kernel
theorem dX5_restore_32 : decode cX5_restore 32 = .ok (.getfield 84, 3) := by decide +kernel
theorem dX5_restore_35 : decode cX5_restore 35 = .ok (.ireturn, 1) := by decide +kernel
set_option maxRecDepth 20000 in
theorem ggX5_step_X0_hasState : GoodIn wsX5_step wsX0_hasState := goodIn_r _ [7, 8, 9, 10, 6, 11, 12, 49, 50, 51] (by decide +kernel) (by decide +kernel)
set_option maxRecDepth 20000 in
theorem gX5_step_X0_hasState : GoodIn wsX5_step (wsV RX5 142 RX0 yX0_hasState wsX0_hasState) := goodIn_app (goodIn_of _ (by decide +kernel)) ggX5_step_X0_hasState
set_option maxRecDepth 20000 in
theorem ggX5_step_X0_stateAfter : GoodIn wsX5_step wsX0_stateAfter := goodIn_r _ [16, 17, 18, 19, 6, 20, 12, 49, 50, 51] (by decide +kernel) (by decide +kernel)
set_option maxRecDepth 20000 in
theorem gX5_step_X0_stateAfter : GoodIn wsX5_step (wsV RX5 145 RX0 yX0_stateAfter wsX0_stateAfter) := goodIn_app (goodIn_of _ (by decide +kernel)) ggX5_step_X0_stateAfter
set_option maxRecDepth 20000 in
theorem ggX5_step_X0_symbolsOf : GoodIn wsX5_step wsX0_symbolsOf := goodIn_r _ [24, 25, 17, 18, 19, 6, 20, 12, 26, 27, 28, 29, 30, 31, 32, 33, 34, 35, 36, 37, 49, 50, 51] (by decide +kernel) (by decide +kernel)
set_option maxRecDepth 20000 in
theorem gX5_step_X0_symbolsOf : GoodIn wsX5_step (wsV RX5 149 RX0 yX0_symbolsOf wsX0_symbolsOf) := goodIn_app (goodIn_of _ (by decide +kernel)) ggX5_step_X0_symbolsOf
theorem dX5_step_0 : decode cX5_step 0 = .ok (.aload_n 0, 1) := by decide +kernel
theorem dX5_step_1 : decode cX5_step 1 = .ok (.getfield 12, 3) := by decide +kernel
theorem dX5_step_4 : decode cX5_step 4 = .ok (.getfield 45, 3) := by decide +kernel
theorem dX5_step_7 : decode cX5_step 7 = .ok (.iload_n 1, 1) := by decide +kernel
theorem dX5_step_8 : decode cX5_step 8 = .ok (.invokevirtual 142, 3) := by decide +kernel
theorem dX5_step_11 : decode cX5_step 11 = .ok (.ifCond .ne 5, 3) := by decide +kernel
theorem dX5_step_14 : decode cX5_step 14 = .ok (.iconst (-1), 1) := by decide +kernel
theorem dX5_step_15 : decode cX5_step 15 = .ok (.ireturn, 1) := by decide +kernel
theorem dX5_step_16 : decode cX5_step 16 = .ok (.iload_n 2, 1) := by decide +kernel
theorem dX5_step_17 : decode cX5_step 17 = .ok (.ifCond .lt 17, 3) := by decide +kernel
theorem dX5_step_20 : decode cX5_step 20 = .ok (.iload_n 2, 1) := by decide +kernel
theorem dX5_step_21 : decode cX5_step 21 = .ok (.iconst 1, 1) := by decide +kernel
theorem dX5_step_22 : decode cX5_step 22 = .ok (.if_icmp .gt 12, 3) := by decide +kernel
theorem dX5_step_25 : decode cX5_step 25 = .ok (.iload_n 3, 1) := by decide +kernel
theorem dX5_step_26 : decode cX5_step 26 = .ok (.ifCond .lt 8, 3) := by decide +kernel
theorem dX5_step_29 : decode cX5_step 29 = .ok (.iload_n 3, 1) := by decide +kernel
theorem dX5_step_30 : decode cX5_step 30 = .ok (.iconst 1, 1) := by decide +kernel
theorem dX5_step_31 : decode cX5_step 31 = .ok (.if_icmp .le 6, 3) := by decide +kernel
theorem dX5_step_34 : decode cX5_step 34 = .ok (.bipush (-2), 2) := by decide +kernel
theorem dX5_step_36 : decode cX5_step 36 = .ok (.ireturn, 1) := by decide +kernel
theorem dX5_step_37 : decode cX5_step 37 = .ok (.iload_n 3, 1) := by decide +kernel
theorem dX5_step_38 : decode cX5_step 38 = .ok (.ifCond .ne 18, 3) := by decide +kernel
theorem dX5_step_41 : decode cX5_step 41 = .ok (.aload_n 0, 1) := by decide +kernel
theorem dX5_step_42 : decode cX5_step 42 = .ok (.getfield 12, 3) := by decide +kernel
theorem dX5_step_45 : decode cX5_step 45 = .ok (.getfield 45, 3) := by decide +kernel
theorem dX5_step_48 : decode cX5_step 48 = .ok (.iload_n 1, 1) := by decide +kernel
theorem dX5_step_49 : decode cX5_step 49 = .ok (.iload_n 2, 1) := by decide +kernel
theorem dX5_step_50 : decode cX5_step 50 = .ok (.invokevirtual 145, 3) := by decide +kernel
theorem dX5_step_53 : decode cX5_step 53 = .ok (.goto 15, 3) := by decide +kernel
theorem dX5_step_56 : decode cX5_step 56 = .ok (.aload_n 0, 1) := by decide +kernel
theorem dX5_step_57 : decode cX5_step 57 = .ok (.getfield 12, 3) := by decide +kernel
theorem dX5_step_60 : decode cX5_step 60 = .ok (.getfield 45, 3) := by decide +kernel
theorem dX5_step_63 : decode cX5_step 63 = .ok (.iload_n 1, 1) := by decide +kernel
theorem dX5_step_64 : decode cX5_step 64 = .ok (.iload_n 2, 1) := by decide +kernel
theorem dX5_step_65 : decode cX5_step 65 = .ok (.invokevirtual 149, 3) := by decide +kernel
theorem dX5_step_68 : decode cX5_step 68 = .ok (.ireturn, 1) := by decide +kernel
set_option maxRecDepth 20000 in
theorem ggX5_line_X5_isOnLine : GoodIn wsX5_line wsX5_isOnLine := goodIn_r _ [9, 10, 11, 12, 8, 13, 1, 2, 14, 15, 16, 23, 24, 25, 26, 27, 28, 29, 30, 31, 32, 33, 34, 35, 36, 37, 38, 39, 40, 41] (by decide +kernel) (by decide +kernel)
set_option maxRecDepth 20000 in
theorem gX5_line_X5_isOnLine : GoodIn wsX5_line (wsV RX5 100 RX5 yX5_isOnLine wsX5_isOnLine) := goodIn_app (goodIn_of _ (by decide +kernel)) ggX5_line_X5_isOnLine
set_option maxRecDepth 20000 in
theorem ggX5_line_X5_isTaken : GoodIn wsX5_line wsX5_isTaken := goodIn_r _ [20, 1, 21, 22, 15, 16, 23, 24, 25, 26, 27, 28, 29, 30, 31, 32, 33, 42, 43, 44, 45, 46, 47, 48, 49, 39, 40, 41] (by decide +kernel) (by decide +kernel)
set_option maxRecDepth 20000 in
theorem gX5_line_X5_isTaken : GoodIn wsX5_line (wsV RX5 107 RX5 yX5_isTaken wsX5_isTaken) := goodIn_app (goodIn_of _ (by decide +kernel)) ggX5_line_X5_isTaken
theorem dX5_line_0 : decode cX5_line 0 = .ok (.aload_n 0, 1) := by decide +kernel
theorem dX5_line_1 : decode cX5_line 1 = .ok (.iload_n 1, 1) := by decide +kernel
theorem dX5_line_2 : decode cX5_line 2 = .ok (.invokevirtual 100, 3) := by decide +kernel
theorem dX5_line_5 : decode cX5_line 5 = .ok (.ifCond .ne 5, 3) := by decide +kernel
theorem dX5_line_8 : decode cX5_line 8 = .ok (.iconst (-1), 1) := by decide +kernel
theorem dX5_line_9 : decode cX5_line 9 = .ok (.ireturn, 1) := by decide +kernel
theorem dX5_line_10 : decode cX5_line 10 = .ok (.iload_n 2, 1) := by decide +kernel
theorem dX5_line_11 : decode cX5_line 11 = .ok (.tableswitch 65 0 2 #[25, 38, 51], 25) := by decide +kernel
theorem dX5_line_36 : decode cX5_line 36 = .ok (.aload_n 0, 1) := by decide +kernel
theorem dX5_line_37 : decode cX5_line 37 = .ok (.getfield 12, 3) := by decide +kernel
theorem dX5_line_40 : decode cX5_line 40 = .ok (.getfield 55, 3) := by decide +kernel
theorem dX5_line_43 : decode cX5_line 43 = .ok (.getfield 104, 3) := by decide +kernel
theorem dX5_line_46 : decode cX5_line 46 = .ok (.iload_n 1, 1) := by decide +kernel
theorem dX5_line_47 : decode cX5_line 47 = .ok (.iaload, 1) := by decide +kernel
theorem dX5_line_48 : decode cX5_line 48 = .ok (.ireturn, 1) := by decide +kernel
theorem dX5_line_49 : decode cX5_line 49 = .ok (.aload_n 0, 1) := by decide +kernel
theorem dX5_line_50 : decode cX5_line 50 = .ok (.getfield 12, 3) := by decide +kernel
theorem dX5_line_53 : decode cX5_line 53 = .ok (.getfield 55, 3) := by decide +kernel
theorem dX5_line_56 : decode cX5_line 56 = .ok (.getfield 152, 3) := by decide +kernel
theorem dX5_line_59 : decode cX5_line 59 = .ok (.iload_n 1, 1) := by decide +kernel
theorem dX5_line_60 : decode cX5_line 60 = .ok (.iaload, 1) := by decide +kernel
theorem dX5_line_61 : decode cX5_line 61 = .ok (.ireturn, 1) := by decide +kernel
theorem dX5_line_62 : decode cX5_line 62 = .ok (.aload_n 0, 1) := by decide +kernel
theorem dX5_line_63 : decode cX5_line 63 = .ok (.iload_n 1, 1) := by decide +kernel
theorem dX5_line_64 : decode cX5_line 64 = .ok (.invokevirtual 107, 3) := by decide +kernel
theorem dX5_line_67 : decode cX5_line 67 = .ok (.ifCond .eq 7, 3) := by decide +kernel
theorem dX5_line_70 : decode cX5_line 70 = .ok (.iconst 1, 1) := by decide +kernel
theorem dX5_line_71 : decode cX5_line 71 = .ok (.goto 4, 3) := by decide +kernel
theorem dX5_line_74 : decode cX5_line 74 = .ok (.iconst 0, 1) := by decide +kernel
theorem dX5_line_75 : decode cX5_line 75 = .ok (.ireturn, 1) := by decide +kernel
theorem dX5_line_76 : decode cX5_line 76 = .ok (.bipush (-2), 2) := by decide +kernel
theorem dX5_line_78 : decode cX5_line 78 = .ok (.ireturn, 1) := by decide +kernel
theorem dX5_sent_0 : decode cX5_sent 0 = .ok (.iload_n 1, 1) := by decide +kernel
theorem dX5_sent_1 : decode cX5_sent 1 = .ok (.ifCond .lt 17, 3) := by decide +kernel
theorem dX5_sent_4 : decode cX5_sent 4 = .ok (.iload_n 1, 1) := by decide +kernel
theorem dX5_sent_5 : decode cX5_sent 5 = .ok (.aload_n 0, 1) := by decide +kernel
theorem dX5_sent_6 : decode cX5_sent 6 = .ok (.getfield 12, 3) := by decide +kernel
theorem dX5_sent_9 : decode cX5_sent 9 = .ok (.getfield 55, 3) := by decide +kernel
theorem dX5_sent_12 : decode cX5_sent 12 = .ok (.getfield 84, 3) := by decide +kernel
theorem dX5_sent_15 : decode cX5_sent 15 = .ok (.if_icmp .lt 5, 3) := by decide +kernel
theorem dX5_sent_18 : decode cX5_sent 18 = .ok (.iconst (-1), 1) := by decide +kernel
theorem dX5_sent_19 : decode cX5_sent 19 = .ok (.ireturn, 1) := by decide +kernel
theorem dX5_sent_20 : decode cX5_sent 20 = .ok (.aload_n 0, 1) := by decide +kernel
theorem dX5_sent_21 : decode cX5_sent 21 = .ok (.getfield 12, 3) := by decide +kernel
theorem dX5_sent_24 : decode cX5_sent 24 = .ok (.getfield 55, 3) := by decide +kernel
theorem dX5_sent_27 : decode cX5_sent 27 = .ok (.getfield 155, 3) := by decide +kernel
theorem dX5_sent_30 : decode cX5_sent 30 = .ok (.iload_n 1, 1) := by decide +kernel
theorem dX5_sent_31 : decode cX5_sent 31 = .ok (.iaload, 1) := by decide +kernel
theorem dX5_sent_32 : decode cX5_sent 32 = .ok (.ireturn, 1) := by decide +kernel
theorem dX5_released_0 : decode cX5_released 0 = .ok (.iload_n 1, 1) := by decide +kernel
theorem dX5_released_1 : decode cX5_released 1 = .ok (.ifCond .lt 17, 3) := by decide +kernel
theorem dX5_released_4 : decode cX5_released 4 = .ok (.iload_n 1, 1) := by decide +kernel
theorem dX5_released_5 : decode cX5_released 5 = .ok (.aload_n 0, 1) := by decide +kernel
theorem dX5_released_6 : decode cX5_released 6 = .ok (.getfield 12, 3) := by decide +kernel
theorem dX5_released_9 : decode cX5_released 9 = .ok (.getfield 64, 3) := by decide +kernel
theorem dX5_released_12 : decode cX5_released 12 = .ok (.getfield 120, 3) := by decide +kernel
theorem dX5_released_15 : decode cX5_released 15 = .ok (.if_icmp .lt 5, 3) := by decide +kernel
theorem dX5_released_18 : decode cX5_released 18 = .ok (.iconst (-1), 1) := by decide +kernel
theorem dX5_released_19 : decode cX5_released 19 = .ok (.ireturn, 1) := by decide +kernel
theorem dX5_released_20 : decode cX5_released 20 = .ok (.aload_n 0, 1) := by decide +kernel
theorem dX5_released_21 : decode cX5_released 21 = .ok (.getfield 12, 3) := by decide +kernel
theorem dX5_released_24 : decode cX5_released 24 = .ok (.getfield 64, 3) := by decide +kernel
theorem dX5_released_27 : decode cX5_released 27 = .ok (.getfield 158, 3) := by decide +kernel
theorem dX5_released_30 : decode cX5_released 30 = .ok (.iload_n 1, 1) := by decide +kernel
theorem dX5_released_31 : decode cX5_released 31 = .ok (.iaload, 1) := by decide +kernel
theorem dX5_released_32 : decode cX5_released 32 = .ok (.ireturn, 1) := by decide +kernel
set_option maxRecDepth 20000 in
theorem ggX5_metric_X0_hasState : GoodIn wsX5_metric wsX0_hasState := goodIn_r _ [9, 10, 11, 12, 8, 13, 14, 34, 35, 36] (by decide +kernel) (by decide +kernel)
set_option maxRecDepth 20000 in
theorem gX5_metric_X0_hasState : GoodIn wsX5_metric (wsV RX5 142 RX0 yX0_hasState wsX0_hasState) := goodIn_app (goodIn_of _ (by decide +kernel)) ggX5_metric_X0_hasState
theorem dX5_metric_0 : decode cX5_metric 0 = .ok (.aload_n 0, 1) := by decide +kernel
theorem dX5_metric_1 : decode cX5_metric 1 = .ok (.getfield 12, 3) := by decide +kernel
theorem dX5_metric_4 : decode cX5_metric 4 = .ok (.getfield 45, 3) := by decide +kernel
theorem dX5_metric_7 : decode cX5_metric 7 = .ok (.iload_n 1, 1) := by decide +kernel
theorem dX5_metric_8 : decode cX5_metric 8 = .ok (.invokevirtual 142, 3) := by decide +kernel
theorem dX5_metric_11 : decode cX5_metric 11 = .ok (.ifCond .ne 5, 3) := by decide +kernel
theorem dX5_metric_14 : decode cX5_metric 14 = .ok (.iconst (-1), 1) := by decide +kernel
theorem dX5_metric_15 : decode cX5_metric 15 = .ok (.ireturn, 1) := by decide +kernel
theorem dX5_metric_16 : decode cX5_metric 16 = .ok (.aload_n 0, 1) := by decide +kernel
theorem dX5_metric_17 : decode cX5_metric 17 = .ok (.getfield 12, 3) := by decide +kernel
theorem dX5_metric_20 : decode cX5_metric 20 = .ok (.getfield 64, 3) := by decide +kernel
theorem dX5_metric_23 : decode cX5_metric 23 = .ok (.getfield 123, 3) := by decide +kernel
theorem dX5_metric_26 : decode cX5_metric 26 = .ok (.iload_n 1, 1) := by decide +kernel
theorem dX5_metric_27 : decode cX5_metric 27 = .ok (.iaload, 1) := by decide +kernel
theorem dX5_metric_28 : decode cX5_metric 28 = .ok (.istore_n 2, 1) := by decide +kernel
theorem dX5_metric_29 : decode cX5_metric 29 = .ok (.iload_n 2, 1) := by decide +kernel
theorem dX5_metric_30 : decode cX5_metric 30 = .ok (.iconst (-1), 1) := by decide +kernel
theorem dX5_metric_31 : decode cX5_metric 31 = .ok (.if_icmp .ne 8, 3) := by decide +kernel
theorem dX5_metric_34 : decode cX5_metric 34 = .ok (.bipush (-5), 2) := by decide +kernel
theorem dX5_metric_36 : decode cX5_metric 36 = .ok (.goto 4, 3) := by decide +kernel
theorem dX5_metric_39 : decode cX5_metric 39 = .ok (.iload_n 2, 1) := by decide +kernel
theorem dX5_metric_40 : decode cX5_metric 40 = .ok (.ireturn, 1) := by decide +kernel
set_option maxRecDepth 20000 in
theorem ggX5_survivor_X0_hasState : GoodIn wsX5_survivor wsX0_hasState := goodIn_r _ [10, 11, 12, 13, 9, 14, 15, 54, 55, 56] (by decide +kernel) (by decide +kernel)
set_option maxRecDepth 20000 in
theorem gX5_survivor_X0_hasState : GoodIn wsX5_survivor (wsV RX5 142 RX0 yX0_hasState wsX0_hasState) := goodIn_app (goodIn_of _ (by decide +kernel)) ggX5_survivor_X0_hasState
set_option maxRecDepth 20000 in
theorem ggX5_survivor_X1_survivorBit : GoodIn wsX5_survivor wsX1_survivorBit := goodIn_r _ [20, 21, 22, 23, 24, 19, 25, 26, 27, 28, 29, 9, 30, 11, 12, 13, 14, 15, 31, 32, 33, 34, 46, 47, 48, 49, 50, 51, 52, 53, 54, 55, 56] (by decide +kernel) (by decide +kernel)
set_option maxRecDepth 20000 in
theorem gX5_survivor_X1_survivorBit : GoodIn wsX5_survivor (wsV RX5 161 RX1 yX1_survivorBit wsX1_survivorBit) := goodIn_app (goodIn_of _ (by decide +kernel)) ggX5_survivor_X1_survivorBit
theorem dX5_survivor_0 : decode cX5_survivor 0 = .ok (.aload_n 0, 1) := by decide +kernel
theorem dX5_survivor_1 : decode cX5_survivor 1 = .ok (.getfield 12, 3) := by decide +kernel
theorem dX5_survivor_4 : decode cX5_survivor 4 = .ok (.getfield 45, 3) := by decide +kernel
theorem dX5_survivor_7 : decode cX5_survivor 7 = .ok (.iload_n 1, 1) := by decide +kernel
theorem dX5_survivor_8 : decode cX5_survivor 8 = .ok (.invokevirtual 142, 3) := by decide +kernel
theorem dX5_survivor_11 : decode cX5_survivor 11 = .ok (.ifCond .ne 5, 3) := by decide +kernel
theorem dX5_survivor_14 : decode cX5_survivor 14 = .ok (.iconst (-1), 1) := by decide +kernel
theorem dX5_survivor_15 : decode cX5_survivor 15 = .ok (.ireturn, 1) := by decide +kernel
theorem dX5_survivor_16 : decode cX5_survivor 16 = .ok (.iload_n 2, 1) := by decide +kernel
theorem dX5_survivor_17 : decode cX5_survivor 17 = .ok (.ifCond .ge 6, 3) := by decide +kernel
theorem dX5_survivor_20 : decode cX5_survivor 20 = .ok (.bipush (-2), 2) := by decide +kernel
theorem dX5_survivor_22 : decode cX5_survivor 22 = .ok (.ireturn, 1) := by decide +kernel
theorem dX5_survivor_23 : decode cX5_survivor 23 = .ok (.aload_n 0, 1) := by decide +kernel
theorem dX5_survivor_24 : decode cX5_survivor 24 = .ok (.getfield 12, 3) := by decide +kernel
theorem dX5_survivor_27 : decode cX5_survivor 27 = .ok (.getfield 64, 3) := by decide +kernel
theorem dX5_survivor_30 : decode cX5_survivor 30 = .ok (.getfield 123, 3) := by decide +kernel
theorem dX5_survivor_33 : decode cX5_survivor 33 = .ok (.iload_n 1, 1) := by decide +kernel
theorem dX5_survivor_34 : decode cX5_survivor 34 = .ok (.iaload, 1) := by decide +kernel
theorem dX5_survivor_35 : decode cX5_survivor 35 = .ok (.iconst (-1), 1) := by decide +kernel
theorem dX5_survivor_36 : decode cX5_survivor 36 = .ok (.if_icmp .eq 17, 3) := by decide +kernel
theorem dX5_survivor_39 : decode cX5_survivor 39 = .ok (.iload_n 2, 1) := by decide +kernel
theorem dX5_survivor_40 : decode cX5_survivor 40 = .ok (.aload_n 0, 1) := by decide +kernel
theorem dX5_survivor_41 : decode cX5_survivor 41 = .ok (.getfield 12, 3) := by decide +kernel
theorem dX5_survivor_44 : decode cX5_survivor 44 = .ok (.getfield 64, 3) := by decide +kernel
theorem dX5_survivor_47 : decode cX5_survivor 47 = .ok (.getfield 74, 3) := by decide +kernel
theorem dX5_survivor_50 : decode cX5_survivor 50 = .ok (.if_icmp .lt 6, 3) := by decide +kernel
theorem dX5_survivor_53 : decode cX5_survivor 53 = .ok (.bipush (-5), 2) := by decide +kernel
theorem dX5_survivor_55 : decode cX5_survivor 55 = .ok (.ireturn, 1) := by decide +kernel
theorem dX5_survivor_56 : decode cX5_survivor 56 = .ok (.aload_n 0, 1) := by decide +kernel
theorem dX5_survivor_57 : decode cX5_survivor 57 = .ok (.getfield 12, 3) := by decide +kernel
theorem dX5_survivor_60 : decode cX5_survivor 60 = .ok (.getfield 64, 3) := by decide +kernel
theorem dX5_survivor_63 : decode cX5_survivor 63 = .ok (.aload_n 0, 1) := by decide +kernel
theorem dX5_survivor_64 : decode cX5_survivor 64 = .ok (.getfield 12, 3) := by decide +kernel
theorem dX5_survivor_67 : decode cX5_survivor 67 = .ok (.getfield 45, 3) := by decide +kernel
theorem dX5_survivor_70 : decode cX5_survivor 70 = .ok (.iload_n 1, 1) := by decide +kernel
theorem dX5_survivor_71 : decode cX5_survivor 71 = .ok (.iload_n 2, 1) := by decide +kernel
theorem dX5_survivor_72 : decode cX5_survivor 72 = .ok (.invokevirtual 161, 3) := by decide +kernel
theorem dX5_survivor_75 : decode cX5_survivor 75 = .ok (.ireturn, 1) := by decide +kernel
set_option maxRecDepth 20000 in
theorem ggX5_agreed_X1_commonBits : GoodIn wsX5_agreed wsX1_commonBits := goodIn_r _ [8, 9, 10, 11, 12, 13, 14, 15, 16, 17, 18, 7, 19, 20, 21, 22, 23, 24, 25, 26, 27, 28, 29, 30, 31, 32, 33, 34, 46, 47, 48, 49, 50, 51, 52, 53, 54, 55, 56] (by decide +kernel) (by decide +kernel)
set_option maxRecDepth 20000 in
theorem gX5_agreed_X1_commonBits : GoodIn wsX5_agreed (wsV RX5 165 RX1 yX1_commonBits wsX1_commonBits) := goodIn_app (goodIn_of _ (by decide +kernel)) ggX5_agreed_X1_commonBits
theorem dX5_agreed_0 : decode cX5_agreed 0 = .ok (.aload_n 0, 1) := by decide +kernel
theorem dX5_agreed_1 : decode cX5_agreed 1 = .ok (.getfield 12, 3) := by decide +kernel
theorem dX5_agreed_4 : decode cX5_agreed 4 = .ok (.getfield 64, 3) := by decide +kernel
theorem dX5_agreed_7 : decode cX5_agreed 7 = .ok (.aload_n 0, 1) := by decide +kernel
theorem dX5_agreed_8 : decode cX5_agreed 8 = .ok (.getfield 12, 3) := by decide +kernel
theorem dX5_agreed_11 : decode cX5_agreed 11 = .ok (.getfield 45, 3) := by decide +kernel
theorem dX5_agreed_14 : decode cX5_agreed 14 = .ok (.invokevirtual 165, 3) := by decide +kernel
theorem dX5_agreed_17 : decode cX5_agreed 17 = .ok (.ireturn, 1) := by decide +kernel
set_option maxRecDepth 20000 in
theorem ggX5_freeDistance_X0_leastReturn : GoodIn wsX5_freeDistance wsX0_leastReturn := goodIn_r _ [8, 9, 10, 11, 7, 12, 13, 14, 15, 16, 17, 18, 19, 20, 21, 22, 23, 24, 25, 26, 27, 28, 29, 30, 31, 32, 33, 34, 35, 36, 37, 38, 39, 40, 41, 42, 43, 44, 45, 46, 47, 48, 49, 50, 62, 63, 64] (by decide +kernel) (by decide +kernel)
set_option maxRecDepth 20000 in
theorem gX5_freeDistance_X0_leastReturn : GoodIn wsX5_freeDistance (wsV RX5 168 RX0 yX0_leastReturn wsX0_leastReturn) := goodIn_app (goodIn_of _ (by decide +kernel)) ggX5_freeDistance_X0_leastReturn
theorem dX5_freeDistance_0 : decode cX5_freeDistance 0 = .ok (.aload_n 0, 1) := by decide +kernel
theorem dX5_freeDistance_1 : decode cX5_freeDistance 1 = .ok (.getfield 12, 3) := by decide +kernel
theorem dX5_freeDistance_4 : decode cX5_freeDistance 4 = .ok (.getfield 45, 3) := by decide +kernel
theorem dX5_freeDistance_7 : decode cX5_freeDistance 7 = .ok (.aload_n 0, 1) := by decide +kernel
theorem dX5_freeDistance_8 : decode cX5_freeDistance 8 = .ok (.getfield 38, 3) := by decide +kernel
theorem dX5_freeDistance_11 : decode cX5_freeDistance 11 = .ok (.invokevirtual 168, 3) := by decide +kernel
theorem dX5_freeDistance_14 : decode cX5_freeDistance 14 = .ok (.istore_n 1, 1) := by decide +kernel
theorem dX5_freeDistance_15 : decode cX5_freeDistance 15 = .ok (.iload_n 1, 1) := by decide +kernel
theorem dX5_freeDistance_16 : decode cX5_freeDistance 16 = .ok (.iconst (-1), 1) := by decide +kernel
theorem dX5_freeDistance_17 : decode cX5_freeDistance 17 = .ok (.if_icmp .eq 9, 3) := by decide +kernel
theorem dX5_freeDistance_20 : decode cX5_freeDistance 20 = .ok (.iload_n 1, 1) := by decide +kernel
theorem dX5_freeDistance_21 : decode cX5_freeDistance 21 = .ok (.bipush 40, 2) := by decide +kernel
theorem dX5_freeDistance_23 : decode cX5_freeDistance 23 = .ok (.if_icmp .le 8, 3) := by decide +kernel
theorem dX5_freeDistance_26 : decode cX5_freeDistance 26 = .ok (.bipush (-5), 2) := by decide +kernel
theorem dX5_freeDistance_28 : decode cX5_freeDistance 28 = .ok (.goto 4, 3) := by decide +kernel
theorem dX5_freeDistance_31 : decode cX5_freeDistance 31 = .ok (.iload_n 1, 1) := by decide +kernel
theorem dX5_freeDistance_32 : decode cX5_freeDistance 32 = .ok (.ireturn, 1) := by decide +kernel
set_option maxRecDepth 20000 in
theorem ggX5_hasIdleRing_X0_hasRingOfZeros : GoodIn wsX5_hasIdleRing wsX0_hasRingOfZeros := goodIn_r _ [7, 8, 9, 10, 11, 6, 12, 13, 14, 15, 16, 17, 18, 19, 20, 21, 22, 23, 24, 25, 26, 27, 28, 29, 30, 31, 32, 33, 34, 35, 36, 37, 38, 39, 40, 41, 42, 54, 55, 56] (by decide +kernel) (by decide +kernel)
set_option maxRecDepth 20000 in
theorem gX5_hasIdleRing_X0_hasRingOfZeros : GoodIn wsX5_hasIdleRing (wsV RX5 172 RX0 yX0_hasRingOfZeros wsX0_hasRingOfZeros) := goodIn_app (goodIn_of _ (by decide +kernel)) ggX5_hasIdleRing_X0_hasRingOfZeros
theorem dX5_hasIdleRing_0 : decode cX5_hasIdleRing 0 = .ok (.aload_n 0, 1) := by decide +kernel
theorem dX5_hasIdleRing_1 : decode cX5_hasIdleRing 1 = .ok (.getfield 12, 3) := by decide +kernel
theorem dX5_hasIdleRing_4 : decode cX5_hasIdleRing 4 = .ok (.getfield 45, 3) := by decide +kernel
theorem dX5_hasIdleRing_7 : decode cX5_hasIdleRing 7 = .ok (.invokevirtual 172, 3) := by decide +kernel
theorem dX5_hasIdleRing_10 : decode cX5_hasIdleRing 10 = .ok (.ifCond .eq 7, 3) := by decide +kernel
theorem dX5_hasIdleRing_13 : decode cX5_hasIdleRing 13 = .ok (.iconst 1, 1) := by decide +kernel
theorem dX5_hasIdleRing_14 : decode cX5_hasIdleRing 14 = .ok (.goto 4, 3) := by decide +kernel
theorem dX5_hasIdleRing_17 : decode cX5_hasIdleRing 17 = .ok (.iconst 0, 1) := by decide +kernel
theorem dX5_hasIdleRing_18 : decode cX5_hasIdleRing 18 = .ok (.ireturn, 1) := by decide +kernel
theorem dX5_wrongBits_0 : decode cX5_wrongBits 0 = .ok (.aload_n 0, 1) := by decide +kernel
theorem dX5_wrongBits_1 : decode cX5_wrongBits 1 = .ok (.getfield 12, 3) := by decide +kernel
theorem dX5_wrongBits_4 : decode cX5_wrongBits 4 = .ok (.getfield 64, 3) := by decide +kernel
theorem dX5_wrongBits_7 : decode cX5_wrongBits 7 = .ok (.getfield 120, 3) := by decide +kernel
theorem dX5_wrongBits_10 : decode cX5_wrongBits 10 = .ok (.aload_n 0, 1) := by decide +kernel
theorem dX5_wrongBits_11 : decode cX5_wrongBits 11 = .ok (.getfield 12, 3) := by decide +kernel
theorem dX5_wrongBits_14 : decode cX5_wrongBits 14 = .ok (.getfield 55, 3) := by decide +kernel
theorem dX5_wrongBits_17 : decode cX5_wrongBits 17 = .ok (.getfield 84, 3) := by decide +kernel
theorem dX5_wrongBits_20 : decode cX5_wrongBits 20 = .ok (.invokestatic 176, 3) := by decide +kernel
theorem dX5_wrongBits_23 : decode cX5_wrongBits 23 = .ok (.istore_n 1, 1) := by decide +kernel
theorem dX5_wrongBits_24 : decode cX5_wrongBits 24 = .ok (.iconst 0, 1) := by decide +kernel
theorem dX5_wrongBits_25 : decode cX5_wrongBits 25 = .ok (.istore_n 2, 1) := by decide +kernel
theorem dX5_wrongBits_26 : decode cX5_wrongBits 26 = .ok (.iconst 0, 1) := by decide +kernel
theorem dX5_wrongBits_27 : decode cX5_wrongBits 27 = .ok (.istore_n 3, 1) := by decide +kernel
theorem dX5_wrongBits_28 : decode cX5_wrongBits 28 = .ok (.iload_n 3, 1) := by decide +kernel
theorem dX5_wrongBits_29 : decode cX5_wrongBits 29 = .ok (.iload_n 1, 1) := by decide +kernel
theorem dX5_wrongBits_30 : decode cX5_wrongBits 30 = .ok (.if_icmp .ge 39, 3) := by decide +kernel
theorem dX5_wrongBits_33 : decode cX5_wrongBits 33 = .ok (.aload_n 0, 1) := by decide +kernel
theorem dX5_wrongBits_34 : decode cX5_wrongBits 34 = .ok (.getfield 12, 3) := by decide +kernel
theorem dX5_wrongBits_37 : decode cX5_wrongBits 37 = .ok (.getfield 64, 3) := by decide +kernel
theorem dX5_wrongBits_40 : decode cX5_wrongBits 40 = .ok (.getfield 158, 3) := by decide +kernel
theorem dX5_wrongBits_43 : decode cX5_wrongBits 43 = .ok (.iload_n 3, 1) := by decide +kernel
theorem dX5_wrongBits_44 : decode cX5_wrongBits 44 = .ok (.iaload, 1) := by decide +kernel
theorem dX5_wrongBits_45 : decode cX5_wrongBits 45 = .ok (.aload_n 0, 1) := by decide +kernel
theorem dX5_wrongBits_46 : decode cX5_wrongBits 46 = .ok (.getfield 12, 3) := by decide +kernel
theorem dX5_wrongBits_49 : decode cX5_wrongBits 49 = .ok (.getfield 55, 3) := by decide +kernel
theorem dX5_wrongBits_52 : decode cX5_wrongBits 52 = .ok (.getfield 155, 3) := by decide +kernel
theorem dX5_wrongBits_55 : decode cX5_wrongBits 55 = .ok (.iload_n 3, 1) := by decide +kernel
theorem dX5_wrongBits_56 : decode cX5_wrongBits 56 = .ok (.iaload, 1) := by decide +kernel
theorem dX5_wrongBits_57 : decode cX5_wrongBits 57 = .ok (.if_icmp .eq 6, 3) := by decide +kernel
theorem dX5_wrongBits_60 : decode cX5_wrongBits 60 = .ok (.iinc 2 1, 3) := by decide +kernel
theorem dX5_wrongBits_63 : decode cX5_wrongBits 63 = .ok (.iinc 3 1, 3) := by decide +kernel
theorem dX5_wrongBits_66 : decode cX5_wrongBits 66 = .ok (.goto (-38), 3) := by decide +kernel
theorem dX5_wrongBits_69 : decode cX5_wrongBits 69 = .ok (.iload_n 2, 1) := by decide +kernel
theorem dX5_wrongBits_70 : decode cX5_wrongBits 70 = .ok (.ireturn, 1) := by decide +kernel
set_option maxRecDepth 20000 in
theorem ggX5_count_X5_lineLength : GoodIn wsX5_count wsX5_lineLength := goodIn_r _ [22, 1, 7, 8, 2, 4, 60, 61, 62, 63, 64, 65, 66, 67, 68, 69, 70, 74, 75, 76, 77, 78, 71, 72, 73] (by decide +kernel) (by decide +kernel)
set_option maxRecDepth 20000 in
theorem gX5_count_X5_lineLength : GoodIn wsX5_count (wsV RX5 184 RX5 yX5_lineLength wsX5_lineLength) := goodIn_app (goodIn_of _ (by decide +kernel)) ggX5_count_X5_lineLength
set_option maxRecDepth 20000 in
theorem ggX5_count_X5_erasedSymbols : GoodIn wsX5_count wsX5_erasedSymbols := goodIn_r _ [26, 1, 7, 27, 18, 19, 20, 21, 22, 8, 2, 4, 60, 61, 62, 63, 64, 65, 66, 67, 68, 69, 70, 74, 75, 76, 77, 78, 71, 72, 73] (by decide +kernel) (by decide +kernel)
set_option maxRecDepth 20000 in
theorem gX5_count_X5_erasedSymbols : GoodIn wsX5_count (wsV RX5 191 RX5 yX5_erasedSymbols wsX5_erasedSymbols) := goodIn_app (goodIn_of _ (by decide +kernel)) ggX5_count_X5_erasedSymbols
set_option maxRecDepth 20000 in
theorem ggX5_count_X5_flippedSymbols : GoodIn wsX5_count wsX5_flippedSymbols := goodIn_r _ [31, 1, 7, 27, 32, 18, 19, 20, 21, 22, 8, 2, 4, 60, 61, 62, 63, 64, 65, 66, 67, 68, 69, 70, 74, 75, 76, 77, 78, 71, 72, 73] (by decide +kernel) (by decide +kernel)
set_option maxRecDepth 20000 in
theorem gX5_count_X5_flippedSymbols : GoodIn wsX5_count (wsV RX5 194 RX5 yX5_flippedSymbols wsX5_flippedSymbols) := goodIn_app (goodIn_of _ (by decide +kernel)) ggX5_count_X5_flippedSymbols
set_option maxRecDepth 20000 in
theorem ggX5_count_X1_bestState : GoodIn wsX5_count wsX1_bestState := goodIn_r _ [37, 38, 39, 40, 41, 42, 43, 44, 79, 80, 81, 82, 83, 84, 85, 86, 71, 72, 73] (by decide +kernel) (by decide +kernel)
set_option maxRecDepth 20000 in
theorem gX5_count_X1_bestState : GoodIn wsX5_count (wsV RX5 126 RX1 yX1_bestState wsX1_bestState) := goodIn_app (goodIn_of _ (by decide +kernel)) ggX5_count_X1_bestState
set_option maxRecDepth 20000 in
theorem ggX5_count_X1_reachedStates : GoodIn wsX5_count wsX1_reachedStates := goodIn_r _ [48, 49, 50, 51, 36, 52, 38, 39, 40, 41, 42, 43, 44, 53, 54, 55, 56, 57, 58, 59, 79, 80, 81, 82, 83, 84, 85, 86, 71, 72, 73] (by decide +kernel) (by decide +kernel)
set_option maxRecDepth 20000 in
theorem gX5_count_X1_reachedStates : GoodIn wsX5_count (wsV RX5 197 RX1 yX1_reachedStates wsX1_reachedStates) := goodIn_app (goodIn_of _ (by decide +kernel)) ggX5_count_X1_reachedStates
theorem dX5_count_0 : decode cX5_count 0 = .ok (.iload_n 1, 1) := by decide +kernel
theorem dX5_count_1 : decode cX5_count 1 = .ok (.tableswitch 324 0 18 #[91, 102, 113, 113, 128, 160, 168, 179, 184, 195, 200, 205, 216, 227, 245, 274, 292, 311, 316], 91) := by decide +kernel
theorem dX5_count_92 : decode cX5_count 92 = .ok (.aload_n 0, 1) := by decide +kernel
theorem dX5_count_93 : decode cX5_count 93 = .ok (.getfield 12, 3) := by decide +kernel
theorem dX5_count_96 : decode cX5_count 96 = .ok (.getfield 45, 3) := by decide +kernel
theorem dX5_count_99 : decode cX5_count 99 = .ok (.getfield 97, 3) := by decide +kernel
theorem dX5_count_102 : decode cX5_count 102 = .ok (.ireturn, 1) := by decide +kernel
theorem dX5_count_103 : decode cX5_count 103 = .ok (.aload_n 0, 1) := by decide +kernel
theorem dX5_count_104 : decode cX5_count 104 = .ok (.getfield 12, 3) := by decide +kernel
theorem dX5_count_107 : decode cX5_count 107 = .ok (.getfield 45, 3) := by decide +kernel
theorem dX5_count_110 : decode cX5_count 110 = .ok (.getfield 71, 3) := by decide +kernel
theorem dX5_count_113 : decode cX5_count 113 = .ok (.ireturn, 1) := by decide +kernel
theorem dX5_count_114 : decode cX5_count 114 = .ok (.aload_n 0, 1) := by decide +kernel
theorem dX5_count_115 : decode cX5_count 115 = .ok (.getfield 12, 3) := by decide +kernel
theorem dX5_count_118 : decode cX5_count 118 = .ok (.getfield 45, 3) := by decide +kernel
theorem dX5_count_121 : decode cX5_count 121 = .ok (.getfield 181, 3) := by decide +kernel
theorem dX5_count_124 : decode cX5_count 124 = .ok (.iload_n 1, 1) := by decide +kernel
theorem dX5_count_125 : decode cX5_count 125 = .ok (.iconst 2, 1) := by decide +kernel
theorem dX5_count_126 : decode cX5_count 126 = .ok (.isub, 1) := by decide +kernel
theorem dX5_count_127 : decode cX5_count 127 = .ok (.iaload, 1) := by decide +kernel
theorem dX5_count_128 : decode cX5_count 128 = .ok (.ireturn, 1) := by decide +kernel
theorem dX5_count_129 : decode cX5_count 129 = .ok (.aload_n 0, 1) := by decide +kernel
theorem dX5_count_130 : decode cX5_count 130 = .ok (.getfield 12, 3) := by decide +kernel
theorem dX5_count_133 : decode cX5_count 133 = .ok (.getfield 45, 3) := by decide +kernel
theorem dX5_count_136 : decode cX5_count 136 = .ok (.getfield 71, 3) := by decide +kernel
theorem dX5_count_139 : decode cX5_count 139 = .ok (.iconst 3, 1) := by decide +kernel
theorem dX5_count_140 : decode cX5_count 140 = .ok (.if_icmp .ge 8, 3) := by decide +kernel
theorem dX5_count_143 : decode cX5_count 143 = .ok (.bipush (-5), 2) := by decide +kernel
theorem dX5_count_145 : decode cX5_count 145 = .ok (.goto 15, 3) := by decide +kernel
theorem dX5_count_148 : decode cX5_count 148 = .ok (.aload_n 0, 1) := by decide +kernel
theorem dX5_count_149 : decode cX5_count 149 = .ok (.getfield 12, 3) := by decide +kernel
theorem dX5_count_152 : decode cX5_count 152 = .ok (.getfield 45, 3) := by decide +kernel
theorem dX5_count_155 : decode cX5_count 155 = .ok (.getfield 181, 3) := by decide +kernel
theorem dX5_count_158 : decode cX5_count 158 = .ok (.iconst 2, 1) := by decide +kernel
theorem dX5_count_159 : decode cX5_count 159 = .ok (.iaload, 1) := by decide +kernel
theorem dX5_count_160 : decode cX5_count 160 = .ok (.ireturn, 1) := by decide +kernel
theorem dX5_count_161 : decode cX5_count 161 = .ok (.aload_n 0, 1) := by decide +kernel
theorem dX5_count_162 : decode cX5_count 162 = .ok (.getfield 12, 3) := by decide +kernel
theorem dX5_count_165 : decode cX5_count 165 = .ok (.getfield 77, 3) := by decide +kernel
theorem dX5_count_168 : decode cX5_count 168 = .ok (.ireturn, 1) := by decide +kernel
theorem dX5_count_169 : decode cX5_count 169 = .ok (.aload_n 0, 1) := by decide +kernel
theorem dX5_count_170 : decode cX5_count 170 = .ok (.getfield 12, 3) := by decide +kernel
theorem dX5_count_173 : decode cX5_count 173 = .ok (.getfield 55, 3) := by decide +kernel
theorem dX5_count_176 : decode cX5_count 176 = .ok (.getfield 84, 3) := by decide +kernel
theorem dX5_count_179 : decode cX5_count 179 = .ok (.ireturn, 1) := by decide +kernel
theorem dX5_count_180 : decode cX5_count 180 = .ok (.aload_n 0, 1) := by decide +kernel
theorem dX5_count_181 : decode cX5_count 181 = .ok (.invokevirtual 184, 3) := by decide +kernel
theorem dX5_count_184 : decode cX5_count 184 = .ok (.ireturn, 1) := by decide +kernel
theorem dX5_count_185 : decode cX5_count 185 = .ok (.aload_n 0, 1) := by decide +kernel
theorem dX5_count_186 : decode cX5_count 186 = .ok (.getfield 12, 3) := by decide +kernel
theorem dX5_count_189 : decode cX5_count 189 = .ok (.getfield 55, 3) := by decide +kernel
theorem dX5_count_192 : decode cX5_count 192 = .ok (.getfield 188, 3) := by decide +kernel
theorem dX5_count_195 : decode cX5_count 195 = .ok (.ireturn, 1) := by decide +kernel
theorem dX5_count_196 : decode cX5_count 196 = .ok (.aload_n 0, 1) := by decide +kernel
theorem dX5_count_197 : decode cX5_count 197 = .ok (.invokevirtual 191, 3) := by decide +kernel
theorem dX5_count_200 : decode cX5_count 200 = .ok (.ireturn, 1) := by decide +kernel
theorem dX5_count_201 : decode cX5_count 201 = .ok (.aload_n 0, 1) := by decide +kernel
theorem dX5_count_202 : decode cX5_count 202 = .ok (.invokevirtual 194, 3) := by decide +kernel
theorem dX5_count_205 : decode cX5_count 205 = .ok (.ireturn, 1) := by decide +kernel
theorem dX5_count_206 : decode cX5_count 206 = .ok (.aload_n 0, 1) := by decide +kernel
theorem dX5_count_207 : decode cX5_count 207 = .ok (.getfield 12, 3) := by decide +kernel
theorem dX5_count_210 : decode cX5_count 210 = .ok (.getfield 64, 3) := by decide +kernel
theorem dX5_count_213 : decode cX5_count 213 = .ok (.getfield 74, 3) := by decide +kernel
theorem dX5_count_216 : decode cX5_count 216 = .ok (.ireturn, 1) := by decide +kernel
theorem dX5_count_217 : decode cX5_count 217 = .ok (.aload_n 0, 1) := by decide +kernel
theorem dX5_count_218 : decode cX5_count 218 = .ok (.getfield 12, 3) := by decide +kernel
theorem dX5_count_221 : decode cX5_count 221 = .ok (.getfield 64, 3) := by decide +kernel
theorem dX5_count_224 : decode cX5_count 224 = .ok (.getfield 120, 3) := by decide +kernel
theorem dX5_count_227 : decode cX5_count 227 = .ok (.ireturn, 1) := by decide +kernel
theorem dX5_count_228 : decode cX5_count 228 = .ok (.aload_n 0, 1) := by decide +kernel
theorem dX5_count_229 : decode cX5_count 229 = .ok (.getfield 12, 3) := by decide +kernel
theorem dX5_count_232 : decode cX5_count 232 = .ok (.getfield 64, 3) := by decide +kernel
theorem dX5_count_235 : decode cX5_count 235 = .ok (.aload_n 0, 1) := by decide +kernel
theorem dX5_count_236 : decode cX5_count 236 = .ok (.getfield 12, 3) := by decide +kernel
theorem dX5_count_239 : decode cX5_count 239 = .ok (.getfield 45, 3) := by decide +kernel
theorem dX5_count_242 : decode cX5_count 242 = .ok (.invokevirtual 126, 3) := by decide +kernel
theorem dX5_count_245 : decode cX5_count 245 = .ok (.ireturn, 1) := by decide +kernel
theorem dX5_count_246 : decode cX5_count 246 = .ok (.aload_n 0, 1) := by decide +kernel
theorem dX5_count_247 : decode cX5_count 247 = .ok (.getfield 12, 3) := by decide +kernel
theorem dX5_count_250 : decode cX5_count 250 = .ok (.getfield 64, 3) := by decide +kernel
theorem dX5_count_253 : decode cX5_count 253 = .ok (.getfield 123, 3) := by decide +kernel
theorem dX5_count_256 : decode cX5_count 256 = .ok (.aload_n 0, 1) := by decide +kernel
theorem dX5_count_257 : decode cX5_count 257 = .ok (.getfield 12, 3) := by decide +kernel
theorem dX5_count_260 : decode cX5_count 260 = .ok (.getfield 64, 3) := by decide +kernel
theorem dX5_count_263 : decode cX5_count 263 = .ok (.aload_n 0, 1) := by decide +kernel
theorem dX5_count_264 : decode cX5_count 264 = .ok (.getfield 12, 3) := by decide +kernel
theorem dX5_count_267 : decode cX5_count 267 = .ok (.getfield 45, 3) := by decide +kernel
theorem dX5_count_270 : decode cX5_count 270 = .ok (.invokevirtual 126, 3) := by decide +kernel
theorem dX5_count_273 : decode cX5_count 273 = .ok (.iaload, 1) := by decide +kernel
theorem dX5_count_274 : decode cX5_count 274 = .ok (.ireturn, 1) := by decide +kernel
theorem dX5_count_275 : decode cX5_count 275 = .ok (.aload_n 0, 1) := by decide +kernel
theorem dX5_count_276 : decode cX5_count 276 = .ok (.getfield 12, 3) := by decide +kernel
theorem dX5_count_279 : decode cX5_count 279 = .ok (.getfield 64, 3) := by decide +kernel
theorem dX5_count_282 : decode cX5_count 282 = .ok (.aload_n 0, 1) := by decide +kernel
theorem dX5_count_283 : decode cX5_count 283 = .ok (.getfield 12, 3) := by decide +kernel
theorem dX5_count_286 : decode cX5_count 286 = .ok (.getfield 45, 3) := by decide +kernel
theorem dX5_count_289 : decode cX5_count 289 = .ok (.invokevirtual 197, 3) := by decide +kernel
theorem dX5_count_292 : decode cX5_count 292 = .ok (.ireturn, 1) := by decide +kernel
theorem dX5_count_293 : decode cX5_count 293 = .ok (.aload_n 0, 1) := by decide +kernel
theorem dX5_count_294 : decode cX5_count 294 = .ok (.getfield 12, 3) := by decide +kernel
theorem dX5_count_297 : decode cX5_count 297 = .ok (.getfield 64, 3) := by decide +kernel
theorem dX5_count_300 : decode cX5_count 300 = .ok (.getfield 110, 3) := by decide +kernel
theorem dX5_count_303 : decode cX5_count 303 = .ok (.ifCond .eq 7, 3) := by decide +kernel
theorem dX5_count_306 : decode cX5_count 306 = .ok (.iconst 1, 1) := by decide +kernel
theorem dX5_count_307 : decode cX5_count 307 = .ok (.goto 4, 3) := by decide +kernel
theorem dX5_count_310 : decode cX5_count 310 = .ok (.iconst 0, 1) := by decide +kernel
theorem dX5_count_311 : decode cX5_count 311 = .ok (.ireturn, 1) := by decide +kernel
theorem dX5_count_312 : decode cX5_count 312 = .ok (.aload_n 0, 1) := by decide +kernel
theorem dX5_count_313 : decode cX5_count 313 = .ok (.getfield 27, 3) := by decide +kernel
theorem dX5_count_316 : decode cX5_count 316 = .ok (.ireturn, 1) := by decide +kernel
theorem dX5_count_317 : decode cX5_count 317 = .ok (.aload_n 0, 1) := by decide +kernel
theorem dX5_count_318 : decode cX5_count 318 = .ok (.getfield 34, 3) := by decide +kernel
theorem dX5_count_321 : decode cX5_count 321 = .ok (.getfield 87, 3) := by decide +kernel
theorem dX5_count_324 : decode cX5_count 324 = .ok (.ireturn, 1) := by decide +kernel
theorem dX5_count_325 : decode cX5_count 325 = .ok (.bipush (-2), 2) := by decide +kernel
theorem dX5_count_327 : decode cX5_count 327 = .ok (.ireturn, 1) := by decide +kernel
set_option maxRecDepth 20000 in
theorem ggX5_recordNow_X5_dropOldest : GoodIn wsX5_recordNow wsX5_dropOldest := goodIn_r _ [8, 2, 1, 57, 58, 59, 60, 61, 62, 63] (by decide +kernel) (by decide +kernel)
set_option maxRecDepth 20000 in
theorem gX5_recordNow_X5_dropOldest : GoodIn wsX5_recordNow (wsV RX5 200 RX5 yX5_dropOldest wsX5_dropOldest) := goodIn_app (goodIn_of _ (by decide +kernel)) ggX5_recordNow_X5_dropOldest
set_option maxRecDepth 20000 in
theorem ggX5_recordNow_X3_copyFrom : GoodIn wsX5_recordNow wsX3_copyFrom := goodIn_r _ [13, 14, 15, 16, 17, 18, 19, 20, 21, 22, 23, 24, 25, 26, 27, 28, 29, 30, 31, 32, 33, 34, 35, 36, 37, 38, 39, 40, 41, 42, 43, 44, 45, 46, 47, 48, 49, 50, 51, 52, 53, 54, 55, 56, 64, 65, 66, 67, 68, 69, 70, 71, 72, 73, 74, 75, 76, 77, 78, 79, 80, 81, 82, 83] (by decide +kernel) (by decide +kernel)
set_option maxRecDepth 20000 in
theorem gX5_recordNow_X3_copyFrom : GoodIn wsX5_recordNow (wsV RX5 138 RX3 yX3_copyFrom wsX3_copyFrom) := goodIn_app (goodIn_of _ (by decide +kernel)) ggX5_recordNow_X3_copyFrom
theorem dX5_recordNow_0 : decode cX5_recordNow 0 = .ok (.aload_n 0, 1) := by decide +kernel
theorem dX5_recordNow_1 : decode cX5_recordNow 1 = .ok (.getfield 27, 3) := by decide +kernel
theorem dX5_recordNow_4 : decode cX5_recordNow 4 = .ok (.iconst 4, 1) := by decide +kernel
theorem dX5_recordNow_5 : decode cX5_recordNow 5 = .ok (.if_icmp .lt 7, 3) := by decide +kernel
theorem dX5_recordNow_8 : decode cX5_recordNow 8 = .ok (.aload_n 0, 1) := by decide +kernel
theorem dX5_recordNow_9 : decode cX5_recordNow 9 = .ok (.invokevirtual 200, 3) := by decide +kernel
theorem dX5_recordNow_12 : decode cX5_recordNow 12 = .ok (.aload_n 0, 1) := by decide +kernel
theorem dX5_recordNow_13 : decode cX5_recordNow 13 = .ok (.getfield 23, 3) := by decide +kernel
theorem dX5_recordNow_16 : decode cX5_recordNow 16 = .ok (.aload_n 0, 1) := by decide +kernel
theorem dX5_recordNow_17 : decode cX5_recordNow 17 = .ok (.getfield 27, 3) := by decide +kernel
theorem dX5_recordNow_20 : decode cX5_recordNow 20 = .ok (.aaload, 1) := by decide +kernel
theorem dX5_recordNow_21 : decode cX5_recordNow 21 = .ok (.aload_n 0, 1) := by decide +kernel
theorem dX5_recordNow_22 : decode cX5_recordNow 22 = .ok (.getfield 12, 3) := by decide +kernel
theorem dX5_recordNow_25 : decode cX5_recordNow 25 = .ok (.invokevirtual 138, 3) := by decide +kernel
theorem dX5_recordNow_28 : decode cX5_recordNow 28 = .ok (.aload_n 0, 1) := by decide +kernel
theorem dX5_recordNow_29 : decode cX5_recordNow 29 = .ok (.dup, 1) := by decide +kernel
theorem dX5_recordNow_30 : decode cX5_recordNow 30 = .ok (.getfield 27, 3) := by decide +kernel
theorem dX5_recordNow_33 : decode cX5_recordNow 33 = .ok (.iconst 1, 1) := by decide +kernel
theorem dX5_recordNow_34 : decode cX5_recordNow 34 = .ok (.iadd, 1) := by decide +kernel
theorem dX5_recordNow_35 : decode cX5_recordNow 35 = .ok (.putfield 27, 3) := by decide +kernel
theorem dX5_recordNow_38 : decode cX5_recordNow 38 = .ok (.return_, 1) := by decide +kernel
theorem dX5_dropOldest_0 : decode cX5_dropOldest 0 = .ok (.aload_n 0, 1) := by decide +kernel
theorem dX5_dropOldest_1 : decode cX5_dropOldest 1 = .ok (.getfield 23, 3) := by decide +kernel
theorem dX5_dropOldest_4 : decode cX5_dropOldest 4 = .ok (.iconst 0, 1) := by decide +kernel
theorem dX5_dropOldest_5 : decode cX5_dropOldest 5 = .ok (.aaload, 1) := by decide +kernel
theorem dX5_dropOldest_6 : decode cX5_dropOldest 6 = .ok (.astore_n 1, 1) := by decide +kernel
theorem dX5_dropOldest_7 : decode cX5_dropOldest 7 = .ok (.iconst 1, 1) := by decide +kernel
theorem dX5_dropOldest_8 : decode cX5_dropOldest 8 = .ok (.istore_n 2, 1) := by decide +kernel
theorem dX5_dropOldest_9 : decode cX5_dropOldest 9 = .ok (.iload_n 2, 1) := by decide +kernel
theorem dX5_dropOldest_10 : decode cX5_dropOldest 10 = .ok (.iconst 4, 1) := by decide +kernel
theorem dX5_dropOldest_11 : decode cX5_dropOldest 11 = .ok (.if_icmp .ge 23, 3) := by decide +kernel
theorem dX5_dropOldest_14 : decode cX5_dropOldest 14 = .ok (.aload_n 0, 1) := by decide +kernel
theorem dX5_dropOldest_15 : decode cX5_dropOldest 15 = .ok (.getfield 23, 3) := by decide +kernel
theorem dX5_dropOldest_18 : decode cX5_dropOldest 18 = .ok (.iload_n 2, 1) := by decide +kernel
theorem dX5_dropOldest_19 : decode cX5_dropOldest 19 = .ok (.iconst 1, 1) := by decide +kernel
theorem dX5_dropOldest_20 : decode cX5_dropOldest 20 = .ok (.isub, 1) := by decide +kernel
theorem dX5_dropOldest_21 : decode cX5_dropOldest 21 = .ok (.aload_n 0, 1) := by decide +kernel
theorem dX5_dropOldest_22 : decode cX5_dropOldest 22 = .ok (.getfield 23, 3) := by decide +kernel
theorem dX5_dropOldest_25 : decode cX5_dropOldest 25 = .ok (.iload_n 2, 1) := by decide +kernel
theorem dX5_dropOldest_26 : decode cX5_dropOldest 26 = .ok (.aaload, 1) := by decide +kernel
theorem dX5_dropOldest_27 : decode cX5_dropOldest 27 = .ok (.aastore, 1) := by decide +kernel
theorem dX5_dropOldest_28 : decode cX5_dropOldest 28 = .ok (.iinc 2 1, 3) := by decide +kernel
theorem dX5_dropOldest_31 : decode cX5_dropOldest 31 = .ok (.goto (-22), 3) := by decide +kernel
theorem dX5_dropOldest_34 : decode cX5_dropOldest 34 = .ok (.aload_n 0, 1) := by decide +kernel
theorem dX5_dropOldest_35 : decode cX5_dropOldest 35 = .ok (.getfield 23, 3) := by decide +kernel
theorem dX5_dropOldest_38 : decode cX5_dropOldest 38 = .ok (.iconst 3, 1) := by decide +kernel
theorem dX5_dropOldest_39 : decode cX5_dropOldest 39 = .ok (.aload_n 1, 1) := by decide +kernel
theorem dX5_dropOldest_40 : decode cX5_dropOldest 40 = .ok (.aastore, 1) := by decide +kernel
theorem dX5_dropOldest_41 : decode cX5_dropOldest 41 = .ok (.aload_n 0, 1) := by decide +kernel
theorem dX5_dropOldest_42 : decode cX5_dropOldest 42 = .ok (.iconst 3, 1) := by decide +kernel
theorem dX5_dropOldest_43 : decode cX5_dropOldest 43 = .ok (.putfield 27, 3) := by decide +kernel
theorem dX5_dropOldest_46 : decode cX5_dropOldest 46 = .ok (.return_, 1) := by decide +kernel
theorem dX5_lineLength_0 : decode cX5_lineLength 0 = .ok (.aload_n 0, 1) := by decide +kernel
theorem dX5_lineLength_1 : decode cX5_lineLength 1 = .ok (.getfield 12, 3) := by decide +kernel
theorem dX5_lineLength_4 : decode cX5_lineLength 4 = .ok (.getfield 55, 3) := by decide +kernel
theorem dX5_lineLength_7 : decode cX5_lineLength 7 = .ok (.getfield 84, 3) := by decide +kernel
theorem dX5_lineLength_10 : decode cX5_lineLength 10 = .ok (.aload_n 0, 1) := by decide +kernel
theorem dX5_lineLength_11 : decode cX5_lineLength 11 = .ok (.getfield 12, 3) := by decide +kernel
theorem dX5_lineLength_14 : decode cX5_lineLength 14 = .ok (.getfield 45, 3) := by decide +kernel
theorem dX5_lineLength_17 : decode cX5_lineLength 17 = .ok (.getfield 71, 3) := by decide +kernel
theorem dX5_lineLength_20 : decode cX5_lineLength 20 = .ok (.imul, 1) := by decide +kernel
theorem dX5_lineLength_21 : decode cX5_lineLength 21 = .ok (.ireturn, 1) := by decide +kernel
set_option maxRecDepth 20000 in
theorem ggX5_isOnLine_X5_lineLength : GoodIn wsX5_isOnLine wsX5_lineLength := goodIn_r _ [5, 6, 7, 8, 9, 10, 11, 12, 13, 14, 15, 16, 17, 18, 19, 20, 21, 22, 23, 24, 25, 26, 27, 28, 29] (by decide +kernel) (by decide +kernel)
set_option maxRecDepth 20000 in
theorem gX5_isOnLine_X5_lineLength : GoodIn wsX5_isOnLine (wsV RX5 184 RX5 yX5_lineLength wsX5_lineLength) := goodIn_app (goodIn_of _ (by decide +kernel)) ggX5_isOnLine_X5_lineLength
theorem dX5_isOnLine_0 : decode cX5_isOnLine 0 = .ok (.iload_n 1, 1) := by decide +kernel
theorem dX5_isOnLine_1 : decode cX5_isOnLine 1 = .ok (.ifCond .lt 15, 3) := by decide +kernel
theorem dX5_isOnLine_4 : decode cX5_isOnLine 4 = .ok (.iload_n 1, 1) := by decide +kernel
theorem dX5_isOnLine_5 : decode cX5_isOnLine 5 = .ok (.aload_n 0, 1) := by decide +kernel
theorem dX5_isOnLine_6 : decode cX5_isOnLine 6 = .ok (.invokevirtual 184, 3) := by decide +kernel
theorem dX5_isOnLine_9 : decode cX5_isOnLine 9 = .ok (.if_icmp .ge 7, 3) := by decide +kernel
theorem dX5_isOnLine_12 : decode cX5_isOnLine 12 = .ok (.iconst 1, 1) := by decide +kernel
theorem dX5_isOnLine_13 : decode cX5_isOnLine 13 = .ok (.goto 4, 3) := by decide +kernel
theorem dX5_isOnLine_16 : decode cX5_isOnLine 16 = .ok (.iconst 0, 1) := by decide +kernel
theorem dX5_isOnLine_17 : decode cX5_isOnLine 17 = .ok (.ireturn, 1) := by decide +kernel
theorem dX5_isTaken_0 : decode cX5_isTaken 0 = .ok (.iload_n 1, 1) := by decide +kernel
theorem dX5_isTaken_1 : decode cX5_isTaken 1 = .ok (.aload_n 0, 1) := by decide +kernel
theorem dX5_isTaken_2 : decode cX5_isTaken 2 = .ok (.getfield 12, 3) := by decide +kernel
theorem dX5_isTaken_5 : decode cX5_isTaken 5 = .ok (.getfield 64, 3) := by decide +kernel
theorem dX5_isTaken_8 : decode cX5_isTaken 8 = .ok (.getfield 113, 3) := by decide +kernel
theorem dX5_isTaken_11 : decode cX5_isTaken 11 = .ok (.aload_n 0, 1) := by decide +kernel
theorem dX5_isTaken_12 : decode cX5_isTaken 12 = .ok (.getfield 12, 3) := by decide +kernel
theorem dX5_isTaken_15 : decode cX5_isTaken 15 = .ok (.getfield 45, 3) := by decide +kernel
theorem dX5_isTaken_18 : decode cX5_isTaken 18 = .ok (.getfield 71, 3) := by decide +kernel
theorem dX5_isTaken_21 : decode cX5_isTaken 21 = .ok (.imul, 1) := by decide +kernel
theorem dX5_isTaken_22 : decode cX5_isTaken 22 = .ok (.if_icmp .ge 7, 3) := by decide +kernel
theorem dX5_isTaken_25 : decode cX5_isTaken 25 = .ok (.iconst 1, 1) := by decide +kernel
theorem dX5_isTaken_26 : decode cX5_isTaken 26 = .ok (.goto 4, 3) := by decide +kernel
theorem dX5_isTaken_29 : decode cX5_isTaken 29 = .ok (.iconst 0, 1) := by decide +kernel
theorem dX5_isTaken_30 : decode cX5_isTaken 30 = .ok (.ireturn, 1) := by decide +kernel
set_option maxRecDepth 20000 in
theorem ggX5_erasedSymbols_X5_lineLength : GoodIn wsX5_erasedSymbols wsX5_lineLength := goodIn_r _ [8, 1, 2, 9, 10, 11, 12, 13, 14, 15, 16, 17, 18, 19, 20, 21, 22, 23, 24, 25, 26, 27, 28, 29, 30] (by decide +kernel) (by decide +kernel)
set_option maxRecDepth 20000 in
theorem gX5_erasedSymbols_X5_lineLength : GoodIn wsX5_erasedSymbols (wsV RX5 184 RX5 yX5_lineLength wsX5_lineLength) := goodIn_app (goodIn_of _ (by decide +kernel)) ggX5_erasedSymbols_X5_lineLength
theorem dX5_erasedSymbols_0 : decode cX5_erasedSymbols 0 = .ok (.aload_n 0, 1) := by decide +kernel
theorem dX5_erasedSymbols_1 : decode cX5_erasedSymbols 1 = .ok (.invokevirtual 184, 3) := by decide +kernel
theorem dX5_erasedSymbols_4 : decode cX5_erasedSymbols 4 = .ok (.istore_n 1, 1) := by decide +kernel
theorem dX5_erasedSymbols_5 : decode cX5_erasedSymbols 5 = .ok (.iconst 0, 1) := by decide +kernel
theorem dX5_erasedSymbols_6 : decode cX5_erasedSymbols 6 = .ok (.istore_n 2, 1) := by decide +kernel
theorem dX5_erasedSymbols_7 : decode cX5_erasedSymbols 7 = .ok (.iconst 0, 1) := by decide +kernel
theorem dX5_erasedSymbols_8 : decode cX5_erasedSymbols 8 = .ok (.istore_n 3, 1) := by decide +kernel
theorem dX5_erasedSymbols_9 : decode cX5_erasedSymbols 9 = .ok (.iload_n 3, 1) := by decide +kernel
theorem dX5_erasedSymbols_10 : decode cX5_erasedSymbols 10 = .ok (.iload_n 1, 1) := by decide +kernel
theorem dX5_erasedSymbols_11 : decode cX5_erasedSymbols 11 = .ok (.if_icmp .ge 28, 3) := by decide +kernel
theorem dX5_erasedSymbols_14 : decode cX5_erasedSymbols 14 = .ok (.aload_n 0, 1) := by decide +kernel
theorem dX5_erasedSymbols_15 : decode cX5_erasedSymbols 15 = .ok (.getfield 12, 3) := by decide +kernel
theorem dX5_erasedSymbols_18 : decode cX5_erasedSymbols 18 = .ok (.getfield 55, 3) := by decide +kernel
theorem dX5_erasedSymbols_21 : decode cX5_erasedSymbols 21 = .ok (.getfield 104, 3) := by decide +kernel
theorem dX5_erasedSymbols_24 : decode cX5_erasedSymbols 24 = .ok (.iload_n 3, 1) := by decide +kernel
theorem dX5_erasedSymbols_25 : decode cX5_erasedSymbols 25 = .ok (.iaload, 1) := by decide +kernel
theorem dX5_erasedSymbols_26 : decode cX5_erasedSymbols 26 = .ok (.iconst 2, 1) := by decide +kernel
theorem dX5_erasedSymbols_27 : decode cX5_erasedSymbols 27 = .ok (.if_icmp .ne 6, 3) := by decide +kernel
theorem dX5_erasedSymbols_30 : decode cX5_erasedSymbols 30 = .ok (.iinc 2 1, 3) := by decide +kernel
theorem dX5_erasedSymbols_33 : decode cX5_erasedSymbols 33 = .ok (.iinc 3 1, 3) := by decide +kernel
theorem dX5_erasedSymbols_36 : decode cX5_erasedSymbols 36 = .ok (.goto (-27), 3) := by decide +kernel
theorem dX5_erasedSymbols_39 : decode cX5_erasedSymbols 39 = .ok (.iload_n 2, 1) := by decide +kernel
theorem dX5_erasedSymbols_40 : decode cX5_erasedSymbols 40 = .ok (.ireturn, 1) := by decide +kernel
set_option maxRecDepth 20000 in
theorem ggX5_flippedSymbols_X5_lineLength : GoodIn wsX5_flippedSymbols wsX5_lineLength := goodIn_r _ [9, 1, 2, 10, 11, 12, 13, 14, 15, 16, 17, 18, 19, 20, 21, 22, 23, 24, 25, 26, 27, 28, 29, 30, 31] (by decide +kernel) (by decide +kernel)
set_option maxRecDepth 20000 in
theorem gX5_flippedSymbols_X5_lineLength : GoodIn wsX5_flippedSymbols (wsV RX5 184 RX5 yX5_lineLength wsX5_lineLength) := goodIn_app (goodIn_of _ (by decide +kernel)) ggX5_flippedSymbols_X5_lineLength
theorem dX5_flippedSymbols_0 : decode cX5_flippedSymbols 0 = .ok (.aload_n 0, 1) := by decide +kernel
theorem dX5_flippedSymbols_1 : decode cX5_flippedSymbols 1 = .ok (.invokevirtual 184, 3) := by decide +kernel
theorem dX5_flippedSymbols_4 : decode cX5_flippedSymbols 4 = .ok (.istore_n 1, 1) := by decide +kernel
theorem dX5_flippedSymbols_5 : decode cX5_flippedSymbols 5 = .ok (.iconst 0, 1) := by decide +kernel
theorem dX5_flippedSymbols_6 : decode cX5_flippedSymbols 6 = .ok (.istore_n 2, 1) := by decide +kernel
theorem dX5_flippedSymbols_7 : decode cX5_flippedSymbols 7 = .ok (.iconst 0, 1) := by decide +kernel
theorem dX5_flippedSymbols_8 : decode cX5_flippedSymbols 8 = .ok (.istore_n 3, 1) := by decide +kernel
theorem dX5_flippedSymbols_9 : decode cX5_flippedSymbols 9 = .ok (.iload_n 3, 1) := by decide +kernel
theorem dX5_flippedSymbols_10 : decode cX5_flippedSymbols 10 = .ok (.iload_n 1, 1) := by decide +kernel
theorem dX5_flippedSymbols_11 : decode cX5_flippedSymbols 11 = .ok (.if_icmp .ge 49, 3) := by decide +kernel
theorem dX5_flippedSymbols_14 : decode cX5_flippedSymbols 14 = .ok (.aload_n 0, 1) := by decide +kernel
theorem dX5_flippedSymbols_15 : decode cX5_flippedSymbols 15 = .ok (.getfield 12, 3) := by decide +kernel
theorem dX5_flippedSymbols_18 : decode cX5_flippedSymbols 18 = .ok (.getfield 55, 3) := by decide +kernel
theorem dX5_flippedSymbols_21 : decode cX5_flippedSymbols 21 = .ok (.getfield 104, 3) := by decide +kernel
theorem dX5_flippedSymbols_24 : decode cX5_flippedSymbols 24 = .ok (.iload_n 3, 1) := by decide +kernel
theorem dX5_flippedSymbols_25 : decode cX5_flippedSymbols 25 = .ok (.iaload, 1) := by decide +kernel
theorem dX5_flippedSymbols_26 : decode cX5_flippedSymbols 26 = .ok (.istore 4, 2) := by decide +kernel
theorem dX5_flippedSymbols_28 : decode cX5_flippedSymbols 28 = .ok (.iload 4, 2) := by decide +kernel
theorem dX5_flippedSymbols_30 : decode cX5_flippedSymbols 30 = .ok (.iconst 2, 1) := by decide +kernel
theorem dX5_flippedSymbols_31 : decode cX5_flippedSymbols 31 = .ok (.if_icmp .eq 23, 3) := by decide +kernel
theorem dX5_flippedSymbols_34 : decode cX5_flippedSymbols 34 = .ok (.iload 4, 2) := by decide +kernel
theorem dX5_flippedSymbols_36 : decode cX5_flippedSymbols 36 = .ok (.aload_n 0, 1) := by decide +kernel
theorem dX5_flippedSymbols_37 : decode cX5_flippedSymbols 37 = .ok (.getfield 12, 3) := by decide +kernel
theorem dX5_flippedSymbols_40 : decode cX5_flippedSymbols 40 = .ok (.getfield 55, 3) := by decide +kernel
theorem dX5_flippedSymbols_43 : decode cX5_flippedSymbols 43 = .ok (.getfield 152, 3) := by decide +kernel
theorem dX5_flippedSymbols_46 : decode cX5_flippedSymbols 46 = .ok (.iload_n 3, 1) := by decide +kernel
theorem dX5_flippedSymbols_47 : decode cX5_flippedSymbols 47 = .ok (.iaload, 1) := by decide +kernel
theorem dX5_flippedSymbols_48 : decode cX5_flippedSymbols 48 = .ok (.if_icmp .eq 6, 3) := by decide +kernel
theorem dX5_flippedSymbols_51 : decode cX5_flippedSymbols 51 = .ok (.iinc 2 1, 3) := by decide +kernel
theorem dX5_flippedSymbols_54 : decode cX5_flippedSymbols 54 = .ok (.iinc 3 1, 3) := by decide +kernel
theorem dX5_flippedSymbols_57 : decode cX5_flippedSymbols 57 = .ok (.goto (-48), 3) := by decide +kernel
theorem dX5_flippedSymbols_60 : decode cX5_flippedSymbols 60 = .ok (.iload_n 2, 1) := by decide +kernel
theorem dX5_flippedSymbols_61 : decode cX5_flippedSymbols 61 = .ok (.ireturn, 1) := by decide +kernel
end
section
/-! what the code's symbols are -/
def par6 (n : Nat) : Int := (((n + n / 2 + n / 4 + n / 8 + n / 16 + n / 32) % 2 : Nat) : Int)
def sy (t w : Int) : Int := par6 (t.toNat &&& w.toNat)
def sm (f : Int → Int) : Nat → Int
  | 0 => 0
  | n + 1 => sm f n + f (n : Int)
def nb (f : Int → Int) : Nat → Int
  | 0 => 0
  | n + 1 => 2 * nb f n + f (n : Int)
def oT (t : Int) : Int := if t = 0 then 2 else 3
def wn (mm st b : Int) : Int := b * p2 mm + st
def tpOk (tp : Int → Int) : Prop := ∀ k : Int, 0 ≤ k → k < 3 → 0 ≤ tp k ∧ tp k < 64
theorem par6_le (n : Nat) : 0 ≤ par6 n ∧ par6 n ≤ 1 := by unfold par6; omega
theorem sy_le (t w : Int) : 0 ≤ sy t w ∧ sy t w ≤ 1 := par6_le _
theorem oT_le (t : Int) : 2 ≤ oT t ∧ oT t ≤ 3 := by unfold oT; split <;> omega
theorem p2_0 : p2 0 = 1 := rfl
theorem p2_1 : p2 1 = 2 := rfl
theorem p2_2 : p2 2 = 4 := rfl
theorem p2_3 : p2 3 = 8 := rfl
theorem p2_4 : p2 4 = 16 := rfl
theorem p2_5 : p2 5 = 32 := rfl
theorem p2_all {mm : Int} (h1 : 1 ≤ mm) (h2 : mm ≤ 5) : 2 ≤ p2 mm ∧ p2 mm ≤ 32 ∧ p2 mm = 2 * p2 (mm - 1) ∧ 1 ≤ p2 (mm - 1) := by
  rcases (show mm = 1 ∨ mm = 2 ∨ mm = 3 ∨ mm = 4 ∨ mm = 5 by omega) with rfl | rfl | rfl | rfl | rfl <;> decide
theorem wn_le {mm st b : Int} (h1 : 1 ≤ mm) (h2 : mm ≤ 5) (s0 : 0 ≤ st) (s1 : st < p2 mm) (b0 : 0 ≤ b) (b1 : b ≤ 1) : 0 ≤ wn mm st b ∧ wn mm st b < 2 * p2 mm ∧ wn mm st b < 64 := by
  have h := p2_all h1 h2
  unfold wn
  rcases (show b = 0 ∨ b = 1 by omega) with rfl | rfl <;> omega
theorem iI_1shl {mm : Int} (h1 : 1 ≤ mm) (h2 : mm ≤ 5) : iI 1 <<< (iI mm &&& 31) = iI (p2 mm) := by
  have h := p2_all h1 h2
  have e := iI_shl (a := 1) (k := mm) (by omega) (by omega) (by omega) (by omega)
  rw [e, Int.one_mul]
theorem iI_bshl {mm b : Int} (h1 : 1 ≤ mm) (h2 : mm ≤ 5) (b0 : 0 ≤ b) (b1 : b ≤ 1) : iI b <<< (iI mm &&& 31) = iI (b * p2 mm) := by
  have h := p2_all h1 h2
  have hb : b * p2 mm ≤ 32 := by rcases (show b = 0 ∨ b = 1 by omega) with rfl | rfl <;> omega
  exact iI_shl b0 (by omega) (by omega) (by omega)
theorem iI_mask {mm a : Int} (h1 : 1 ≤ mm) (h2 : mm ≤ 5) (a0 : 0 ≤ a) (a1 : a < 2147483648) : iI a &&& iI (p2 mm - 1) = iI (a % p2 mm) := by
  have h := p2_all h1 h2
  have hk : (iI (p2 mm - 1)).toBitVec.toNat = 2 ^ mm.toNat - 1 := by
    rcases (show mm = 1 ∨ mm = 2 ∨ mm = 3 ∨ mm = 4 ∨ mm = 5 by omega) with rfl | rfl | rfl | rfl | rfl <;> decide +kernel
  have e := pk_andN (n := a.toNat) (by omega) (m := iI (p2 mm - 1)) mm.toNat hk
  rw [iI_nat a0, e, iI_nI]
  congr 1
  rw [Int.natCast_emod, Int.toNat_of_nonneg a0, p2]
  norm_cast
theorem iI_and1 {a : Int} (a0 : 0 ≤ a) (a1 : a < 2147483648) : iI a &&& iI 1 = iI (a % 2) := iI_mask (mm := 1) (by omega) (by omega) a0 a1
theorem iI_land {a b : Int} (a0 : 0 ≤ a) (b0 : 0 ≤ b) : iI a &&& iI b = iI ((a.toNat &&& b.toNat : Nat) : Int) := by
  rw [iI_nat a0, iI_nat b0, ← iI_nI, ← Int32.toBitVec_inj]
  apply BitVec.eq_of_toNat_eq
  simp [nI, Nat.and_mod_two_pow]
theorem land_lt {a b : Int} (a0 : 0 ≤ a) (a1 : a < 64) : (a.toNat &&& b.toNat) < 64 := Nat.lt_of_le_of_lt Nat.and_le_left (by omega)
theorem sm_cong {f g : Int → Int} : ∀ {n : Nat}, (∀ k : Int, 0 ≤ k → k < n → f k = g k) → sm f n = sm g n
  | 0, _ => rfl
  | n + 1, h => by
    rw [sm, sm, sm_cong (n := n) (fun k h0 h1 => h k h0 (by omega)), h n (by omega) (by omega)]
theorem sm_le {f : Int → Int} : ∀ {n : Nat}, (∀ k : Int, 0 ≤ k → k < n → 0 ≤ f k ∧ f k ≤ 1) → 0 ≤ sm f n ∧ sm f n ≤ n
  | 0, _ => by simp [sm]
  | n + 1, h => by
    have h1 := sm_le (f := f) (n := n) (fun k h0 h1 => h k h0 (by omega))
    have h2 := h n (by omega) (by omega)
    rw [sm]
    omega
theorem nb_le {f : Int → Int} : ∀ {n : Nat}, (∀ k : Int, 0 ≤ k → k < n → 0 ≤ f k ∧ f k ≤ 1) → n ≤ 3 → 0 ≤ nb f n ∧ nb f n ≤ 7
  | 0, _, _ => by simp [nb]
  | 1, h, _ => by
    have h0 := h 0 (by omega) (by omega)
    simp [nb]
    omega
  | 2, h, _ => by
    have h0 := h 0 (by omega) (by omega)
    have h1 := h 1 (by omega) (by omega)
    simp [nb]
    omega
  | 3, h, _ => by
    have h0 := h 0 (by omega) (by omega)
    have h1 := h 1 (by omega) (by omega)
    have h2 := h 2 (by omega) (by omega)
    simp [nb]
    omega
theorem sm_at (f : Int → Int) {i : Int} (h : 0 ≤ i) : sm f (i + 1).toNat = sm f i.toNat + f i := by
  rw [show (i + 1).toNat = i.toNat + 1 by omega, sm, Int.toNat_of_nonneg h]
theorem nb_at (f : Int → Int) {i : Int} (h : 0 ≤ i) : nb f (i + 1).toNat = 2 * nb f i.toNat + f i := by
  rw [show (i + 1).toNat = i.toNat + 1 by omega, nb, Int.toNat_of_nonneg h]
def pop6 (n : Int) : Int := n % 2 + n / 2 % 2 + n / 4 % 2 + n / 8 % 2 + n / 16 % 2 + n / 32 % 2
theorem pop6_nb {f : Int → Int} {n : Nat} (h : ∀ k : Int, 0 ≤ k → k < n → 0 ≤ f k ∧ f k ≤ 1) (hn : n ≤ 3) : pop6 (nb f n) = sm f n := by
  match n, hn with
  | 0, _ => rfl
  | 1, _ =>
    have h0 := h 0 (by omega) (by omega)
    simp [nb, sm, pop6]
    omega
  | 2, _ =>
    have h0 := h 0 (by omega) (by omega)
    have h1 := h 1 (by omega) (by omega)
    simp [nb, sm, pop6]
    omega
  | 3, _ =>
    have h0 := h 0 (by omega) (by omega)
    have h1 := h 1 (by omega) (by omega)
    have h2 := h 2 (by omega) (by omega)
    simp [nb, sm, pop6]
    omega
theorem pop6_par (n : Nat) (h : n < 64) : pop6 (n : Int) % 2 = par6 n := by
  unfold pop6 par6
  omega
def ib (x : Int32) : Int32 :=
  let a := x - ((x.toUInt32 >>> ((iI 1).toUInt32 &&& Int32.toUInt32 31)).toInt32 &&& 1431655765)
  let b := (a &&& 858993459) + ((a.toUInt32 >>> ((iI 2).toUInt32 &&& Int32.toUInt32 31)).toInt32 &&& 858993459)
  let d := (b + (b.toUInt32 >>> ((iI 4).toUInt32 &&& Int32.toUInt32 31)).toInt32) &&& 252645135
  let g := d + (d.toUInt32 >>> ((iI 8).toUInt32 &&& Int32.toUInt32 31)).toInt32
  let h := g + (g.toUInt32 >>> ((iI 16).toUInt32 &&& Int32.toUInt32 31)).toInt32
  h &&& iI 63
theorem ib_64 : ∀ n : Nat, n < 64 → ib (nI n) = iI (pop6 (n : Int)) := by decide +kernel
theorem ib_pop {a : Int} (h0 : 0 ≤ a) (h1 : a < 64) : ib (iI a) = iI (pop6 a) := by
  rw [iI_nat h0, ib_64 a.toNat (by omega), Int.toNat_of_nonneg h0]
def pr1 (tp f : Int → Int) (q w k : Int) : Int := if f (q + k) = 2 ∨ f (q + k) = sy (tp k) w then 0 else 1
def rwOk (f : Int → Int) (n : Nat) : Prop := ∀ k : Int, 0 ≤ k → k < n → 0 ≤ f k ∧ f k ≤ 3
end
section
section ZX
variable {p : Program} {l : Launch} {e : Env} {R : Room} {s : State} {m : MethodId} {args : Array Value} {below : List Frame} {meth : Method} {c : Code} {H : Heap} {locs : List Loc} {cells slots : Nat} {Q : State → Prop} {cc : ByteArray} {nL : Nat} {Ts : List Cond} {own : String}
variable {pc : Nat} {ls : Array Slot} {rest st : List Value} {D : va_G} {T : List (ClassId × FieldType)} {A : Nat → Prop} {H0 : Heap} {ws ws2 : va_W} {cy cs : ClassId}
theorem z_fld (wd : Wd D T A H0 s ws H locs) {c1 c2 : Nat × va_E} (q0 : Nat) (he : ws[q0]? = some c1) (e0 : c1 = c2) (hs : ws.set q0 c2 = ws2) : Wd D T A H0 s ws2 H locs := by
  subst e0
  have h1 : ws.set q0 c1 = ws := by
    obtain ⟨hlt, hg⟩ := List.getElem?_eq_some_iff.mp he
    rw [← hg]
    exact List.set_getElem_self hlt
  rw [← hs, h1]
  exact wd
def cpZ (f g : Int → Int) (n : Int) : Int → Int := fun k => if 0 ≤ k ∧ k < n then f k else g k
theorem z_copy (C : CallFix p m c cc nL s args Ts own) (wd : Wd D (zT cy cs) A H0 s ws H locs) (q0 q1 : Nat) {a0 a1 n0 n1 : Nat} {f g : Int → Int} (he0 : ws[q0]? = some (zA cy a0 n0 f)) (he1 : ws[q1]? = some (zA cy a1 n1 g)) {index : Nat} (hlink : (Cond.methodLink own index arraycopyName).before args s = true) (hnat : (Cond.native arraycopyName).before args s = true) (hstat : (Cond.static arraycopyName).before args s = true) (hini : (Cond.initialized "java/lang/System").before args s = true) {n : Int} (hn : 0 ≤ n ∧ n ≤ n0 ∧ n ≤ n1 ∧ n < 2147483648) (hfr : 1 ≤ R.frames) (hlo : (rest.map fun v => v.category).sum + 18 ≤ R.locals) (hsz : ls.size = nL) (hs : ws.set q1 (zA cy a1 n1 (cpZ f g n)) = ws2) (hdg : decode cc pc = .ok (.invokestatic index, 3))
    (k : ∀ (H : Heap) (locs : List Loc), Wd D (zT cy cs) A H0 s ws2 H locs → W p l e R s m args below meth c H locs cells slots Q (F0 m (pc + 3) ls rest)) : W p l e R s m args below meth c H locs cells slots Q (F0 m pc ls (.int (iI n) :: .int (iI 0) :: .ref a1 :: .int (iI 0) :: .ref a0 :: rest)) := by
  have c0 : (iI 0).toNatClampNeg = 0 := by decide +kernel
  have cn : (iI n).toNatClampNeg = n.toNat := by
    rw [iI_nat hn.1]
    exact nI_clamp (by omega)
  have hneg : ¬ iI n < 0 := by
    have h1 := iI_lt (a := n) (b := 0) (by omega) (by omega)
    rw [iI_0] at h1
    rw [h1]
    omega
  have e0 : ((a1, .inl (cy, n1, .inl (va_cpy (fun j : Nat => iI (f (j : Int))) (fun j : Nat => iI (g (j : Int))) (iI 0).toNatClampNeg (iI 0).toNatClampNeg (iI n).toNatClampNeg))) : Nat × va_E) = zA cy a1 n1 (cpZ f g n) := by
    have e9 : va_cpy (fun j : Nat => iI (f (j : Int))) (fun j : Nat => iI (g (j : Int))) 0 0 n.toNat = fun j : Nat => iI (cpZ f g n (j : Int)) := by
      funext j
      unfold va_cpy cpZ
      by_cases h : 0 ≤ j ∧ j < 0 + n.toNat
      · rw [if_pos h, if_pos (by omega)]
        simp
      · rw [if_neg h, if_neg (by omega)]
    unfold zA
    rw [c0, cn, e9]
  refine va_copyi (f := fun j : Nat => iI (f (j : Int))) (g := fun j : Nat => iI (g (j : Int))) C.1 C.2.1 (by rw [C.2.2.1, hsz]) C.2.2.2.1 hlink hnat hstat hini wd.2.2.2 wd.1 wd.2.1 wd.2.2.1 q0 q1 0 0 he0 he1 rfl rfl rfl (by decide +kernel) (by decide +kernel) hneg (by rw [c0, cn]; omega) (by rw [c0, cn]; omega) (fun _ _ => rfl) hfr hlo hdg (fun H1 locs1 hP hD hS => k H1 locs1 ⟨?_, ?_, hS, wd.2.2.2⟩)
  · rw [e0, hs] at hP
    exact hP
  · rw [e0, hs] at hD
    exact hD
theorem z_land (C : CallFix p m c cc nL s args Ts own) {a b : Int} (v : Int) (hdg : decode cc pc = .ok (.land, 1)) (h : lI a &&& lI b = lI v)
    (k : W p l e R s m args below meth c H locs cells slots Q (F0 m (pc + 1) ls (.long (lI v) :: rest))) : W p l e R s m args below meth c H locs cells slots Q (F0 m pc ls (.long (lI b) :: .long (lI a) :: rest)) := by
  refine lv_land C.1 C.2.1 hdg ?_
  rw [h]
  exact k
theorem z_lor (C : CallFix p m c cc nL s args Ts own) {a b : Int} (v : Int) (hdg : decode cc pc = .ok (.lor, 1)) (h : lI a ||| lI b = lI v)
    (k : W p l e R s m args below meth c H locs cells slots Q (F0 m (pc + 1) ls (.long (lI v) :: rest))) : W p l e R s m args below meth c H locs cells slots Q (F0 m pc ls (.long (lI b) :: .long (lI a) :: rest)) := by
  refine lv_lor C.1 C.2.1 hdg ?_
  rw [h]
  exact k
theorem z_lsub (C : CallFix p m c cc nL s args Ts own) {a b : Int} (v : Int) (hdg : decode cc pc = .ok (.lsub, 1)) (h : lI a - lI b = lI v)
    (k : W p l e R s m args below meth c H locs cells slots Q (F0 m (pc + 1) ls (.long (lI v) :: rest))) : W p l e R s m args below meth c H locs cells slots Q (F0 m pc ls (.long (lI b) :: .long (lI a) :: rest)) := by
  refine lv_lsub C.1 C.2.1 hdg ?_
  rw [h]
  exact k
theorem z_lcmp (C : CallFix p m c cc nL s args Ts own) {a b : Int} (v : Int) (hdg : decode cc pc = .ok (.lcmp, 1)) (h : lg_cmp (lI a) (lI b) = iI v)
    (k : W p l e R s m args below meth c H locs cells slots Q (F0 m (pc + 1) ls (.int (iI v) :: rest))) : W p l e R s m args below meth c H locs cells slots Q (F0 m pc ls (.long (lI b) :: .long (lI a) :: rest)) := by
  refine W.lcmp C.1 C.2.1 hdg ?_
  rw [h]
  exact k
end ZX
/-! bits of words: a word stands for an integer from 0 to 2^32 less 1 -/
def sg (x : Int) : Int := if x < 2147483648 then x else x - 4294967296
theorem iI_ext {a b : Int} (h : a % 4294967296 = b % 4294967296) : iI a = iI b := by
  rw [← Int32.toBitVec_inj]
  apply BitVec.eq_of_toNat_eq
  simp [iI, BitVec.toNat_ofInt, h]
theorem iI_sg (x : Int) : iI x = iI (sg x) := iI_ext (by unfold sg; split <;> omega)
theorem iI_shrS {a k : Int} (h1 : -2147483648 ≤ a) (h2 : a < 2147483648) (k0 : 0 ≤ k) (k1 : k < 32) : iI a >>> (iI k &&& 31) = iI (a / p2 k) := by
  have e := iI_sm k.toNat (by omega)
  rw [← iI_nat k0] at e
  have h := pk_shr (iI a) (iI k &&& 31) k.toNat e
  rw [iI_toInt h1 h2, Int.shiftRight_eq_div_pow] at h
  rw [← iI_of (iI a >>> (iI k &&& 31)), h]
  rfl
theorem iI_and1S (a : Int) : iI a &&& iI 1 = iI (a % 2) := by
  have h := pk_and (iI a) (m := iI 1) 1 (by decide +kernel)
  rw [h, iI_nI]
  congr 1
  simp [iI, BitVec.toNat_ofInt]
  omega
theorem p2_s (k : Int) (h : 0 ≤ k) : p2 (k + 1) = 2 * p2 k := by
  unfold p2
  rw [show (k + 1).toNat = k.toNat + 1 by omega, Int.pow_succ]
  omega
theorem p2_pos (k : Int) : 0 < p2 k := by
  unfold p2
  exact Int.pow_pos (by omega)
theorem p2_nat (k : Int) : p2 k = ((2 ^ k.toNat : Nat) : Int) := by
  unfold p2
  norm_cast
theorem p2_add {a b : Int} (ha : 0 ≤ a) (hb : 0 ≤ b) : p2 (a + b) = p2 a * p2 b := by
  unfold p2
  rw [show (a + b).toNat = a.toNat + b.toNat by omega, Int.pow_add]
theorem bit_sg {x k : Int} (k0 : 0 ≤ k) (k1 : k < 32) : sg x / p2 k % 2 = x / p2 k % 2 := by
  unfold sg
  split
  · rfl
  · have hk : (4294967296 : Int) = p2 k * (2 * p2 (31 - k)) := by
      have h1 := p2_add (a := k) (b := 32 - k) k0 (by omega)
      rw [show k + (32 - k) = 32 by omega] at h1
      have h2 := p2_s (31 - k) (by omega)
      rw [show 31 - k + 1 = 32 - k by omega] at h2
      have h3 : p2 32 = 4294967296 := by decide +kernel
      rw [← h3, h1, h2]
    have hp := p2_pos k
    have h5 : (x - 4294967296) / p2 k = x / p2 k - 2 * p2 (31 - k) := by
      rw [hk, Int.sub_eq_add_neg, ← Int.mul_neg, Int.add_mul_ediv_left _ _ (by omega)]
      omega
    rw [h5]
    omega
theorem iI_bit1 {x k : Int} (x0 : 0 ≤ x) (x1 : x < 4294967296) (k0 : 0 ≤ k) (k1 : k < 32) : iI x >>> (iI k &&& 31) = iI (sg x / p2 k) := by
  rw [iI_sg x]
  exact iI_shrS (by unfold sg; split <;> omega) (by unfold sg; split <;> omega) k0 k1
theorem iI_bit2 {x k : Int} (k0 : 0 ≤ k) (k1 : k < 32) : iI (sg x / p2 k) &&& iI 1 = iI (x / p2 k % 2) := by
  rw [iI_and1S, bit_sg k0 k1]
theorem bit_le (x k : Int) : 0 ≤ x / p2 k % 2 ∧ x / p2 k % 2 ≤ 1 := by omega
/-- the state before, by a word of choices -/
def pv (mm x st : Int) : Int := 2 * st % p2 mm + x / p2 st % 2
theorem pv_le {mm x st : Int} (h1 : 1 ≤ mm) (h2 : mm ≤ 5) : 0 ≤ pv mm x st ∧ pv mm x st < p2 mm := by
  have hp := p2_all h1 h2
  have hb := bit_le x st
  unfold pv
  have h3 : 0 ≤ 2 * st % p2 mm := Int.emod_nonneg _ (by omega)
  have h4 : 2 * st % p2 mm + 1 < p2 mm := by
    rw [hp.2.2.1, Int.mul_emod_mul_of_pos _ _ (by omega)]
    have h5 := Int.emod_lt_of_pos st (show 0 < p2 (mm - 1) by omega)
    omega
  omega
def bk (mm : Int) (fu : Int → Int) (S st : Int) : Nat → Int
  | 0 => st
  | n + 1 => pv mm (fu (S - 1 - n)) (bk mm fu S st n)
theorem bk_le {mm : Int} {fu : Int → Int} {S st : Int} (h1 : 1 ≤ mm) (h2 : mm ≤ 5) (s0 : 0 ≤ st) (s1 : st < p2 mm) : ∀ n, 0 ≤ bk mm fu S st n ∧ bk mm fu S st n < p2 mm
  | 0 => ⟨s0, s1⟩
  | n + 1 => pv_le h1 h2
theorem bk_at {mm : Int} {fu : Int → Int} {S st i : Int} (h : i ≤ S - 1) : bk mm fu S st (S - 1 - (i - 1)).toNat = pv mm (fu i) (bk mm fu S st (S - 1 - i).toNat) := by
  rw [show (S - 1 - (i - 1)).toNat = (S - 1 - i).toNat + 1 by omega, bk, show S - 1 - (((S - 1 - i).toNat : Nat) : Int) = i by omega]
/-- the bit of a survivor at a place -/
def sb (mm : Int) (fu : Int → Int) (S st i : Int) : Int := bk mm fu S st (S - 1 - i).toNat / p2 (mm - 1)
def rlF (mm : Int) (fu : Int → Int) (S st : Int) (g : Int → Int) (N z i : Int) : Int → Int := fun k => if i < k ∧ N ≤ k ∧ k < z then sb mm fu S st k else g k
theorem rlF_step {mm : Int} {fu : Int → Int} {S st : Int} {g : Int → Int} {N z i : Int} (hN : N ≤ i) (hz : i < z) : uZ (rlF mm fu S st g N z i) i (bk mm fu S st (S - 1 - i).toNat / p2 (mm - 1)) = rlF mm fu S st g N z (i - 1) := by
  funext k
  unfold uZ rlF
  by_cases h : k = i
  · subst h
    rw [if_pos rfl, if_pos (by omega)]
    rfl
  · rw [if_neg h]
    by_cases h2 : i < k ∧ N ≤ k ∧ k < z
    · rw [if_pos h2, if_pos (by omega)]
    · rw [if_neg h2, if_neg (by omega)]
theorem rlF_skip {mm : Int} {fu : Int → Int} {S st : Int} {g : Int → Int} {N z i : Int} (hz : z ≤ i) : rlF mm fu S st g N z i = rlF mm fu S st g N z (i - 1) := by
  funext k
  unfold rlF
  by_cases h2 : i < k ∧ N ≤ k ∧ k < z
  · rw [if_pos h2, if_pos (by omega)]
  · rw [if_neg h2, if_neg (by omega)]
theorem rlF_0 {mm : Int} {fu : Int → Int} {S st : Int} {g : Int → Int} {N z i : Int} (hz : z ≤ i + 1) : rlF mm fu S st g N z i = g := by
  funext k
  unfold rlF
  rw [if_neg (by omega)]
theorem rlF_e {mm : Int} {fu : Int → Int} {S st : Int} {g : Int → Int} {N z i j : Int} (hi : i < N) (hj : j < N) : rlF mm fu S st g N z i = rlF mm fu S st g N z j := by
  funext k
  unfold rlF
  by_cases h2 : N ≤ k ∧ k < z
  · rw [if_pos (by omega), if_pos (by omega)]
  · rw [if_neg (by omega), if_neg (by omega)]
end
section
set_option maxRecDepth 100000 in
set_option maxHeartbeats 4000000 in
theorem c_bitCount (l : Launch) (D : va_G) (cy cs : ClassId) (n : Int) (hn : 0 ≤ n ∧ n < 64) : zCi l D (zT cy cs) yJ6_bitCount_0f7a4 wsJ6_bitCount_0f7a4 ({ frames := 0, cells := 0, slots := 0, locals := 0 } : Room) [.int (iI n)] [] (pop6 n) [] := by
  intro sz
  refine zM_mk (cc := cJ6_bitCount_0f7a4) (maxL := 1) (ret := (some .int)) (own := RJ6) (Qc := fun sz => va_Qi (fun r (_ : Unit) => r = iI (pop6 n)) (fun _ t => zQ D (zT cy cs) (va_A [] sz) [] t) (va_A [] sz)) (by decide) rfl rfl (Nat.le_of_ble_eq_true rfl) rfl sz ?_
  intro p e s m args below meth c ls C hr hlk hnm hl hsz hA wd
  subst hsz
  have hl : lv_has ls 1 [(0, .int (iI n))] := hl
  refine lv_iload_n C.1 C.2.1 dJ6_bitCount_0f7a4_0 rfl (lv_at hl 0 rfl) ?_
  refine lv_iload_n C.1 C.2.1 dJ6_bitCount_0f7a4_1 rfl (lv_at hl 0 rfl) ?_
  refine z_iconst C dJ6_bitCount_0f7a4_2 ?_
  refine lv_iushr (v := ((iI n).toUInt32 >>> ((iI 1).toUInt32 &&& Int32.toUInt32 31)).toInt32) C.1 C.2.1 dJ6_bitCount_0f7a4_3 rfl ?_
  refine lv_ldcw C.1 C.2.1 C.2.2.2.1 (C.2.2.2.2 (.constant RJ6 265 (1431655765)) (by decide +kernel)) dJ6_bitCount_0f7a4_4 ?_
  refine lv_iand C.1 C.2.1 dJ6_bitCount_0f7a4_7 ?_
  refine lv_isub C.1 C.2.1 dJ6_bitCount_0f7a4_8 ?_
  refine lv_istore_n (lv' := [(0, .int ((iI n) - ((((iI n).toUInt32 >>> ((iI 1).toUInt32 &&& Int32.toUInt32 31)).toInt32) &&& 1431655765)))]) C.1 C.2.1 dJ6_bitCount_0f7a4_9 rfl hl (by decide) rfl (fun ls hl => ?_)
  refine lv_iload_n C.1 C.2.1 dJ6_bitCount_0f7a4_10 rfl (lv_at hl 0 rfl) ?_
  refine lv_ldcw C.1 C.2.1 C.2.2.2.1 (C.2.2.2.2 (.constant RJ6 266 (858993459)) (by decide +kernel)) dJ6_bitCount_0f7a4_11 ?_
  refine lv_iand C.1 C.2.1 dJ6_bitCount_0f7a4_14 ?_
  refine lv_iload_n C.1 C.2.1 dJ6_bitCount_0f7a4_15 rfl (lv_at hl 0 rfl) ?_
  refine z_iconst C dJ6_bitCount_0f7a4_16 ?_
  refine lv_iushr (v := (((iI n) - ((((iI n).toUInt32 >>> ((iI 1).toUInt32 &&& Int32.toUInt32 31)).toInt32) &&& 1431655765)).toUInt32 >>> ((iI 2).toUInt32 &&& Int32.toUInt32 31)).toInt32) C.1 C.2.1 dJ6_bitCount_0f7a4_17 rfl ?_
  refine lv_ldcw C.1 C.2.1 C.2.2.2.1 (C.2.2.2.2 (.constant RJ6 266 (858993459)) (by decide +kernel)) dJ6_bitCount_0f7a4_18 ?_
  refine lv_iand C.1 C.2.1 dJ6_bitCount_0f7a4_21 ?_
  refine lv_iadd C.1 C.2.1 dJ6_bitCount_0f7a4_22 ?_
  refine lv_istore_n (lv' := [(0, .int ((((iI n) - ((((iI n).toUInt32 >>> ((iI 1).toUInt32 &&& Int32.toUInt32 31)).toInt32) &&& 1431655765)) &&& 858993459) + (((((iI n) - ((((iI n).toUInt32 >>> ((iI 1).toUInt32 &&& Int32.toUInt32 31)).toInt32) &&& 1431655765)).toUInt32 >>> ((iI 2).toUInt32 &&& Int32.toUInt32 31)).toInt32) &&& 858993459)))]) C.1 C.2.1 dJ6_bitCount_0f7a4_23 rfl hl (by decide) rfl (fun ls hl => ?_)
  refine lv_iload_n C.1 C.2.1 dJ6_bitCount_0f7a4_24 rfl (lv_at hl 0 rfl) ?_
  refine lv_iload_n C.1 C.2.1 dJ6_bitCount_0f7a4_25 rfl (lv_at hl 0 rfl) ?_
  refine z_iconst C dJ6_bitCount_0f7a4_26 ?_
  refine lv_iushr (v := (((((iI n) - ((((iI n).toUInt32 >>> ((iI 1).toUInt32 &&& Int32.toUInt32 31)).toInt32) &&& 1431655765)) &&& 858993459) + (((((iI n) - ((((iI n).toUInt32 >>> ((iI 1).toUInt32 &&& Int32.toUInt32 31)).toInt32) &&& 1431655765)).toUInt32 >>> ((iI 2).toUInt32 &&& Int32.toUInt32 31)).toInt32) &&& 858993459)).toUInt32 >>> ((iI 4).toUInt32 &&& Int32.toUInt32 31)).toInt32) C.1 C.2.1 dJ6_bitCount_0f7a4_27 rfl ?_
  refine lv_iadd C.1 C.2.1 dJ6_bitCount_0f7a4_28 ?_
  refine lv_ldcw C.1 C.2.1 C.2.2.2.1 (C.2.2.2.2 (.constant RJ6 267 (252645135)) (by decide +kernel)) dJ6_bitCount_0f7a4_29 ?_
  refine lv_iand C.1 C.2.1 dJ6_bitCount_0f7a4_32 ?_
  refine lv_istore_n (lv' := [(0, .int ((((((iI n) - ((((iI n).toUInt32 >>> ((iI 1).toUInt32 &&& Int32.toUInt32 31)).toInt32) &&& 1431655765)) &&& 858993459) + (((((iI n) - ((((iI n).toUInt32 >>> ((iI 1).toUInt32 &&& Int32.toUInt32 31)).toInt32) &&& 1431655765)).toUInt32 >>> ((iI 2).toUInt32 &&& Int32.toUInt32 31)).toInt32) &&& 858993459)) + ((((((iI n) - ((((iI n).toUInt32 >>> ((iI 1).toUInt32 &&& Int32.toUInt32 31)).toInt32) &&& 1431655765)) &&& 858993459) + (((((iI n) - ((((iI n).toUInt32 >>> ((iI 1).toUInt32 &&& Int32.toUInt32 31)).toInt32) &&& 1431655765)).toUInt32 >>> ((iI 2).toUInt32 &&& Int32.toUInt32 31)).toInt32) &&& 858993459)).toUInt32 >>> ((iI 4).toUInt32 &&& Int32.toUInt32 31)).toInt32)) &&& 252645135))]) C.1 C.2.1 dJ6_bitCount_0f7a4_33 rfl hl (by decide) rfl (fun ls hl => ?_)
  refine lv_iload_n C.1 C.2.1 dJ6_bitCount_0f7a4_34 rfl (lv_at hl 0 rfl) ?_
  refine lv_iload_n C.1 C.2.1 dJ6_bitCount_0f7a4_35 rfl (lv_at hl 0 rfl) ?_
  refine z_bipush C dJ6_bitCount_0f7a4_36 (by decide +kernel) ?_
  refine lv_iushr (v := (((((((iI n) - ((((iI n).toUInt32 >>> ((iI 1).toUInt32 &&& Int32.toUInt32 31)).toInt32) &&& 1431655765)) &&& 858993459) + (((((iI n) - ((((iI n).toUInt32 >>> ((iI 1).toUInt32 &&& Int32.toUInt32 31)).toInt32) &&& 1431655765)).toUInt32 >>> ((iI 2).toUInt32 &&& Int32.toUInt32 31)).toInt32) &&& 858993459)) + ((((((iI n) - ((((iI n).toUInt32 >>> ((iI 1).toUInt32 &&& Int32.toUInt32 31)).toInt32) &&& 1431655765)) &&& 858993459) + (((((iI n) - ((((iI n).toUInt32 >>> ((iI 1).toUInt32 &&& Int32.toUInt32 31)).toInt32) &&& 1431655765)).toUInt32 >>> ((iI 2).toUInt32 &&& Int32.toUInt32 31)).toInt32) &&& 858993459)).toUInt32 >>> ((iI 4).toUInt32 &&& Int32.toUInt32 31)).toInt32)) &&& 252645135).toUInt32 >>> ((iI 8).toUInt32 &&& Int32.toUInt32 31)).toInt32) C.1 C.2.1 dJ6_bitCount_0f7a4_38 rfl ?_
  refine lv_iadd C.1 C.2.1 dJ6_bitCount_0f7a4_39 ?_
  refine lv_istore_n (lv' := [(0, .int (((((((iI n) - ((((iI n).toUInt32 >>> ((iI 1).toUInt32 &&& Int32.toUInt32 31)).toInt32) &&& 1431655765)) &&& 858993459) + (((((iI n) - ((((iI n).toUInt32 >>> ((iI 1).toUInt32 &&& Int32.toUInt32 31)).toInt32) &&& 1431655765)).toUInt32 >>> ((iI 2).toUInt32 &&& Int32.toUInt32 31)).toInt32) &&& 858993459)) + ((((((iI n) - ((((iI n).toUInt32 >>> ((iI 1).toUInt32 &&& Int32.toUInt32 31)).toInt32) &&& 1431655765)) &&& 858993459) + (((((iI n) - ((((iI n).toUInt32 >>> ((iI 1).toUInt32 &&& Int32.toUInt32 31)).toInt32) &&& 1431655765)).toUInt32 >>> ((iI 2).toUInt32 &&& Int32.toUInt32 31)).toInt32) &&& 858993459)).toUInt32 >>> ((iI 4).toUInt32 &&& Int32.toUInt32 31)).toInt32)) &&& 252645135) + ((((((((iI n) - ((((iI n).toUInt32 >>> ((iI 1).toUInt32 &&& Int32.toUInt32 31)).toInt32) &&& 1431655765)) &&& 858993459) + (((((iI n) - ((((iI n).toUInt32 >>> ((iI 1).toUInt32 &&& Int32.toUInt32 31)).toInt32) &&& 1431655765)).toUInt32 >>> ((iI 2).toUInt32 &&& Int32.toUInt32 31)).toInt32) &&& 858993459)) + ((((((iI n) - ((((iI n).toUInt32 >>> ((iI 1).toUInt32 &&& Int32.toUInt32 31)).toInt32) &&& 1431655765)) &&& 858993459) + (((((iI n) - ((((iI n).toUInt32 >>> ((iI 1).toUInt32 &&& Int32.toUInt32 31)).toInt32) &&& 1431655765)).toUInt32 >>> ((iI 2).toUInt32 &&& Int32.toUInt32 31)).toInt32) &&& 858993459)).toUInt32 >>> ((iI 4).toUInt32 &&& Int32.toUInt32 31)).toInt32)) &&& 252645135).toUInt32 >>> ((iI 8).toUInt32 &&& Int32.toUInt32 31)).toInt32)))]) C.1 C.2.1 dJ6_bitCount_0f7a4_40 rfl hl (by decide) rfl (fun ls hl => ?_)
  refine lv_iload_n C.1 C.2.1 dJ6_bitCount_0f7a4_41 rfl (lv_at hl 0 rfl) ?_
  refine lv_iload_n C.1 C.2.1 dJ6_bitCount_0f7a4_42 rfl (lv_at hl 0 rfl) ?_
  refine z_bipush C dJ6_bitCount_0f7a4_43 (by decide +kernel) ?_
  refine lv_iushr (v := ((((((((iI n) - ((((iI n).toUInt32 >>> ((iI 1).toUInt32 &&& Int32.toUInt32 31)).toInt32) &&& 1431655765)) &&& 858993459) + (((((iI n) - ((((iI n).toUInt32 >>> ((iI 1).toUInt32 &&& Int32.toUInt32 31)).toInt32) &&& 1431655765)).toUInt32 >>> ((iI 2).toUInt32 &&& Int32.toUInt32 31)).toInt32) &&& 858993459)) + ((((((iI n) - ((((iI n).toUInt32 >>> ((iI 1).toUInt32 &&& Int32.toUInt32 31)).toInt32) &&& 1431655765)) &&& 858993459) + (((((iI n) - ((((iI n).toUInt32 >>> ((iI 1).toUInt32 &&& Int32.toUInt32 31)).toInt32) &&& 1431655765)).toUInt32 >>> ((iI 2).toUInt32 &&& Int32.toUInt32 31)).toInt32) &&& 858993459)).toUInt32 >>> ((iI 4).toUInt32 &&& Int32.toUInt32 31)).toInt32)) &&& 252645135) + ((((((((iI n) - ((((iI n).toUInt32 >>> ((iI 1).toUInt32 &&& Int32.toUInt32 31)).toInt32) &&& 1431655765)) &&& 858993459) + (((((iI n) - ((((iI n).toUInt32 >>> ((iI 1).toUInt32 &&& Int32.toUInt32 31)).toInt32) &&& 1431655765)).toUInt32 >>> ((iI 2).toUInt32 &&& Int32.toUInt32 31)).toInt32) &&& 858993459)) + ((((((iI n) - ((((iI n).toUInt32 >>> ((iI 1).toUInt32 &&& Int32.toUInt32 31)).toInt32) &&& 1431655765)) &&& 858993459) + (((((iI n) - ((((iI n).toUInt32 >>> ((iI 1).toUInt32 &&& Int32.toUInt32 31)).toInt32) &&& 1431655765)).toUInt32 >>> ((iI 2).toUInt32 &&& Int32.toUInt32 31)).toInt32) &&& 858993459)).toUInt32 >>> ((iI 4).toUInt32 &&& Int32.toUInt32 31)).toInt32)) &&& 252645135).toUInt32 >>> ((iI 8).toUInt32 &&& Int32.toUInt32 31)).toInt32)).toUInt32 >>> ((iI 16).toUInt32 &&& Int32.toUInt32 31)).toInt32) C.1 C.2.1 dJ6_bitCount_0f7a4_45 rfl ?_
  refine lv_iadd C.1 C.2.1 dJ6_bitCount_0f7a4_46 ?_
  refine lv_istore_n (lv' := [(0, .int ((((((((iI n) - ((((iI n).toUInt32 >>> ((iI 1).toUInt32 &&& Int32.toUInt32 31)).toInt32) &&& 1431655765)) &&& 858993459) + (((((iI n) - ((((iI n).toUInt32 >>> ((iI 1).toUInt32 &&& Int32.toUInt32 31)).toInt32) &&& 1431655765)).toUInt32 >>> ((iI 2).toUInt32 &&& Int32.toUInt32 31)).toInt32) &&& 858993459)) + ((((((iI n) - ((((iI n).toUInt32 >>> ((iI 1).toUInt32 &&& Int32.toUInt32 31)).toInt32) &&& 1431655765)) &&& 858993459) + (((((iI n) - ((((iI n).toUInt32 >>> ((iI 1).toUInt32 &&& Int32.toUInt32 31)).toInt32) &&& 1431655765)).toUInt32 >>> ((iI 2).toUInt32 &&& Int32.toUInt32 31)).toInt32) &&& 858993459)).toUInt32 >>> ((iI 4).toUInt32 &&& Int32.toUInt32 31)).toInt32)) &&& 252645135) + ((((((((iI n) - ((((iI n).toUInt32 >>> ((iI 1).toUInt32 &&& Int32.toUInt32 31)).toInt32) &&& 1431655765)) &&& 858993459) + (((((iI n) - ((((iI n).toUInt32 >>> ((iI 1).toUInt32 &&& Int32.toUInt32 31)).toInt32) &&& 1431655765)).toUInt32 >>> ((iI 2).toUInt32 &&& Int32.toUInt32 31)).toInt32) &&& 858993459)) + ((((((iI n) - ((((iI n).toUInt32 >>> ((iI 1).toUInt32 &&& Int32.toUInt32 31)).toInt32) &&& 1431655765)) &&& 858993459) + (((((iI n) - ((((iI n).toUInt32 >>> ((iI 1).toUInt32 &&& Int32.toUInt32 31)).toInt32) &&& 1431655765)).toUInt32 >>> ((iI 2).toUInt32 &&& Int32.toUInt32 31)).toInt32) &&& 858993459)).toUInt32 >>> ((iI 4).toUInt32 &&& Int32.toUInt32 31)).toInt32)) &&& 252645135).toUInt32 >>> ((iI 8).toUInt32 &&& Int32.toUInt32 31)).toInt32)) + (((((((((iI n) - ((((iI n).toUInt32 >>> ((iI 1).toUInt32 &&& Int32.toUInt32 31)).toInt32) &&& 1431655765)) &&& 858993459) + (((((iI n) - ((((iI n).toUInt32 >>> ((iI 1).toUInt32 &&& Int32.toUInt32 31)).toInt32) &&& 1431655765)).toUInt32 >>> ((iI 2).toUInt32 &&& Int32.toUInt32 31)).toInt32) &&& 858993459)) + ((((((iI n) - ((((iI n).toUInt32 >>> ((iI 1).toUInt32 &&& Int32.toUInt32 31)).toInt32) &&& 1431655765)) &&& 858993459) + (((((iI n) - ((((iI n).toUInt32 >>> ((iI 1).toUInt32 &&& Int32.toUInt32 31)).toInt32) &&& 1431655765)).toUInt32 >>> ((iI 2).toUInt32 &&& Int32.toUInt32 31)).toInt32) &&& 858993459)).toUInt32 >>> ((iI 4).toUInt32 &&& Int32.toUInt32 31)).toInt32)) &&& 252645135) + ((((((((iI n) - ((((iI n).toUInt32 >>> ((iI 1).toUInt32 &&& Int32.toUInt32 31)).toInt32) &&& 1431655765)) &&& 858993459) + (((((iI n) - ((((iI n).toUInt32 >>> ((iI 1).toUInt32 &&& Int32.toUInt32 31)).toInt32) &&& 1431655765)).toUInt32 >>> ((iI 2).toUInt32 &&& Int32.toUInt32 31)).toInt32) &&& 858993459)) + ((((((iI n) - ((((iI n).toUInt32 >>> ((iI 1).toUInt32 &&& Int32.toUInt32 31)).toInt32) &&& 1431655765)) &&& 858993459) + (((((iI n) - ((((iI n).toUInt32 >>> ((iI 1).toUInt32 &&& Int32.toUInt32 31)).toInt32) &&& 1431655765)).toUInt32 >>> ((iI 2).toUInt32 &&& Int32.toUInt32 31)).toInt32) &&& 858993459)).toUInt32 >>> ((iI 4).toUInt32 &&& Int32.toUInt32 31)).toInt32)) &&& 252645135).toUInt32 >>> ((iI 8).toUInt32 &&& Int32.toUInt32 31)).toInt32)).toUInt32 >>> ((iI 16).toUInt32 &&& Int32.toUInt32 31)).toInt32)))]) C.1 C.2.1 dJ6_bitCount_0f7a4_47 rfl hl (by decide) rfl (fun ls hl => ?_)
  refine lv_iload_n C.1 C.2.1 dJ6_bitCount_0f7a4_48 rfl (lv_at hl 0 rfl) ?_
  refine z_bipush C dJ6_bitCount_0f7a4_49 (by decide +kernel) ?_
  refine lv_iand C.1 C.2.1 dJ6_bitCount_0f7a4_51 ?_
  refine z_topI (b := pop6 n) (ib_pop hn.1 hn.2) ?_
  exact z_iret C hr hlk wd (by first | rfl | omega) dJ6_bitCount_0f7a4_52
set_option maxRecDepth 100000 in
set_option maxHeartbeats 4000000 in
theorem c_X0_choose (l : Launch) (D : va_G) (cy cs : ClassId) (a0 a1 : Nat) (mm oo f0 f1 f2 f3 : Int) (tp : Int → Int) (h3 : 0 ≤ f3 ∧ f3 < 64) : zCv l D (zT cy cs) yX0_choose wsX0_choose ({ frames := 0, cells := 0, slots := 0, locals := 0 } : Room) [.ref a0, .int (iI f0), .int (iI f1), .int (iI f2), .int (iI f3)] [zO a0 0 [.int (iI mm), .int (iI oo), .ref a1], zA cy a1 3 tp] [zO a0 0 [.int (iI f0), .int (iI (oT f3)), .ref a1], zA cy a1 3 (uZ (uZ (uZ tp 0 f1) 1 f2) 2 f3)] := by
  intro sz
  refine zM_mk (cc := cX0_choose) (maxL := 5) (ret := none) (own := RX0) (Qc := fun sz => va_Qv (fun (_ : Unit) => True) (fun _ t => zQ D (zT cy cs) (va_A [zO a0 0 [.int (iI mm), .int (iI oo), .ref a1], zA cy a1 3 tp] sz) [zO a0 0 [.int (iI f0), .int (iI (oT f3)), .ref a1], zA cy a1 3 (uZ (uZ (uZ tp 0 f1) 1 f2) 2 f3)] t) (va_A [zO a0 0 [.int (iI mm), .int (iI oo), .ref a1], zA cy a1 3 tp] sz)) (by decide) rfl rfl (Nat.le_of_ble_eq_true rfl) rfl sz ?_
  intro p e s m args below meth c ls C hr hlk hnm hl hsz hA wd
  subst hsz
  have hl : lv_has ls 5 [(0, .ref a0), (1, .int (iI f0)), (2, .int (iI f1)), (3, .int (iI f2)), (4, .int (iI f3))] := hl
  have iX0 : ∀ w ∈ u_ws RX0 TX0 3, w ∈ wsX0_choose := by decide +kernel
  have L9 := C.2.2.2.2 (.fieldLink RX0 9 "LikelyWalks$Code" "taps" "[I") (by decide +kernel)
  have L19 := C.2.2.2.2 (.fieldLink RX0 19 "LikelyWalks$Code" "memory" "I") (by decide +kernel)
  have L23 := C.2.2.2.2 (.fieldLink RX0 23 "LikelyWalks$Code" "outputs" "I") (by decide +kernel)
  refine lv_aload_n C.1 C.2.1 dX0_choose_0 rfl (lv_at hl 0 rfl) ?_
  refine lv_iload_n C.1 C.2.1 dX0_choose_1 rfl (lv_at hl 1 rfl) ?_
  refine z_put C wd (Cn := RX0) (TT := TX0) (N := 3) (ci := 0) (ws2 := [zO a0 0 [.int (iI f0), .int (iI oo), .ref a1], zA cy a1 3 tp]) iX0 tyX0 tyX0_ok nmX0 0 rfl rfl 0 (by decide) L19 (fun _ h => h) rfl (ty := .int) (by decide +kernel) rfl rfl (Nat.le_of_ble_eq_true rfl) rfl dX0_choose_2 (fun H locs wd => ?_)
  refine lv_aload_n C.1 C.2.1 dX0_choose_5 rfl (lv_at hl 0 rfl) ?_
  refine lv_iload C.1 C.2.1 dX0_choose_6 (lv_at hl 4 rfl) ?_
  refine z_if_ne C (tgt := 15) dX0_choose_8 (by decide) (by omega) (fun c_1 => ?_) (fun c_1 => ?_)
  · skip
    refine z_iconst C dX0_choose_15 ?_
    refine z_put C wd (Cn := RX0) (TT := TX0) (N := 3) (ci := 0) (ws2 := [zO a0 0 [.int (iI f0), .int (iI 3), .ref a1], zA cy a1 3 tp]) iX0 tyX0 tyX0_ok nmX0 0 rfl rfl 1 (by decide) L23 (fun _ h => h) rfl (ty := .int) (by decide +kernel) rfl rfl (Nat.le_of_ble_eq_true rfl) rfl dX0_choose_16 (fun H locs wd => ?_)
    refine lv_aload_n C.1 C.2.1 dX0_choose_19 rfl (lv_at hl 0 rfl) ?_
    refine z_get C wd (Cn := RX0) (TT := TX0) (N := 3) (ci := 0) iX0 0 rfl rfl 2 (by decide) L9 (fun _ h => h) rfl dX0_choose_20 ?_
    refine z_iconst C dX0_choose_23 ?_
    refine lv_iload_n C.1 C.2.1 dX0_choose_24 rfl (lv_at hl 2 rfl) ?_
    refine z_iast C wd (ws2 := [zO a0 0 [.int (iI f0), .int (iI 3), .ref a1], zA cy a1 3 (uZ tp 0 f1)]) 1 rfl (by omega) (by decide) rfl dX0_choose_25 (fun H locs wd => ?_)
    refine lv_aload_n C.1 C.2.1 dX0_choose_26 rfl (lv_at hl 0 rfl) ?_
    refine z_get C wd (Cn := RX0) (TT := TX0) (N := 3) (ci := 0) iX0 0 rfl rfl 2 (by decide) L9 (fun _ h => h) rfl dX0_choose_27 ?_
    refine z_iconst C dX0_choose_30 ?_
    refine lv_iload_n C.1 C.2.1 dX0_choose_31 rfl (lv_at hl 3 rfl) ?_
    refine z_iast C wd (ws2 := [zO a0 0 [.int (iI f0), .int (iI 3), .ref a1], zA cy a1 3 (uZ (uZ tp 0 f1) 1 f2)]) 1 rfl (by omega) (by decide) rfl dX0_choose_32 (fun H locs wd => ?_)
    refine lv_aload_n C.1 C.2.1 dX0_choose_33 rfl (lv_at hl 0 rfl) ?_
    refine z_get C wd (Cn := RX0) (TT := TX0) (N := 3) (ci := 0) iX0 0 rfl rfl 2 (by decide) L9 (fun _ h => h) rfl dX0_choose_34 ?_
    refine z_iconst C dX0_choose_37 ?_
    refine lv_iload C.1 C.2.1 dX0_choose_38 (lv_at hl 4 rfl) ?_
    refine z_iast C wd (ws2 := [zO a0 0 [.int (iI f0), .int (iI 3), .ref a1], zA cy a1 3 (uZ (uZ (uZ tp 0 f1) 1 f2) 2 f3)]) 1 rfl (by omega) (by decide) rfl dX0_choose_40 (fun H locs wd => ?_)
    have wd := z_fld wd (ws2 := [zO a0 0 [.int (iI f0), .int (iI (oT f3)), .ref a1], zA cy a1 3 (uZ (uZ (uZ tp 0 f1) 1 f2) 2 f3)]) 0 rfl (congrArg (fun z0 => zO a0 0 [.int (iI f0), .int (iI z0), .ref a1]) (show (3 : Int) = oT f3 from (by first | (rw [oT, if_pos (by omega)]) | (rw [oT, if_neg (by omega)])))) rfl
    exact z_vret C hr hlk wd dX0_choose_41
  · skip
    refine z_iconst C dX0_choose_11 ?_
    refine z_goto C (tgt := 16) dX0_choose_12 (by decide) ?_
    refine z_put C wd (Cn := RX0) (TT := TX0) (N := 3) (ci := 0) (ws2 := [zO a0 0 [.int (iI f0), .int (iI 2), .ref a1], zA cy a1 3 tp]) iX0 tyX0 tyX0_ok nmX0 0 rfl rfl 1 (by decide) L23 (fun _ h => h) rfl (ty := .int) (by decide +kernel) rfl rfl (Nat.le_of_ble_eq_true rfl) rfl dX0_choose_16 (fun H locs wd => ?_)
    refine lv_aload_n C.1 C.2.1 dX0_choose_19 rfl (lv_at hl 0 rfl) ?_
    refine z_get C wd (Cn := RX0) (TT := TX0) (N := 3) (ci := 0) iX0 0 rfl rfl 2 (by decide) L9 (fun _ h => h) rfl dX0_choose_20 ?_
    refine z_iconst C dX0_choose_23 ?_
    refine lv_iload_n C.1 C.2.1 dX0_choose_24 rfl (lv_at hl 2 rfl) ?_
    refine z_iast C wd (ws2 := [zO a0 0 [.int (iI f0), .int (iI 2), .ref a1], zA cy a1 3 (uZ tp 0 f1)]) 1 rfl (by omega) (by decide) rfl dX0_choose_25 (fun H locs wd => ?_)
    refine lv_aload_n C.1 C.2.1 dX0_choose_26 rfl (lv_at hl 0 rfl) ?_
    refine z_get C wd (Cn := RX0) (TT := TX0) (N := 3) (ci := 0) iX0 0 rfl rfl 2 (by decide) L9 (fun _ h => h) rfl dX0_choose_27 ?_
    refine z_iconst C dX0_choose_30 ?_
    refine lv_iload_n C.1 C.2.1 dX0_choose_31 rfl (lv_at hl 3 rfl) ?_
    refine z_iast C wd (ws2 := [zO a0 0 [.int (iI f0), .int (iI 2), .ref a1], zA cy a1 3 (uZ (uZ tp 0 f1) 1 f2)]) 1 rfl (by omega) (by decide) rfl dX0_choose_32 (fun H locs wd => ?_)
    refine lv_aload_n C.1 C.2.1 dX0_choose_33 rfl (lv_at hl 0 rfl) ?_
    refine z_get C wd (Cn := RX0) (TT := TX0) (N := 3) (ci := 0) iX0 0 rfl rfl 2 (by decide) L9 (fun _ h => h) rfl dX0_choose_34 ?_
    refine z_iconst C dX0_choose_37 ?_
    refine lv_iload C.1 C.2.1 dX0_choose_38 (lv_at hl 4 rfl) ?_
    refine z_iast C wd (ws2 := [zO a0 0 [.int (iI f0), .int (iI 2), .ref a1], zA cy a1 3 (uZ (uZ (uZ tp 0 f1) 1 f2) 2 f3)]) 1 rfl (by omega) (by decide) rfl dX0_choose_40 (fun H locs wd => ?_)
    have wd := z_fld wd (ws2 := [zO a0 0 [.int (iI f0), .int (iI (oT f3)), .ref a1], zA cy a1 3 (uZ (uZ (uZ tp 0 f1) 1 f2) 2 f3)]) 0 rfl (congrArg (fun z0 => zO a0 0 [.int (iI f0), .int (iI z0), .ref a1]) (show (2 : Int) = oT f3 from (by first | (rw [oT, if_pos (by omega)]) | (rw [oT, if_neg (by omega)])))) rfl
    exact z_vret C hr hlk wd dX0_choose_41
set_option maxRecDepth 100000 in
set_option maxHeartbeats 4000000 in
theorem c_X0_copyFrom (l : Launch) (D : va_G) (cy cs : ClassId) (a0 a1 b0 b1 : Nat) (mm oo mq oq : Int) (tp tq : Int → Int) (ht : tpOk tq) (hq : oq = oT (tq 2)) : zCv l D (zT cy cs) yX0_copyFrom wsX0_copyFrom ({ frames := 1, cells := 0, slots := 0, locals := 24 } : Room) [.ref a0, .ref b0] [zO a0 0 [.int (iI mm), .int (iI oo), .ref a1], zA cy a1 3 tp, zO b0 0 [.int (iI mq), .int (iI oq), .ref b1], zA cy b1 3 tq] [zO a0 0 [.int (iI mq), .int (iI oq), .ref a1], zA cy a1 3 tq, zO b0 0 [.int (iI mq), .int (iI oq), .ref b1], zA cy b1 3 tq] := by
  intro sz
  refine zM_mk (cc := cX0_copyFrom) (maxL := 2) (ret := none) (own := RX0) (Qc := fun sz => va_Qv (fun (_ : Unit) => True) (fun _ t => zQ D (zT cy cs) (va_A [zO a0 0 [.int (iI mm), .int (iI oo), .ref a1], zA cy a1 3 tp, zO b0 0 [.int (iI mq), .int (iI oq), .ref b1], zA cy b1 3 tq] sz) [zO a0 0 [.int (iI mq), .int (iI oq), .ref a1], zA cy a1 3 tq, zO b0 0 [.int (iI mq), .int (iI oq), .ref b1], zA cy b1 3 tq] t) (va_A [zO a0 0 [.int (iI mm), .int (iI oo), .ref a1], zA cy a1 3 tp, zO b0 0 [.int (iI mq), .int (iI oq), .ref b1], zA cy b1 3 tq] sz)) (by decide) rfl rfl (Nat.le_of_ble_eq_true rfl) rfl sz ?_
  intro p e s m args below meth c ls C hr hlk hnm hl hsz hA wd
  subst hsz
  have hl : lv_has ls 2 [(0, .ref a0), (1, .ref b0)] := hl
  have iX0 : ∀ w ∈ u_ws RX0 TX0 3, w ∈ wsX0_copyFrom := by decide +kernel
  have L9 := C.2.2.2.2 (.fieldLink RX0 9 "LikelyWalks$Code" "taps" "[I") (by decide +kernel)
  have L19 := C.2.2.2.2 (.fieldLink RX0 19 "LikelyWalks$Code" "memory" "I") (by decide +kernel)
  have ht2 := ht 2 (by omega) (by omega)
  refine lv_aload_n C.1 C.2.1 dX0_copyFrom_0 rfl (lv_at hl 0 rfl) ?_
  refine lv_aload_n C.1 C.2.1 dX0_copyFrom_1 rfl (lv_at hl 1 rfl) ?_
  refine z_get C wd (Cn := RX0) (TT := TX0) (N := 3) (ci := 0) iX0 2 rfl rfl 0 (by decide) L19 (fun _ h => h) rfl dX0_copyFrom_2 ?_
  refine lv_aload_n C.1 C.2.1 dX0_copyFrom_5 rfl (lv_at hl 1 rfl) ?_
  refine z_get C wd (Cn := RX0) (TT := TX0) (N := 3) (ci := 0) iX0 2 rfl rfl 2 (by decide) L9 (fun _ h => h) rfl dX0_copyFrom_6 ?_
  refine z_iconst C dX0_copyFrom_9 ?_
  refine z_iald C wd 3 rfl (by omega) (by decide) dX0_copyFrom_10 ?_
  refine lv_aload_n C.1 C.2.1 dX0_copyFrom_11 rfl (lv_at hl 1 rfl) ?_
  refine z_get C wd (Cn := RX0) (TT := TX0) (N := 3) (ci := 0) iX0 2 rfl rfl 2 (by decide) L9 (fun _ h => h) rfl dX0_copyFrom_12 ?_
  refine z_iconst C dX0_copyFrom_15 ?_
  refine z_iald C wd 3 rfl (by omega) (by decide) dX0_copyFrom_16 ?_
  refine lv_aload_n C.1 C.2.1 dX0_copyFrom_17 rfl (lv_at hl 1 rfl) ?_
  refine z_get C wd (Cn := RX0) (TT := TX0) (N := 3) (ci := 0) iX0 2 rfl rfl 2 (by decide) L9 (fun _ h => h) rfl dX0_copyFrom_18 ?_
  refine z_iconst C dX0_copyFrom_21 ?_
  refine z_iald C wd 3 rfl (by omega) (by decide) dX0_copyFrom_22 ?_
  refine z_cvv C wd hA (As := [.int (iI mq), .int (iI (tq 0)), .int (iI (tq 1)), .int (iI (tq 2))]) (rest := []) (ws2 := [zO a0 0 [.int (iI mq), .int (iI (oT (tq 2))), .ref a1], zA cy a1 3 (uZ (uZ (uZ tp 0 (tq 0)) 1 (tq 1)) 2 (tq 2)), zO b0 0 [.int (iI mq), .int (iI oq), .ref b1], zA cy b1 3 tq]) (c_X0_choose l D cy cs a0 a1 mm oo mq (tq 0) (tq 1) (tq 2) tp (by omega)) (cwV 4 C.2.2.2.2 gX0_copyFrom_X0_choose rfl rfl rfl (by decide +kernel) ⟨Nat.le_of_ble_eq_true rfl, Nat.le_of_ble_eq_true rfl⟩) [0, 1] rfl rfl rfl ⟨rfl, [2, 3], [zO b0 0 [.int (iI mq), .int (iI oq), .ref b1], zA cy b1 3 tq], 4, rfl, rfl, rfl, by decide +kernel⟩ rfl rfl rfl rfl (Nat.le_of_ble_eq_true rfl) hl.1 dX0_copyFrom_23 ⟨Nat.zero_le _, Nat.zero_le _⟩ (fun H locs wd => ?_)
  have wd := z_fld wd (ws2 := [zO a0 0 [.int (iI mq), .int (iI oq), .ref a1], zA cy a1 3 (uZ (uZ (uZ tp 0 (tq 0)) 1 (tq 1)) 2 (tq 2)), zO b0 0 [.int (iI mq), .int (iI oq), .ref b1], zA cy b1 3 tq]) 0 rfl (congrArg (fun z0 => zO a0 0 [.int (iI mq), .int (iI z0), .ref a1]) (show (oT (tq 2) : Int) = oq from hq.symm)) rfl
  have wd := z_cell wd (ws2 := [zO a0 0 [.int (iI mq), .int (iI oq), .ref a1], zA cy a1 3 tq, zO b0 0 [.int (iI mq), .int (iI oq), .ref b1], zA cy b1 3 tq]) 1 rfl (by intro k k0 k1; rcases (show k = 0 ∨ k = 1 ∨ k = 2 by omega) with rfl | rfl | rfl <;> rfl) rfl
  exact z_vret C hr hlk wd dX0_copyFrom_26
set_option maxRecDepth 100000 in
set_option maxHeartbeats 4000000 in
theorem c_X0_states (l : Launch) (D : va_G) (cy cs : ClassId) (a0 a1 : Nat) (mm oo : Int) (hm : 1 ≤ mm ∧ mm ≤ 5) : zCi l D (zT cy cs) yX0_states wsX0_states ({ frames := 0, cells := 0, slots := 0, locals := 0 } : Room) [.ref a0] [zO a0 0 [.int (iI mm), .int (iI oo), .ref a1]] (p2 mm) [zO a0 0 [.int (iI mm), .int (iI oo), .ref a1]] := by
  intro sz
  refine zM_mk (cc := cX0_states) (maxL := 1) (ret := (some .int)) (own := RX0) (Qc := fun sz => va_Qi (fun r (_ : Unit) => r = iI (p2 mm)) (fun _ t => zQ D (zT cy cs) (va_A [zO a0 0 [.int (iI mm), .int (iI oo), .ref a1]] sz) [zO a0 0 [.int (iI mm), .int (iI oo), .ref a1]] t) (va_A [zO a0 0 [.int (iI mm), .int (iI oo), .ref a1]] sz)) (by decide) rfl rfl (Nat.le_of_ble_eq_true rfl) rfl sz ?_
  intro p e s m args below meth c ls C hr hlk hnm hl hsz hA wd
  subst hsz
  have hl : lv_has ls 1 [(0, .ref a0)] := hl
  have iX0 : ∀ w ∈ u_ws RX0 TX0 3, w ∈ wsX0_states := by decide +kernel
  have L19 := C.2.2.2.2 (.fieldLink RX0 19 "LikelyWalks$Code" "memory" "I") (by decide +kernel)
  refine z_iconst C dX0_states_0 ?_
  refine lv_aload_n C.1 C.2.1 dX0_states_1 rfl (lv_at hl 0 rfl) ?_
  refine z_get C wd (Cn := RX0) (TT := TX0) (N := 3) (ci := 0) iX0 0 rfl rfl 0 (by decide) L19 (fun _ h => h) rfl dX0_states_2 ?_
  refine z_ishl C (p2 mm) dX0_states_5 (iI_1shl hm.1 hm.2) ?_
  exact z_iret C hr hlk wd (by first | rfl | omega) dX0_states_6
set_option maxRecDepth 100000 in
set_option maxHeartbeats 4000000 in
theorem c_X0_hasState (l : Launch) (D : va_G) (cy cs : ClassId) (a0 a1 : Nat) (mm oo : Int) (st : Int) (hm : 1 ≤ mm ∧ mm ≤ 5) (hs : -2147483648 ≤ st ∧ st < 2147483648) : zCi l D (zT cy cs) yX0_hasState wsX0_hasState ({ frames := 1, cells := 0, slots := 0, locals := 20 } : Room) [.ref a0, .int (iI st)] [zO a0 0 [.int (iI mm), .int (iI oo), .ref a1]] (bI (0 ≤ st ∧ st < p2 mm)) [zO a0 0 [.int (iI mm), .int (iI oo), .ref a1]] := by
  intro sz
  refine zM_mk (cc := cX0_hasState) (maxL := 2) (ret := (some .boolean)) (own := RX0) (Qc := fun sz => va_Qi (fun r (_ : Unit) => r = iI (bI (0 ≤ st ∧ st < p2 mm))) (fun _ t => zQ D (zT cy cs) (va_A [zO a0 0 [.int (iI mm), .int (iI oo), .ref a1]] sz) [zO a0 0 [.int (iI mm), .int (iI oo), .ref a1]] t) (va_A [zO a0 0 [.int (iI mm), .int (iI oo), .ref a1]] sz)) (by decide) rfl rfl (Nat.le_of_ble_eq_true rfl) rfl sz ?_
  intro p e s m args below meth c ls C hr hlk hnm hl hsz hA wd
  subst hsz
  have hl : lv_has ls 2 [(0, .ref a0), (1, .int (iI st))] := hl
  have hp := p2_all hm.1 hm.2
  refine lv_iload_n C.1 C.2.1 dX0_hasState_0 rfl (lv_at hl 1 rfl) ?_
  refine z_if_lt C (tgt := 16) dX0_hasState_1 (by decide) (by omega) (fun c_1 => ?_) (fun c_1 => ?_)
  · skip
    refine z_iconst C dX0_hasState_16 ?_
    exact z_zret C hr hlk (by omega) wd (by first | rfl | exact (bI_t (by omega)).symm | exact (bI_f (by omega)).symm) dX0_hasState_17
  · skip
    refine lv_iload_n C.1 C.2.1 dX0_hasState_4 rfl (lv_at hl 1 rfl) ?_
    refine lv_aload_n C.1 C.2.1 dX0_hasState_5 rfl (lv_at hl 0 rfl) ?_
    refine z_cvi C wd hA (As := []) (rest := [.int (iI st)]) (ws2 := [zO a0 0 [.int (iI mm), .int (iI oo), .ref a1]]) (c_X0_states l D cy cs a0 a1 mm oo (by omega)) (cwV 0 C.2.2.2.2 gX0_hasState_X0_states rfl rfl rfl (by decide +kernel) ⟨Nat.le_of_ble_eq_true rfl, Nat.le_of_ble_eq_true rfl⟩) [0] rfl rfl rfl ⟨rfl, [], [], 1, rfl, rfl, rfl, by decide +kernel⟩ rfl rfl rfl rfl (Nat.le_of_ble_eq_true rfl) hl.1 dX0_hasState_6 ⟨Nat.zero_le _, Nat.zero_le _⟩ (fun H locs wd => ?_)
    refine z_icmp_ge C (tgt := 16) dX0_hasState_9 (by decide) (by omega) (fun c_2 => ?_) (fun c_2 => ?_)
    · skip
      refine z_iconst C dX0_hasState_16 ?_
      exact z_zret C hr hlk (by omega) wd (by first | rfl | exact (bI_t (by omega)).symm | exact (bI_f (by omega)).symm) dX0_hasState_17
    · skip
      refine z_iconst C dX0_hasState_12 ?_
      refine z_goto C (tgt := 17) dX0_hasState_13 (by decide) ?_
      exact z_zret C hr hlk (by omega) wd (by first | rfl | exact (bI_t (by omega)).symm | exact (bI_f (by omega)).symm) dX0_hasState_17
set_option maxRecDepth 100000 in
set_option maxHeartbeats 4000000 in
theorem c_X0_windowOf (l : Launch) (D : va_G) (cy cs : ClassId) (a0 a1 : Nat) (mm oo : Int) (st b : Int) (hm : 1 ≤ mm ∧ mm ≤ 5) (hb : 0 ≤ b ∧ b ≤ 1) : zCi l D (zT cy cs) yX0_windowOf wsX0_windowOf ({ frames := 0, cells := 0, slots := 0, locals := 0 } : Room) [.ref a0, .int (iI st), .int (iI b)] [zO a0 0 [.int (iI mm), .int (iI oo), .ref a1]] (wn mm st b) [zO a0 0 [.int (iI mm), .int (iI oo), .ref a1]] := by
  intro sz
  refine zM_mk (cc := cX0_windowOf) (maxL := 3) (ret := (some .int)) (own := RX0) (Qc := fun sz => va_Qi (fun r (_ : Unit) => r = iI (wn mm st b)) (fun _ t => zQ D (zT cy cs) (va_A [zO a0 0 [.int (iI mm), .int (iI oo), .ref a1]] sz) [zO a0 0 [.int (iI mm), .int (iI oo), .ref a1]] t) (va_A [zO a0 0 [.int (iI mm), .int (iI oo), .ref a1]] sz)) (by decide) rfl rfl (Nat.le_of_ble_eq_true rfl) rfl sz ?_
  intro p e s m args below meth c ls C hr hlk hnm hl hsz hA wd
  subst hsz
  have hl : lv_has ls 3 [(0, .ref a0), (1, .int (iI st)), (2, .int (iI b))] := hl
  have iX0 : ∀ w ∈ u_ws RX0 TX0 3, w ∈ wsX0_windowOf := by decide +kernel
  have L19 := C.2.2.2.2 (.fieldLink RX0 19 "LikelyWalks$Code" "memory" "I") (by decide +kernel)
  refine lv_iload_n C.1 C.2.1 dX0_windowOf_0 rfl (lv_at hl 2 rfl) ?_
  refine lv_aload_n C.1 C.2.1 dX0_windowOf_1 rfl (lv_at hl 0 rfl) ?_
  refine z_get C wd (Cn := RX0) (TT := TX0) (N := 3) (ci := 0) iX0 0 rfl rfl 0 (by decide) L19 (fun _ h => h) rfl dX0_windowOf_2 ?_
  refine z_ishl C (b * p2 mm) dX0_windowOf_5 (iI_bshl hm.1 hm.2 hb.1 hb.2) ?_
  refine lv_iload_n C.1 C.2.1 dX0_windowOf_6 rfl (lv_at hl 1 rfl) ?_
  refine z_iadd C dX0_windowOf_7 ?_
  exact z_iret C hr hlk wd (by first | rfl | omega) dX0_windowOf_8
set_option maxRecDepth 100000 in
set_option maxHeartbeats 4000000 in
theorem c_X0_stateAfter (l : Launch) (D : va_G) (cy cs : ClassId) (a0 a1 : Nat) (mm oo : Int) (st b : Int) (hm : 1 ≤ mm ∧ mm ≤ 5) (hs : 0 ≤ st ∧ st < p2 mm) (hb : 0 ≤ b ∧ b ≤ 1) : zCi l D (zT cy cs) yX0_stateAfter wsX0_stateAfter ({ frames := 1, cells := 0, slots := 0, locals := 22 } : Room) [.ref a0, .int (iI st), .int (iI b)] [zO a0 0 [.int (iI mm), .int (iI oo), .ref a1]] (wn mm st b / 2) [zO a0 0 [.int (iI mm), .int (iI oo), .ref a1]] := by
  intro sz
  refine zM_mk (cc := cX0_stateAfter) (maxL := 3) (ret := (some .int)) (own := RX0) (Qc := fun sz => va_Qi (fun r (_ : Unit) => r = iI (wn mm st b / 2)) (fun _ t => zQ D (zT cy cs) (va_A [zO a0 0 [.int (iI mm), .int (iI oo), .ref a1]] sz) [zO a0 0 [.int (iI mm), .int (iI oo), .ref a1]] t) (va_A [zO a0 0 [.int (iI mm), .int (iI oo), .ref a1]] sz)) (by decide) rfl rfl (Nat.le_of_ble_eq_true rfl) rfl sz ?_
  intro p e s m args below meth c ls C hr hlk hnm hl hsz hA wd
  subst hsz
  have hl : lv_has ls 3 [(0, .ref a0), (1, .int (iI st)), (2, .int (iI b))] := hl
  have hw := wn_le hm.1 hm.2 hs.1 hs.2 hb.1 hb.2
  refine lv_aload_n C.1 C.2.1 dX0_stateAfter_0 rfl (lv_at hl 0 rfl) ?_
  refine lv_iload_n C.1 C.2.1 dX0_stateAfter_1 rfl (lv_at hl 1 rfl) ?_
  refine lv_iload_n C.1 C.2.1 dX0_stateAfter_2 rfl (lv_at hl 2 rfl) ?_
  refine z_cvi C wd hA (As := [.int (iI st), .int (iI b)]) (rest := []) (ws2 := [zO a0 0 [.int (iI mm), .int (iI oo), .ref a1]]) (c_X0_windowOf l D cy cs a0 a1 mm oo st b (by omega) (by omega)) (cwV 2 C.2.2.2.2 gX0_stateAfter_X0_windowOf rfl rfl rfl (by decide +kernel) ⟨Nat.le_of_ble_eq_true rfl, Nat.le_of_ble_eq_true rfl⟩) [0] rfl rfl rfl ⟨rfl, [], [], 1, rfl, rfl, rfl, by decide +kernel⟩ rfl rfl rfl rfl (Nat.le_of_ble_eq_true rfl) hl.1 dX0_stateAfter_3 ⟨Nat.zero_le _, Nat.zero_le _⟩ (fun H locs wd => ?_)
  refine z_iconst C dX0_stateAfter_6 ?_
  refine z_ishr C (wn mm st b / 2) dX0_stateAfter_7 (iI_shr (k := 1) (by omega) (by omega) (by omega) (by omega)) ?_
  exact z_iret C hr hlk wd (by first | rfl | omega) dX0_stateAfter_8
set_option maxRecDepth 100000 in
set_option maxHeartbeats 4000000 in
theorem c_X0_bitInto (l : Launch) (D : va_G) (cy cs : ClassId) (a0 a1 : Nat) (mm oo : Int) (st : Int) (hm : 1 ≤ mm ∧ mm ≤ 5) (hs : 0 ≤ st ∧ st < p2 mm) : zCi l D (zT cy cs) yX0_bitInto wsX0_bitInto ({ frames := 0, cells := 0, slots := 0, locals := 0 } : Room) [.ref a0, .int (iI st)] [zO a0 0 [.int (iI mm), .int (iI oo), .ref a1]] (st / p2 (mm - 1)) [zO a0 0 [.int (iI mm), .int (iI oo), .ref a1]] := by
  intro sz
  refine zM_mk (cc := cX0_bitInto) (maxL := 2) (ret := (some .int)) (own := RX0) (Qc := fun sz => va_Qi (fun r (_ : Unit) => r = iI (st / p2 (mm - 1))) (fun _ t => zQ D (zT cy cs) (va_A [zO a0 0 [.int (iI mm), .int (iI oo), .ref a1]] sz) [zO a0 0 [.int (iI mm), .int (iI oo), .ref a1]] t) (va_A [zO a0 0 [.int (iI mm), .int (iI oo), .ref a1]] sz)) (by decide) rfl rfl (Nat.le_of_ble_eq_true rfl) rfl sz ?_
  intro p e s m args below meth c ls C hr hlk hnm hl hsz hA wd
  subst hsz
  have hl : lv_has ls 2 [(0, .ref a0), (1, .int (iI st))] := hl
  have iX0 : ∀ w ∈ u_ws RX0 TX0 3, w ∈ wsX0_bitInto := by decide +kernel
  have L19 := C.2.2.2.2 (.fieldLink RX0 19 "LikelyWalks$Code" "memory" "I") (by decide +kernel)
  have hp := p2_all hm.1 hm.2
  refine lv_iload_n C.1 C.2.1 dX0_bitInto_0 rfl (lv_at hl 1 rfl) ?_
  refine lv_aload_n C.1 C.2.1 dX0_bitInto_1 rfl (lv_at hl 0 rfl) ?_
  refine z_get C wd (Cn := RX0) (TT := TX0) (N := 3) (ci := 0) iX0 0 rfl rfl 0 (by decide) L19 (fun _ h => h) rfl dX0_bitInto_2 ?_
  refine z_iconst C dX0_bitInto_5 ?_
  refine z_isub C dX0_bitInto_6 ?_
  refine z_ishr C (st / p2 (mm - 1)) dX0_bitInto_7 (iI_shr (by omega) (by omega) (by omega) (by omega)) ?_
  exact z_iret C hr hlk wd (by first | rfl | omega) dX0_bitInto_8
set_option maxRecDepth 100000 in
set_option maxHeartbeats 4000000 in
theorem c_X0_lowerBefore (l : Launch) (D : va_G) (cy cs : ClassId) (a0 a1 : Nat) (mm oo : Int) (st : Int) (hm : 1 ≤ mm ∧ mm ≤ 5) (hs : 0 ≤ st ∧ st < p2 mm) : zCi l D (zT cy cs) yX0_lowerBefore wsX0_lowerBefore ({ frames := 1, cells := 0, slots := 0, locals := 20 } : Room) [.ref a0, .int (iI st)] [zO a0 0 [.int (iI mm), .int (iI oo), .ref a1]] (2 * st % p2 mm) [zO a0 0 [.int (iI mm), .int (iI oo), .ref a1]] := by
  intro sz
  refine zM_mk (cc := cX0_lowerBefore) (maxL := 2) (ret := (some .int)) (own := RX0) (Qc := fun sz => va_Qi (fun r (_ : Unit) => r = iI (2 * st % p2 mm)) (fun _ t => zQ D (zT cy cs) (va_A [zO a0 0 [.int (iI mm), .int (iI oo), .ref a1]] sz) [zO a0 0 [.int (iI mm), .int (iI oo), .ref a1]] t) (va_A [zO a0 0 [.int (iI mm), .int (iI oo), .ref a1]] sz)) (by decide) rfl rfl (Nat.le_of_ble_eq_true rfl) rfl sz ?_
  intro p e s m args below meth c ls C hr hlk hnm hl hsz hA wd
  subst hsz
  have hl : lv_has ls 2 [(0, .ref a0), (1, .int (iI st))] := hl
  have hp := p2_all hm.1 hm.2
  refine z_iconst C dX0_lowerBefore_0 ?_
  refine lv_iload_n C.1 C.2.1 dX0_lowerBefore_1 rfl (lv_at hl 1 rfl) ?_
  refine z_imul C dX0_lowerBefore_2 ?_
  refine lv_aload_n C.1 C.2.1 dX0_lowerBefore_3 rfl (lv_at hl 0 rfl) ?_
  refine z_cvi C wd hA (As := []) (rest := [.int (iI (2 * st))]) (ws2 := [zO a0 0 [.int (iI mm), .int (iI oo), .ref a1]]) (c_X0_states l D cy cs a0 a1 mm oo (by omega)) (cwV 0 C.2.2.2.2 gX0_lowerBefore_X0_states rfl rfl rfl (by decide +kernel) ⟨Nat.le_of_ble_eq_true rfl, Nat.le_of_ble_eq_true rfl⟩) [0] rfl rfl rfl ⟨rfl, [], [], 1, rfl, rfl, rfl, by decide +kernel⟩ rfl rfl rfl rfl (Nat.le_of_ble_eq_true rfl) hl.1 dX0_lowerBefore_4 ⟨Nat.zero_le _, Nat.zero_le _⟩ (fun H locs wd => ?_)
  refine z_iconst C dX0_lowerBefore_7 ?_
  refine z_isub C dX0_lowerBefore_8 ?_
  refine z_iand C (2 * st % p2 mm) dX0_lowerBefore_9 (iI_mask hm.1 hm.2 (by omega) (by omega)) ?_
  exact z_iret C hr hlk wd (by first | rfl | omega) dX0_lowerBefore_10
set_option maxRecDepth 100000 in
set_option maxHeartbeats 4000000 in
theorem c_X0_symbolOf (l : Launch) (D : va_G) (cy cs : ClassId) (a0 a1 : Nat) (mm oo : Int) (tp : Int → Int) (o w : Int) (ht : tpOk tp) (ho : 0 ≤ o ∧ o < 3) (hw : 0 ≤ w ∧ w < 64) : zCi l D (zT cy cs) yX0_symbolOf wsX0_symbolOf ({ frames := 1, cells := 0, slots := 0, locals := 20 } : Room) [.ref a0, .int (iI o), .int (iI w)] [zO a0 0 [.int (iI mm), .int (iI oo), .ref a1], zA cy a1 3 tp] (sy (tp o) w) [zO a0 0 [.int (iI mm), .int (iI oo), .ref a1], zA cy a1 3 tp] := by
  intro sz
  refine zM_mk (cc := cX0_symbolOf) (maxL := 3) (ret := (some .int)) (own := RX0) (Qc := fun sz => va_Qi (fun r (_ : Unit) => r = iI (sy (tp o) w)) (fun _ t => zQ D (zT cy cs) (va_A [zO a0 0 [.int (iI mm), .int (iI oo), .ref a1], zA cy a1 3 tp] sz) [zO a0 0 [.int (iI mm), .int (iI oo), .ref a1], zA cy a1 3 tp] t) (va_A [zO a0 0 [.int (iI mm), .int (iI oo), .ref a1], zA cy a1 3 tp] sz)) (by decide) rfl rfl (Nat.le_of_ble_eq_true rfl) rfl sz ?_
  intro p e s m args below meth c ls C hr hlk hnm hl hsz hA wd
  subst hsz
  have hl : lv_has ls 3 [(0, .ref a0), (1, .int (iI o)), (2, .int (iI w))] := hl
  have iX0 : ∀ w ∈ u_ws RX0 TX0 3, w ∈ wsX0_symbolOf := by decide +kernel
  have L9 := C.2.2.2.2 (.fieldLink RX0 9 "LikelyWalks$Code" "taps" "[I") (by decide +kernel)
  have hto := ht o ho.1 ho.2
  have hl6 := land_lt (b := w) hto.1 hto.2
  refine lv_aload_n C.1 C.2.1 dX0_symbolOf_0 rfl (lv_at hl 0 rfl) ?_
  refine z_get C wd (Cn := RX0) (TT := TX0) (N := 3) (ci := 0) iX0 0 rfl rfl 2 (by decide) L9 (fun _ h => h) rfl dX0_symbolOf_1 ?_
  refine lv_iload_n C.1 C.2.1 dX0_symbolOf_4 rfl (lv_at hl 1 rfl) ?_
  refine z_iald C wd 1 rfl (by omega) (by decide) dX0_symbolOf_5 ?_
  refine lv_iload_n C.1 C.2.1 dX0_symbolOf_6 rfl (lv_at hl 2 rfl) ?_
  refine z_iand C (((tp o).toNat &&& (w).toNat : Nat) : Int) dX0_symbolOf_7 (iI_land (by omega) (by omega)) ?_
  refine z_csi C wd hA (As := [.int (iI (((tp o).toNat &&& (w).toNat : Nat) : Int))]) (rest := []) (ws2 := [zO a0 0 [.int (iI mm), .int (iI oo), .ref a1], zA cy a1 3 tp]) (c_bitCount l D cy cs (((tp o).toNat &&& (w).toNat : Nat) : Int) (by omega)) (va_cwS 1 C.2.2.2.2 gX0_symbolOf_J6_bitCount_0f7a4 rfl rfl rfl (by decide +kernel) ⟨Nat.le_of_ble_eq_true rfl, Nat.le_of_ble_eq_true rfl⟩) [] rfl rfl rfl ⟨rfl, [0, 1], [zO a0 0 [.int (iI mm), .int (iI oo), .ref a1], zA cy a1 3 tp], 2, rfl, rfl, rfl, by decide +kernel⟩ rfl rfl (Nat.le_of_ble_eq_true rfl) hl.1 dX0_symbolOf_8 ⟨Nat.zero_le _, Nat.zero_le _⟩ (fun H locs wd => ?_)
  refine z_iconst C dX0_symbolOf_11 ?_
  refine z_iand C (sy (tp o) w) dX0_symbolOf_12 (by rw [iI_and1 (by unfold pop6; omega) (by unfold pop6; omega), pop6_par _ hl6]; rfl) ?_
  exact z_iret C hr hlk wd (by first | rfl | omega) dX0_symbolOf_13
set_option maxRecDepth 100000 in
set_option maxHeartbeats 4000000 in
theorem c_X0_symbolsOf (l : Launch) (D : va_G) (cy cs : ClassId) (a0 a1 : Nat) (mm oo : Int) (tp : Int → Int) (st b : Int) (hm : 1 ≤ mm ∧ mm ≤ 5) (ho : 2 ≤ oo ∧ oo ≤ 3) (ht : tpOk tp) (hs : 0 ≤ st ∧ st < p2 mm) (hb : 0 ≤ b ∧ b ≤ 1) : zCi l D (zT cy cs) yX0_symbolsOf wsX0_symbolsOf ({ frames := 2, cells := 0, slots := 0, locals := 42 } : Room) [.ref a0, .int (iI st), .int (iI b)] [zO a0 0 [.int (iI mm), .int (iI oo), .ref a1], zA cy a1 3 tp] (nb (fun k => sy (tp k) (wn mm st b)) oo.toNat) [zO a0 0 [.int (iI mm), .int (iI oo), .ref a1], zA cy a1 3 tp] := by
  intro sz
  refine zM_mk (cc := cX0_symbolsOf) (maxL := 6) (ret := (some .int)) (own := RX0) (Qc := fun sz => va_Qi (fun r (_ : Unit) => r = iI (nb (fun k => sy (tp k) (wn mm st b)) oo.toNat)) (fun _ t => zQ D (zT cy cs) (va_A [zO a0 0 [.int (iI mm), .int (iI oo), .ref a1], zA cy a1 3 tp] sz) [zO a0 0 [.int (iI mm), .int (iI oo), .ref a1], zA cy a1 3 tp] t) (va_A [zO a0 0 [.int (iI mm), .int (iI oo), .ref a1], zA cy a1 3 tp] sz)) (by decide) rfl rfl (Nat.le_of_ble_eq_true rfl) rfl sz ?_
  intro p e s m args below meth c ls C hr hlk hnm hl hsz hA wd
  subst hsz
  have hl : lv_has ls 6 [(0, .ref a0), (1, .int (iI st)), (2, .int (iI b))] := hl
  have iX0 : ∀ w ∈ u_ws RX0 TX0 3, w ∈ wsX0_symbolsOf := by decide +kernel
  have L23 := C.2.2.2.2 (.fieldLink RX0 23 "LikelyWalks$Code" "outputs" "I") (by decide +kernel)
  have hw := wn_le hm.1 hm.2 hs.1 hs.2 hb.1 hb.2
  refine lv_aload_n C.1 C.2.1 dX0_symbolsOf_0 rfl (lv_at hl 0 rfl) ?_
  refine lv_iload_n C.1 C.2.1 dX0_symbolsOf_1 rfl (lv_at hl 1 rfl) ?_
  refine lv_iload_n C.1 C.2.1 dX0_symbolsOf_2 rfl (lv_at hl 2 rfl) ?_
  refine z_cvi C wd hA (As := [.int (iI st), .int (iI b)]) (rest := []) (ws2 := [zO a0 0 [.int (iI mm), .int (iI oo), .ref a1], zA cy a1 3 tp]) (c_X0_windowOf l D cy cs a0 a1 mm oo st b (by omega) (by omega)) (cwV 2 C.2.2.2.2 gX0_symbolsOf_X0_windowOf rfl rfl rfl (by decide +kernel) ⟨Nat.le_of_ble_eq_true rfl, Nat.le_of_ble_eq_true rfl⟩) [0] rfl rfl rfl ⟨rfl, [1], [zA cy a1 3 tp], 2, rfl, rfl, rfl, by decide +kernel⟩ rfl rfl rfl rfl (Nat.le_of_ble_eq_true rfl) hl.1 dX0_symbolsOf_3 ⟨Nat.zero_le _, Nat.zero_le _⟩ (fun H locs wd => ?_)
  refine lv_istore_n (lv' := [(3, .int (iI (wn mm st b))), (0, .ref a0), (1, .int (iI st)), (2, .int (iI b))]) C.1 C.2.1 dX0_symbolsOf_6 rfl hl (by decide) rfl (fun ls hl => ?_)
  refine z_iconst C dX0_symbolsOf_7 ?_
  refine lv_istore (lv' := [(4, .int (iI 0)), (3, .int (iI (wn mm st b))), (0, .ref a0), (1, .int (iI st)), (2, .int (iI b))]) C.1 C.2.1 dX0_symbolsOf_8 hl (by decide) rfl (fun ls hl => ?_)
  refine z_iconst C dX0_symbolsOf_10 ?_
  refine lv_istore (lv' := [(5, .int (iI 0)), (4, .int (iI 0)), (3, .int (iI (wn mm st b))), (0, .ref a0), (1, .int (iI st)), (2, .int (iI b))]) C.1 C.2.1 dX0_symbolsOf_11 hl (by decide) rfl (fun ls hl => ?_)
  refine z_loop2 (P := fun (x : Int) (k : Int) => (0 ≤ k ∧ k ≤ oo) ∧ (x = nb (fun k => sy (tp k) (wn mm st b)) k.toNat)) (mu := fun (x : Int) (k : Int) => (oo - k).toNat) (ws := fun (x : Int) (k : Int) => [zO a0 0 [.int (iI mm), .int (iI oo), .ref a1], zA cy a1 3 tp]) (lv := fun (x : Int) (k : Int) => [(0, .ref a0), (1, .int (iI st)), (2, .int (iI b)), (3, .int (iI (wn mm st b))), (4, .int (iI x)), (5, .int (iI k))]) 0 0 C ⟨(by omega), rfl⟩ wd (lv_sub hl [3, 4, 5, 2, 1, 0] rfl) ?_
  intro x k hP13 ih13 H locs ls wd hl
  obtain ⟨h13_0, h13_1⟩ := hP13
  try dsimp only at h13_0 h13_1
  have wd : Wd D (zT cy cs) _ s.heap s [zO a0 0 [.int (iI mm), .int (iI oo), .ref a1], zA cy a1 3 tp] H locs := wd
  have hl : lv_has ls 6 [(0, .ref a0), (1, .int (iI st)), (2, .int (iI b)), (3, .int (iI (wn mm st b))), (4, .int (iI x)), (5, .int (iI k))] := hl
  refine lv_iload C.1 C.2.1 dX0_symbolsOf_13 (lv_at hl 5 rfl) ?_
  refine lv_aload_n C.1 C.2.1 dX0_symbolsOf_15 rfl (lv_at hl 0 rfl) ?_
  refine z_get C wd (Cn := RX0) (TT := TX0) (N := 3) (ci := 0) iX0 0 rfl rfl 1 (by decide) L23 (fun _ h => h) rfl dX0_symbolsOf_16 ?_
  refine z_icmp_ge C (tgt := 42) dX0_symbolsOf_19 (by decide) (by omega) (fun c_1 => ?_) (fun c_1 => ?_)
  · skip
    refine lv_iload C.1 C.2.1 dX0_symbolsOf_42 (lv_at hl 4 rfl) ?_
    exact z_iret C hr hlk wd (by rw [h13_1, show k = oo by omega]) dX0_symbolsOf_44
  · skip
    refine z_iconst C dX0_symbolsOf_22 ?_
    refine lv_iload C.1 C.2.1 dX0_symbolsOf_23 (lv_at hl 4 rfl) ?_
    refine z_imul C dX0_symbolsOf_25 ?_
    refine lv_aload_n C.1 C.2.1 dX0_symbolsOf_26 rfl (lv_at hl 0 rfl) ?_
    refine lv_iload C.1 C.2.1 dX0_symbolsOf_27 (lv_at hl 5 rfl) ?_
    refine lv_iload_n C.1 C.2.1 dX0_symbolsOf_29 rfl (lv_at hl 3 rfl) ?_
    refine z_cvi C wd hA (As := [.int (iI k), .int (iI (wn mm st b))]) (rest := [.int (iI (2 * x))]) (ws2 := [zO a0 0 [.int (iI mm), .int (iI oo), .ref a1], zA cy a1 3 tp]) (c_X0_symbolOf l D cy cs a0 a1 mm oo tp k (wn mm st b) (by omega) (by omega) (by omega)) (cwV 2 C.2.2.2.2 gX0_symbolsOf_X0_symbolOf rfl rfl rfl (by decide +kernel) ⟨Nat.le_of_ble_eq_true rfl, Nat.le_of_ble_eq_true rfl⟩) [0, 1] rfl rfl rfl ⟨rfl, [], [], 2, rfl, rfl, rfl, by decide +kernel⟩ rfl rfl rfl rfl (Nat.le_of_ble_eq_true rfl) hl.1 dX0_symbolsOf_30 ⟨Nat.zero_le _, Nat.zero_le _⟩ (fun H locs wd => ?_)
    refine z_iadd C dX0_symbolsOf_33 ?_
    refine lv_istore (lv' := [(4, .int (iI ((2 * x) + (sy (tp k) (wn mm st b))))), (0, .ref a0), (1, .int (iI st)), (2, .int (iI b)), (3, .int (iI (wn mm st b))), (5, .int (iI k))]) C.1 C.2.1 dX0_symbolsOf_34 hl (by decide) rfl (fun ls hl => ?_)
    refine z_iinc C (lv' := [(5, .int (iI (k + 1))), (4, .int (iI ((2 * x) + (sy (tp k) (wn mm st b))))), (0, .ref a0), (1, .int (iI st)), (2, .int (iI b)), (3, .int (iI (wn mm st b)))]) hl 5 dX0_symbolsOf_36 rfl (by decide) rfl (fun ls hl => ?_)
    refine z_goto C (tgt := 13) dX0_symbolsOf_39 (by decide) ?_
    exact ih13 ((2 * x) + (sy (tp k) (wn mm st b))) (k + 1) ⟨(by omega), (by have e := nb_at (fun k => sy (tp k) (wn mm st b)) h13_0.1; rw [e, h13_1])⟩ (by omega) H locs _ wd (lv_sub hl [2, 3, 4, 5, 1, 0] rfl)
set_option maxRecDepth 100000 in
set_option maxHeartbeats 4000000 in
theorem c_X0_onesOf (l : Launch) (D : va_G) (cy cs : ClassId) (a0 a1 : Nat) (mm oo : Int) (tp : Int → Int) (st b : Int) (hm : 1 ≤ mm ∧ mm ≤ 5) (ho : 2 ≤ oo ∧ oo ≤ 3) (ht : tpOk tp) (hs : 0 ≤ st ∧ st < p2 mm) (hb : 0 ≤ b ∧ b ≤ 1) : zCi l D (zT cy cs) yX0_onesOf wsX0_onesOf ({ frames := 3, cells := 0, slots := 0, locals := 67 } : Room) [.ref a0, .int (iI st), .int (iI b)] [zO a0 0 [.int (iI mm), .int (iI oo), .ref a1], zA cy a1 3 tp] (sm (fun k => sy (tp k) (wn mm st b)) oo.toNat) [zO a0 0 [.int (iI mm), .int (iI oo), .ref a1], zA cy a1 3 tp] := by
  intro sz
  refine zM_mk (cc := cX0_onesOf) (maxL := 3) (ret := (some .int)) (own := RX0) (Qc := fun sz => va_Qi (fun r (_ : Unit) => r = iI (sm (fun k => sy (tp k) (wn mm st b)) oo.toNat)) (fun _ t => zQ D (zT cy cs) (va_A [zO a0 0 [.int (iI mm), .int (iI oo), .ref a1], zA cy a1 3 tp] sz) [zO a0 0 [.int (iI mm), .int (iI oo), .ref a1], zA cy a1 3 tp] t) (va_A [zO a0 0 [.int (iI mm), .int (iI oo), .ref a1], zA cy a1 3 tp] sz)) (by decide) rfl rfl (Nat.le_of_ble_eq_true rfl) rfl sz ?_
  intro p e s m args below meth c ls C hr hlk hnm hl hsz hA wd
  subst hsz
  have hl : lv_has ls 3 [(0, .ref a0), (1, .int (iI st)), (2, .int (iI b))] := hl
  refine lv_aload_n C.1 C.2.1 dX0_onesOf_0 rfl (lv_at hl 0 rfl) ?_
  refine lv_iload_n C.1 C.2.1 dX0_onesOf_1 rfl (lv_at hl 1 rfl) ?_
  refine lv_iload_n C.1 C.2.1 dX0_onesOf_2 rfl (lv_at hl 2 rfl) ?_
  refine z_cvi C wd hA (As := [.int (iI st), .int (iI b)]) (rest := []) (ws2 := [zO a0 0 [.int (iI mm), .int (iI oo), .ref a1], zA cy a1 3 tp]) (c_X0_symbolsOf l D cy cs a0 a1 mm oo tp st b (by omega) (by omega) (by omega) (by omega) (by omega)) (cwV 2 C.2.2.2.2 gX0_onesOf_X0_symbolsOf rfl rfl rfl (by decide +kernel) ⟨Nat.le_of_ble_eq_true rfl, Nat.le_of_ble_eq_true rfl⟩) [0, 1] rfl rfl rfl ⟨rfl, [], [], 2, rfl, rfl, rfl, by decide +kernel⟩ rfl rfl rfl rfl (Nat.le_of_ble_eq_true rfl) hl.1 dX0_onesOf_3 ⟨Nat.zero_le _, Nat.zero_le _⟩ (fun H locs wd => ?_)
  have hF : ∀ k : Int, 0 ≤ k → k < oo.toNat → 0 ≤ (fun k => sy (tp k) (wn mm st b)) k ∧ (fun k => sy (tp k) (wn mm st b)) k ≤ 1 := fun k _ _ => sy_le _ _
  have hN := nb_le hF (by omega)
  refine z_csi C wd hA (As := [.int (iI (nb (fun k => sy (tp k) (wn mm st b)) oo.toNat))]) (rest := []) (ws2 := [zO a0 0 [.int (iI mm), .int (iI oo), .ref a1], zA cy a1 3 tp]) (c_bitCount l D cy cs (nb (fun k => sy (tp k) (wn mm st b)) oo.toNat) (by omega)) (va_cwS 1 C.2.2.2.2 gX0_onesOf_J6_bitCount_0f7a4 rfl rfl rfl (by decide +kernel) ⟨Nat.le_of_ble_eq_true rfl, Nat.le_of_ble_eq_true rfl⟩) [] rfl rfl rfl ⟨rfl, [0, 1], [zO a0 0 [.int (iI mm), .int (iI oo), .ref a1], zA cy a1 3 tp], 2, rfl, rfl, rfl, by decide +kernel⟩ rfl rfl (Nat.le_of_ble_eq_true rfl) hl.1 dX0_onesOf_6 ⟨Nat.zero_le _, Nat.zero_le _⟩ (fun H locs wd => ?_)
  exact z_iret C hr hlk wd (pop6_nb hF (by omega)) dX0_onesOf_9
set_option maxRecDepth 100000 in
set_option maxHeartbeats 4000000 in
theorem c_X0_priceOf (l : Launch) (D : va_G) (cy cs : ClassId) (a0 a1 a2 n : Nat) (mm oo : Int) (tp f : Int → Int) (st b q : Int) (hm : 1 ≤ mm ∧ mm ≤ 5) (ho : 2 ≤ oo ∧ oo ≤ 3) (ht : tpOk tp) (hf : rwOk f n) (hn : n < 2147483648) (hs : 0 ≤ st ∧ st < p2 mm) (hb : 0 ≤ b ∧ b ≤ 1) (hq : 0 ≤ q ∧ q + oo ≤ n) : zCi l D (zT cy cs) yX0_priceOf wsX0_priceOf ({ frames := 2, cells := 0, slots := 0, locals := 42 } : Room) [.ref a0, .int (iI st), .int (iI b), .ref a2, .int (iI q)] [zO a0 0 [.int (iI mm), .int (iI oo), .ref a1], zA cy a1 3 tp, zA cy a2 n f] (sm (pr1 tp f q (wn mm st b)) oo.toNat) [zO a0 0 [.int (iI mm), .int (iI oo), .ref a1], zA cy a1 3 tp, zA cy a2 n f] := by
  intro sz
  refine zM_mk (cc := cX0_priceOf) (maxL := 9) (ret := (some .int)) (own := RX0) (Qc := fun sz => va_Qi (fun r (_ : Unit) => r = iI (sm (pr1 tp f q (wn mm st b)) oo.toNat)) (fun _ t => zQ D (zT cy cs) (va_A [zO a0 0 [.int (iI mm), .int (iI oo), .ref a1], zA cy a1 3 tp, zA cy a2 n f] sz) [zO a0 0 [.int (iI mm), .int (iI oo), .ref a1], zA cy a1 3 tp, zA cy a2 n f] t) (va_A [zO a0 0 [.int (iI mm), .int (iI oo), .ref a1], zA cy a1 3 tp, zA cy a2 n f] sz)) (by decide) rfl rfl (Nat.le_of_ble_eq_true rfl) rfl sz ?_
  intro p e s m args below meth c ls C hr hlk hnm hl hsz hA wd
  subst hsz
  have hl : lv_has ls 9 [(0, .ref a0), (1, .int (iI st)), (2, .int (iI b)), (3, .ref a2), (4, .int (iI q))] := hl
  have iX0 : ∀ w ∈ u_ws RX0 TX0 3, w ∈ wsX0_priceOf := by decide +kernel
  have L23 := C.2.2.2.2 (.fieldLink RX0 23 "LikelyWalks$Code" "outputs" "I") (by decide +kernel)
  have hw := wn_le hm.1 hm.2 hs.1 hs.2 hb.1 hb.2
  refine lv_aload_n C.1 C.2.1 dX0_priceOf_0 rfl (lv_at hl 0 rfl) ?_
  refine lv_iload_n C.1 C.2.1 dX0_priceOf_1 rfl (lv_at hl 1 rfl) ?_
  refine lv_iload_n C.1 C.2.1 dX0_priceOf_2 rfl (lv_at hl 2 rfl) ?_
  refine z_cvi C wd hA (As := [.int (iI st), .int (iI b)]) (rest := []) (ws2 := [zO a0 0 [.int (iI mm), .int (iI oo), .ref a1], zA cy a1 3 tp, zA cy a2 n f]) (c_X0_windowOf l D cy cs a0 a1 mm oo st b (by omega) (by omega)) (cwV 2 C.2.2.2.2 gX0_priceOf_X0_windowOf rfl rfl rfl (by decide +kernel) ⟨Nat.le_of_ble_eq_true rfl, Nat.le_of_ble_eq_true rfl⟩) [0] rfl rfl rfl ⟨rfl, [1, 2], [zA cy a1 3 tp, zA cy a2 n f], 3, rfl, rfl, rfl, by decide +kernel⟩ rfl rfl rfl rfl (Nat.le_of_ble_eq_true rfl) hl.1 dX0_priceOf_3 ⟨Nat.zero_le _, Nat.zero_le _⟩ (fun H locs wd => ?_)
  refine lv_istore (lv' := [(5, .int (iI (wn mm st b))), (0, .ref a0), (1, .int (iI st)), (2, .int (iI b)), (3, .ref a2), (4, .int (iI q))]) C.1 C.2.1 dX0_priceOf_6 hl (by decide) rfl (fun ls hl => ?_)
  refine z_iconst C dX0_priceOf_8 ?_
  refine lv_istore (lv' := [(6, .int (iI 0)), (5, .int (iI (wn mm st b))), (0, .ref a0), (1, .int (iI st)), (2, .int (iI b)), (3, .ref a2), (4, .int (iI q))]) C.1 C.2.1 dX0_priceOf_9 hl (by decide) rfl (fun ls hl => ?_)
  refine z_iconst C dX0_priceOf_11 ?_
  refine lv_istore (lv' := [(7, .int (iI 0)), (6, .int (iI 0)), (5, .int (iI (wn mm st b))), (0, .ref a0), (1, .int (iI st)), (2, .int (iI b)), (3, .ref a2), (4, .int (iI q))]) C.1 C.2.1 dX0_priceOf_12 hl (by decide) rfl (fun ls hl => ?_)
  refine z_loop2 (P := fun (x : Int) (k : Int) => (0 ≤ k ∧ k ≤ oo) ∧ (x = sm (pr1 tp f q (wn mm st b)) k.toNat)) (mu := fun (x : Int) (k : Int) => (oo - k).toNat) (ws := fun (x : Int) (k : Int) => [zO a0 0 [.int (iI mm), .int (iI oo), .ref a1], zA cy a1 3 tp, zA cy a2 n f]) (lv := fun (x : Int) (k : Int) => [(0, .ref a0), (1, .int (iI st)), (2, .int (iI b)), (3, .ref a2), (4, .int (iI q)), (5, .int (iI (wn mm st b))), (6, .int (iI x)), (7, .int (iI k))]) 0 0 C ⟨(by omega), rfl⟩ wd (lv_sub hl [3, 4, 5, 6, 7, 2, 1, 0] rfl) ?_
  intro x k hP14 ih14 H locs ls wd hl
  obtain ⟨h14_0, h14_1⟩ := hP14
  try dsimp only at h14_0 h14_1
  have wd : Wd D (zT cy cs) _ s.heap s [zO a0 0 [.int (iI mm), .int (iI oo), .ref a1], zA cy a1 3 tp, zA cy a2 n f] H locs := wd
  have hl : lv_has ls 9 [(0, .ref a0), (1, .int (iI st)), (2, .int (iI b)), (3, .ref a2), (4, .int (iI q)), (5, .int (iI (wn mm st b))), (6, .int (iI x)), (7, .int (iI k))] := hl
  refine lv_iload C.1 C.2.1 dX0_priceOf_14 (lv_at hl 7 rfl) ?_
  refine lv_aload_n C.1 C.2.1 dX0_priceOf_16 rfl (lv_at hl 0 rfl) ?_
  refine z_get C wd (Cn := RX0) (TT := TX0) (N := 3) (ci := 0) iX0 0 rfl rfl 1 (by decide) L23 (fun _ h => h) rfl dX0_priceOf_17 ?_
  refine z_icmp_ge C (tgt := 60) dX0_priceOf_20 (by decide) (by omega) (fun c_1 => ?_) (fun c_1 => ?_)
  · skip
    refine lv_iload C.1 C.2.1 dX0_priceOf_60 (lv_at hl 6 rfl) ?_
    exact z_iret C hr hlk wd (by rw [h14_1, show k = oo by omega]) dX0_priceOf_62
  · skip
    refine lv_aload_n C.1 C.2.1 dX0_priceOf_23 rfl (lv_at hl 3 rfl) ?_
    refine lv_iload C.1 C.2.1 dX0_priceOf_24 (lv_at hl 4 rfl) ?_
    refine lv_iload C.1 C.2.1 dX0_priceOf_26 (lv_at hl 7 rfl) ?_
    refine z_iadd C dX0_priceOf_28 ?_
    refine z_iald C wd 2 rfl (by omega) (by omega) dX0_priceOf_29 ?_
    have hfk := hf (q + k) (by omega) (by omega)
    refine lv_istore (lv' := [(8, .int (iI (f (q + k)))), (0, .ref a0), (1, .int (iI st)), (2, .int (iI b)), (3, .ref a2), (4, .int (iI q)), (5, .int (iI (wn mm st b))), (6, .int (iI x)), (7, .int (iI k))]) C.1 C.2.1 dX0_priceOf_30 hl (by decide) rfl (fun ls hl => ?_)
    refine lv_iload C.1 C.2.1 dX0_priceOf_32 (lv_at hl 0 rfl) ?_
    refine z_iconst C dX0_priceOf_34 ?_
    refine z_icmp_eq C (tgt := 54) dX0_priceOf_35 (by decide) (by omega) (fun c_2 => ?_) (fun c_2 => ?_)
    · skip
      refine z_iinc C (lv' := [(7, .int (iI (k + 1))), (8, .int (iI (f (q + k)))), (0, .ref a0), (1, .int (iI st)), (2, .int (iI b)), (3, .ref a2), (4, .int (iI q)), (5, .int (iI (wn mm st b))), (6, .int (iI x))]) hl 8 dX0_priceOf_54 rfl (by decide) rfl (fun ls hl => ?_)
      refine z_goto C (tgt := 14) dX0_priceOf_57 (by decide) ?_
      exact ih14 x (k + 1) ⟨(by omega), (by have e := sm_at (pr1 tp f q (wn mm st b)) h14_0.1; have e2 : pr1 tp f q (wn mm st b) k = if f (q + k) = 2 ∨ f (q + k) = sy (tp k) (wn mm st b) then 0 else 1 := rfl; split at e2 <;> omega)⟩ (by omega) H locs _ wd (lv_sub hl [2, 3, 4, 5, 6, 7, 8, 0] rfl)
    · skip
      refine lv_iload C.1 C.2.1 dX0_priceOf_38 (lv_at hl 0 rfl) ?_
      refine lv_aload_n C.1 C.2.1 dX0_priceOf_40 rfl (lv_at hl 1 rfl) ?_
      refine lv_iload C.1 C.2.1 dX0_priceOf_41 (lv_at hl 8 rfl) ?_
      refine lv_iload C.1 C.2.1 dX0_priceOf_43 (lv_at hl 6 rfl) ?_
      refine z_cvi C wd hA (As := [.int (iI k), .int (iI (wn mm st b))]) (rest := [.int (iI (f (q + k)))]) (ws2 := [zO a0 0 [.int (iI mm), .int (iI oo), .ref a1], zA cy a1 3 tp, zA cy a2 n f]) (c_X0_symbolOf l D cy cs a0 a1 mm oo tp k (wn mm st b) (by omega) (by omega) (by omega)) (cwV 2 C.2.2.2.2 gX0_priceOf_X0_symbolOf rfl rfl rfl (by decide +kernel) ⟨Nat.le_of_ble_eq_true rfl, Nat.le_of_ble_eq_true rfl⟩) [0, 1] rfl rfl rfl ⟨rfl, [2], [zA cy a2 n f], 3, rfl, rfl, rfl, by decide +kernel⟩ rfl rfl rfl rfl (Nat.le_of_ble_eq_true rfl) hl.1 dX0_priceOf_45 ⟨Nat.zero_le _, Nat.zero_le _⟩ (fun H locs wd => ?_)
      have hsy := sy_le (tp k) (wn mm st b)
      refine z_icmp_eq C (tgt := 54) dX0_priceOf_48 (by decide) (by omega) (fun c_3 => ?_) (fun c_3 => ?_)
      · skip
        refine z_iinc C (lv' := [(7, .int (iI (k + 1))), (8, .int (iI (f (q + k)))), (0, .ref a0), (1, .int (iI st)), (2, .int (iI b)), (3, .ref a2), (4, .int (iI q)), (5, .int (iI (wn mm st b))), (6, .int (iI x))]) hl 8 dX0_priceOf_54 rfl (by decide) rfl (fun ls hl => ?_)
        refine z_goto C (tgt := 14) dX0_priceOf_57 (by decide) ?_
        exact ih14 x (k + 1) ⟨(by omega), (by have e := sm_at (pr1 tp f q (wn mm st b)) h14_0.1; have e2 : pr1 tp f q (wn mm st b) k = if f (q + k) = 2 ∨ f (q + k) = sy (tp k) (wn mm st b) then 0 else 1 := rfl; split at e2 <;> omega)⟩ (by omega) H locs _ wd (lv_sub hl [2, 3, 4, 5, 6, 7, 8, 0] rfl)
      · skip
        refine z_iinc C (lv' := [(6, .int (iI (x + 1))), (8, .int (iI (f (q + k)))), (0, .ref a0), (1, .int (iI st)), (2, .int (iI b)), (3, .ref a2), (4, .int (iI q)), (5, .int (iI (wn mm st b))), (7, .int (iI k))]) hl 7 dX0_priceOf_51 rfl (by decide) rfl (fun ls hl => ?_)
        refine z_iinc C (lv' := [(7, .int (iI (k + 1))), (6, .int (iI (x + 1))), (8, .int (iI (f (q + k)))), (0, .ref a0), (1, .int (iI st)), (2, .int (iI b)), (3, .ref a2), (4, .int (iI q)), (5, .int (iI (wn mm st b)))]) hl 8 dX0_priceOf_54 rfl (by decide) rfl (fun ls hl => ?_)
        refine z_goto C (tgt := 14) dX0_priceOf_57 (by decide) ?_
        exact ih14 (x + 1) (k + 1) ⟨(by omega), (by have e := sm_at (pr1 tp f q (wn mm st b)) h14_0.1; have e2 : pr1 tp f q (wn mm st b) k = if f (q + k) = 2 ∨ f (q + k) = sy (tp k) (wn mm st b) then 0 else 1 := rfl; split at e2 <;> omega)⟩ (by omega) H locs _ wd (lv_sub hl [3, 4, 5, 6, 7, 8, 1, 0] rfl)
end
section
/-! texts, first places, rows written -/
def vc (x : Int) : Int := if x = 48 then 0 else if x = 49 then 1 else if x = 63 then 2 else 3
theorem vc_le (x : Int) : 0 ≤ vc x ∧ vc x ≤ 3 := by unfold vc; split <;> (try split) <;> (try split) <;> omega
def fs (q : Int → Bool) : Nat → Int
  | 0 => -1
  | n + 1 => if 0 ≤ fs q n then fs q n else if q (n : Int) then (n : Int) else -1
theorem fs_no {q : Int → Bool} {i : Int} (h0 : 0 ≤ i) (h : fs q i.toNat = -1) (hq : q i = false) : fs q (i + 1).toNat = -1 := by
  rw [show (i + 1).toNat = i.toNat + 1 by omega, fs, h, Int.toNat_of_nonneg h0, hq]
  simp
theorem fs_yes {q : Int → Bool} {i : Int} (h0 : 0 ≤ i) (h : fs q i.toNat = -1) (hq : q i = true) : fs q (i + 1).toNat = i := by
  rw [show (i + 1).toNat = i.toNat + 1 by omega, fs, h, Int.toNat_of_nonneg h0, hq]
  simp
theorem fs_mono {q : Int → Bool} {n : Nat} (h : 0 ≤ fs q n) : ∀ m : Nat, fs q (n + m) = fs q n
  | 0 => rfl
  | m + 1 => by
    have h1 := fs_mono h m
    rw [show n + (m + 1) = (n + m) + 1 by omega, fs, h1, if_pos h]
theorem fs_at {q : Int → Bool} {i : Int} {n : Nat} (h0 : 0 ≤ i) (h : fs q i.toNat = -1) (hq : q i = true) (hn : i < n) : fs q n = i := by
  have h1 := fs_yes h0 h hq
  have h2 := fs_mono (q := q) (n := (i + 1).toNat) (by omega) (n - (i + 1).toNat)
  rw [show (i + 1).toNat + (n - (i + 1).toNat) = n by omega] at h2
  omega
theorem fs_cong {q q2 : Int → Bool} : ∀ {n : Nat}, (∀ k : Int, 0 ≤ k → k < n → q k = q2 k) → fs q n = fs q2 n
  | 0, _ => rfl
  | n + 1, h => by rw [fs, fs, fs_cong (n := n) (fun k h0 h1 => h k h0 (by omega)), h n (by omega) (by omega)]
theorem fs_le (q : Int → Bool) : ∀ n : Nat, -1 ≤ fs q n ∧ fs q n < n
  | 0 => by simp [fs]
  | n + 1 => by
    have h := fs_le q n
    rw [fs]
    split
    · omega
    · split <;> omega
def ff (f : Int → Int) (n hi : Int) : Int := if n = 0 then 0 else fs (fun k => decide (hi < f k)) n.toNat
def wrS (f : Int → Int) (a n : Int) (v : Int → Int) : Int → Int := fun k => if a ≤ k ∧ k < a + n then v (k - a) else f k
theorem wrS_0 (f : Int → Int) (a : Int) (v : Int → Int) : wrS f a 0 v = f := by
  funext k
  unfold wrS
  rw [if_neg (by omega)]
theorem wrS_step (f : Int → Int) (a n : Int) (v : Int → Int) (h : 0 ≤ n) : uZ (wrS f a n v) (a + n) (v n) = wrS f a (n + 1) v := by
  funext k
  unfold uZ wrS
  by_cases e : k = a + n
  · rw [if_pos e, if_pos (by omega), show k - a = n by omega]
  · rw [if_neg e]
    by_cases e2 : a ≤ k ∧ k < a + n
    · rw [if_pos e2, if_pos (by omega)]
    · rw [if_neg e2, if_neg (by omega)]
def flF (f : Int → Int) (n v : Int) : Int → Int := fun k => if 0 ≤ k ∧ k < n then v else f k
theorem flF_step (f : Int → Int) (n v : Int) (h : 0 ≤ n) : uZ (flF f n v) n v = flF f (n + 1) v := by
  funext k
  unfold uZ flF
  by_cases e : k = n
  · rw [if_pos e, if_pos (by omega)]
  · rw [if_neg e]
    by_cases e2 : 0 ≤ k ∧ k < n
    · rw [if_pos e2, if_pos (by omega)]
    · rw [if_neg e2, if_neg (by omega)]
theorem flF_0 (f : Int → Int) (v : Int) : flF f 0 v = f := by
  funext k
  unfold flF
  rw [if_neg (by omega)]
/-! a step of the reader -/
def mtOk (f : Int → Int) (S : Int) : Prop := ∀ k : Int, 0 ≤ k → k < 32 → -1 ≤ f k ∧ f k ≤ 3 * S
def mo (oo : Int) (tp fm f : Int → Int) (q mm x b : Int) : Int := if fm x = -1 then -1 else fm x + sm (pr1 tp f q (wn mm x b)) oo.toNat
theorem pr1_le (tp f : Int → Int) (q w k : Int) : 0 ≤ pr1 tp f q w k ∧ pr1 tp f q w k ≤ 1 := by
  unfold pr1
  split <;> omega
theorem prS_le (tp f : Int → Int) (q w oo : Int) (h : 2 ≤ oo ∧ oo ≤ 3) : 0 ≤ sm (pr1 tp f q w) oo.toNat ∧ sm (pr1 tp f q w) oo.toNat ≤ 3 := by
  have h1 := sm_le (f := pr1 tp f q w) (n := oo.toNat) (fun k _ _ => pr1_le tp f q w k)
  omega
theorem mo_le {oo : Int} {tp fm f : Int → Int} {q mm x b S : Int} (h : 2 ≤ oo ∧ oo ≤ 3) (hm : mtOk fm S) (x0 : 0 ≤ x) (x1 : x < 32) : -1 ≤ mo oo tp fm f q mm x b ∧ mo oo tp fm f q mm x b ≤ 3 * (S + 1) ∧ (mo oo tp fm f q mm x b = -1 ∨ 0 ≤ mo oo tp fm f q mm x b) := by
  have h1 := prS_le tp f q (wn mm x b) oo h
  have h2 := hm x x0 x1
  unfold mo
  split <;> omega
def vL (oo : Int) (tp fm f : Int → Int) (q mm t : Int) : Int := mo oo tp fm f q mm (2 * t % p2 mm) (t / p2 (mm - 1))
def vU (oo : Int) (tp fm f : Int → Int) (q mm t : Int) : Int := mo oo tp fm f q mm (2 * t % p2 mm + 1) (t / p2 (mm - 1))
def nmF (oo : Int) (tp fm f : Int → Int) (q mm t : Int) : Int := if vU oo tp fm f q mm t ≠ -1 ∧ (vL oo tp fm f q mm t = -1 ∨ vU oo tp fm f q mm t < vL oo tp fm f q mm t) then vU oo tp fm f q mm t else vL oo tp fm f q mm t
def uB (oo : Int) (tp fm f : Int → Int) (q mm t : Int) : Int := if vU oo tp fm f q mm t ≠ -1 ∧ (vL oo tp fm f q mm t = -1 ∨ vU oo tp fm f q mm t < vL oo tp fm f q mm t) then 1 else 0
def csum (u : Int → Int) : Nat → Int
  | 0 => 0
  | n + 1 => csum u n + u (n : Int) * p2 (n : Int)
theorem csum_le {u : Int → Int} (h : ∀ k, 0 ≤ u k ∧ u k ≤ 1) : ∀ n : Nat, 0 ≤ csum u n ∧ csum u n < p2 (n : Int)
  | 0 => by simp [csum, p2]
  | n + 1 => by
    have h1 := csum_le h n
    have h2 := p2_s (n : Int) (by omega)
    have h3 := h (n : Int)
    rw [csum, show ((n + 1 : Nat) : Int) = (n : Int) + 1 by omega, h2]
    rcases (show u (n : Int) = 0 ∨ u (n : Int) = 1 by omega) with e | e <;> rw [e] <;> omega
theorem csum_at (u : Int → Int) {i : Int} (h : 0 ≤ i) : csum u (i + 1).toNat = csum u i.toNat + u i * p2 i := by
  rw [show (i + 1).toNat = i.toNat + 1 by omega, csum, Int.toNat_of_nonneg h]
theorem csum_bit {u : Int → Int} (h : ∀ k, 0 ≤ u k ∧ u k ≤ 1) {t : Int} (t0 : 0 ≤ t) : ∀ n : Nat, t < n → csum u n / p2 t % 2 = u t
  | 0, hn => by omega
  | n + 1, hn => by
    have hp := p2_pos t
    have h1 := csum_le h n
    rw [csum]
    by_cases e : t = n
    · subst e
      rw [Int.add_mul_ediv_right _ _ (by omega), Int.ediv_eq_zero_of_lt h1.1 h1.2]
      have h3 := h (n : Int)
      omega
    · have ih := csum_bit h t0 n (by omega)
      have e2 : p2 (n : Int) = p2 t * (2 * p2 (n - 1 - t)) := by
        have a1 := p2_add (a := t) (b := n - t) t0 (by omega)
        have a2 := p2_s (n - 1 - t) (by omega)
        rw [show t + ((n : Int) - t) = n by omega] at a1
        rw [show (n : Int) - 1 - t + 1 = n - t by omega] at a2
        rw [a1, a2]
      rw [e2, show u (n : Int) * (p2 t * (2 * p2 (n - 1 - t))) = p2 t * (2 * (u n * p2 (n - 1 - t))) by
        rw [Int.mul_left_comm, Int.mul_left_comm (u (n : Int)) 2], Int.add_mul_ediv_left _ _ (by omega)]
      omega
theorem p2_mono {a b : Int} (h0 : 0 ≤ a) (h : a ≤ b) : p2 a ≤ p2 b := by
  have h1 := p2_add (a := a) (b := b - a) h0 (by omega)
  rw [show a + (b - a) = b by omega] at h1
  have h2 := p2_pos a
  have h3 := p2_pos (b - a)
  rw [h1]
  have h4 : p2 a * 1 ≤ p2 a * p2 (b - a) := Int.mul_le_mul_of_nonneg_left (by omega) (by omega)
  omega
theorem p2_31 {k : Int} (h0 : 0 ≤ k) (h : k < 32) : p2 k ≤ 2147483648 := by
  have h1 := p2_mono h0 (show k ≤ 31 by omega)
  have h2 : p2 31 = 2147483648 := by decide +kernel
  omega
theorem iI_1k {k : Int} (h0 : 0 ≤ k) (h : k < 32) : iI 1 <<< (iI k &&& 31) = iI (p2 k) := by
  have h1 := p2_31 h0 h
  rw [iI_shl (by omega) h0 h (by omega), Int.one_mul]
theorem iI_orb {x k : Int} (x0 : 0 ≤ x) (x1 : x < p2 k) (k0 : 0 ≤ k) : iI x ||| iI (p2 k) = iI (x + p2 k) := by
  have hp := p2_pos k
  rw [iI_nat x0, iI_nat (show 0 ≤ p2 k by omega), iI_nat (show 0 ≤ x + p2 k by omega)]
  rw [← Int32.toBitVec_inj]
  have e2 : (p2 k).toNat = 2 ^ k.toNat := by rw [p2_nat, Int.toNat_natCast]
  have e3 : x.toNat < 2 ^ k.toNat := by omega
  have e1 : x.toNat ||| 2 ^ k.toNat = x.toNat + 2 ^ k.toNat := by
    have := Nat.two_pow_add_eq_or_of_lt e3 1
    rw [Nat.mul_one] at this
    rw [Nat.or_comm, ← this]
    omega
  have e4 : (x + p2 k).toNat = x.toNat ||| 2 ^ k.toNat := by omega
  rw [e4, e2]
  show (nI x.toNat).toBitVec ||| (nI (2 ^ k.toNat)).toBitVec = (nI (x.toNat ||| 2 ^ k.toNat)).toBitVec
  simp [nI, BitVec.ofNat_or]
/-- the least metric, of several the lowest state; -1 if there is none -/
def bst (f : Int → Int) : Nat → Int
  | 0 => -1
  | n + 1 => if 0 ≤ f (n : Int) ∧ (bst f n < 0 ∨ f (n : Int) < f (bst f n)) then (n : Int) else bst f n
def bsc (f : Int → Int) (n : Nat) : Int := if bst f n < 0 then 0 else bst f n
theorem bst_le (f : Int → Int) : ∀ n : Nat, -1 ≤ bst f n ∧ bst f n < n ∧ (0 ≤ bst f n → 0 ≤ f (bst f n)) ∧ (bst f n < 0 → ∀ k : Int, 0 ≤ k → k < n → f k < 0)
  | 0 => ⟨by simp [bst], by simp [bst], by simp [bst], fun _ k h0 h1 => by omega⟩
  | n + 1 => by
    have ih := bst_le f n
    rw [bst]
    split
    · rename_i h
      exact ⟨by omega, by omega, fun _ => h.1, fun h2 => by omega⟩
    · rename_i h
      refine ⟨ih.1, by omega, ih.2.2.1, fun h2 k h0 h1 => ?_⟩
      by_cases e : k = n
      · subst e
        omega
      · exact ih.2.2.2 h2 k h0 (by omega)
theorem bsc_step {f : Int → Int} {i : Int} (h0 : 1 ≤ i) : bsc f (i + 1).toNat = if 0 ≤ f i ∧ (f (bsc f i.toNat) < 0 ∨ f i < f (bsc f i.toNat)) then i else bsc f i.toNat := by
  have h := bst_le f i.toNat
  have e : bst f (i + 1).toNat = if 0 ≤ f i ∧ (bst f i.toNat < 0 ∨ f i < f (bst f i.toNat)) then i else bst f i.toNat := by
    rw [show (i + 1).toNat = i.toNat + 1 by omega, bst, Int.toNat_of_nonneg (by omega)]
  unfold bsc
  rw [e]
  generalize bst f i.toNat = b at h
  by_cases hb : b < 0
  · have h2 := h.2.2.2 hb 0 (by omega) (by omega)
    have e1 : (if b < 0 then (0 : Int) else b) = 0 := if_pos hb
    rw [e1]
    by_cases h3 : 0 ≤ f i
    · have e2 : 0 ≤ f i ∧ (b < 0 ∨ f i < f b) := ⟨h3, Or.inl hb⟩
      have e3 : 0 ≤ f i ∧ (f 0 < 0 ∨ f i < f 0) := ⟨h3, Or.inl h2⟩
      rw [if_pos e2, if_pos e3, if_neg (by omega)]
    · have e2 : ¬ (0 ≤ f i ∧ (b < 0 ∨ f i < f b)) := fun q => h3 q.1
      have e3 : ¬ (0 ≤ f i ∧ (f 0 < 0 ∨ f i < f 0)) := fun q => h3 q.1
      rw [if_neg e2, if_neg e3, if_pos hb]
  · have h2 := h.2.2.1 (by omega)
    have e1 : (if b < 0 then (0 : Int) else b) = b := if_neg hb
    rw [e1]
    by_cases h3 : 0 ≤ f i ∧ f i < f b
    · have e2 : 0 ≤ f i ∧ (b < 0 ∨ f i < f b) := ⟨h3.1, Or.inr h3.2⟩
      have e3 : 0 ≤ f i ∧ (f b < 0 ∨ f i < f b) := ⟨h3.1, Or.inr h3.2⟩
      rw [if_pos e2, if_pos e3, if_neg (by omega)]
    · have e2 : ¬ (0 ≤ f i ∧ (b < 0 ∨ f i < f b)) := by omega
      have e3 : ¬ (0 ≤ f i ∧ (f b < 0 ∨ f i < f b)) := by omega
      rw [if_neg e2, if_neg e3, if_neg hb]
theorem bsc_le (f : Int → Int) {n : Nat} (h : 0 < n) : 0 ≤ bsc f n ∧ bsc f n < n := by
  have h1 := bst_le f n
  unfold bsc
  split <;> omega
theorem bsc_1 (f : Int → Int) : bsc f 1 = 0 := by
  unfold bsc bst bst
  simp
  split <;> simp_all
end
section
set_option maxRecDepth 100000 in
set_option maxHeartbeats 4000000 in
theorem c_X4_valueOf (l : Launch) (D : va_G) (cy cs : ClassId) (x : Int) (hx : 0 ≤ x ∧ x < 65536) : zCi l D (zT cy cs) yX4_valueOf wsX4_valueOf ({ frames := 0, cells := 0, slots := 0, locals := 0 } : Room) [.int (iI x)] [] (vc x) [] := by
  intro sz
  refine zM_mk (cc := cX4_valueOf) (maxL := 1) (ret := (some .int)) (own := RX4) (Qc := fun sz => va_Qi (fun r (_ : Unit) => r = iI (vc x)) (fun _ t => zQ D (zT cy cs) (va_A [] sz) [] t) (va_A [] sz)) (by decide) rfl rfl (Nat.le_of_ble_eq_true rfl) rfl sz ?_
  intro p e s m args below meth c ls C hr hlk hnm hl hsz hA wd
  subst hsz
  have hl : lv_has ls 1 [(0, .int (iI x))] := hl
  refine lv_iload_n C.1 C.2.1 dX4_valueOf_0 rfl (lv_at hl 0 rfl) ?_
  refine z_bipush C dX4_valueOf_1 (by decide +kernel) ?_
  refine z_icmp_ne C (tgt := 8) dX4_valueOf_3 (by decide) (by omega) (fun c_1 => ?_) (fun c_1 => ?_)
  · skip
    refine lv_iload_n C.1 C.2.1 dX4_valueOf_8 rfl (lv_at hl 0 rfl) ?_
    refine z_bipush C dX4_valueOf_9 (by decide +kernel) ?_
    refine z_icmp_ne C (tgt := 16) dX4_valueOf_11 (by decide) (by omega) (fun c_2 => ?_) (fun c_2 => ?_)
    · skip
      refine lv_iload_n C.1 C.2.1 dX4_valueOf_16 rfl (lv_at hl 0 rfl) ?_
      refine z_bipush C dX4_valueOf_17 (by decide +kernel) ?_
      refine z_icmp_ne C (tgt := 26) dX4_valueOf_19 (by decide) (by omega) (fun c_3 => ?_) (fun c_3 => ?_)
      · skip
        refine z_iconst C dX4_valueOf_26 ?_
        exact z_iret C hr hlk wd (by unfold vc; (repeat (first | rw [if_pos (by omega)] | rw [if_neg (by omega)]))) dX4_valueOf_27
      · skip
        refine z_iconst C dX4_valueOf_22 ?_
        refine z_goto C (tgt := 27) dX4_valueOf_23 (by decide) ?_
        exact z_iret C hr hlk wd (by unfold vc; (repeat (first | rw [if_pos (by omega)] | rw [if_neg (by omega)]))) dX4_valueOf_27
    · skip
      refine z_iconst C dX4_valueOf_14 ?_
      exact z_iret C hr hlk wd (by unfold vc; (repeat (first | rw [if_pos (by omega)] | rw [if_neg (by omega)]))) dX4_valueOf_15
  · skip
    refine z_iconst C dX4_valueOf_6 ?_
    exact z_iret C hr hlk wd (by unfold vc; (repeat (first | rw [if_pos (by omega)] | rw [if_neg (by omega)]))) dX4_valueOf_7
set_option maxRecDepth 100000 in
set_option maxHeartbeats 4000000 in
theorem c_X4_append (l : Launch) (D : va_G) (cy cs : ClassId) (t0 t1 : Nat) (ty x : Int) (fv : Int → Int) (hx : 0 ≤ x ∧ x < 65536) (ht : 0 ≤ ty ∧ ty < 60) : zCv l D (zT cy cs) yX4_append wsX4_append ({ frames := 1, cells := 0, slots := 0, locals := 20 } : Room) [.ref t0, .int (iI x)] [zO t0 4 [.int (iI ty), .ref t1], zA cy t1 60 fv] [zO t0 4 [.int (iI (ty + 1)), .ref t1], zA cy t1 60 (uZ fv ty (vc x))] := by
  intro sz
  refine zM_mk (cc := cX4_append) (maxL := 2) (ret := none) (own := RX4) (Qc := fun sz => va_Qv (fun (_ : Unit) => True) (fun _ t => zQ D (zT cy cs) (va_A [zO t0 4 [.int (iI ty), .ref t1], zA cy t1 60 fv] sz) [zO t0 4 [.int (iI (ty + 1)), .ref t1], zA cy t1 60 (uZ fv ty (vc x))] t) (va_A [zO t0 4 [.int (iI ty), .ref t1], zA cy t1 60 fv] sz)) (by decide) rfl rfl (Nat.le_of_ble_eq_true rfl) rfl sz ?_
  intro p e s m args below meth c ls C hr hlk hnm hl hsz hA wd
  subst hsz
  have hl : lv_has ls 2 [(0, .ref t0), (1, .int (iI x))] := hl
  have iX4 : ∀ w ∈ u_ws RX4 TX4 2, w ∈ wsX4_append := by decide +kernel
  have L9 := C.2.2.2.2 (.fieldLink RX4 9 "LikelyWalks$Text" "length" "I") (by decide +kernel)
  have L15 := C.2.2.2.2 (.fieldLink RX4 15 "LikelyWalks$Text" "values" "[I") (by decide +kernel)
  refine lv_aload_n C.1 C.2.1 dX4_append_0 rfl (lv_at hl 0 rfl) ?_
  refine z_get C wd (Cn := RX4) (TT := TX4) (N := 2) (ci := 4) iX4 0 rfl rfl 0 (by decide) L9 (fun _ h => h) rfl dX4_append_1 ?_
  refine z_bipush C dX4_append_4 (by decide +kernel) ?_
  refine z_icmp_lt C (tgt := 10) dX4_append_6 (by decide) (by omega) (fun c_1 => ?_) (fun c_1 => ?_)
  · skip
    refine lv_aload_n C.1 C.2.1 dX4_append_10 rfl (lv_at hl 0 rfl) ?_
    refine z_get C wd (Cn := RX4) (TT := TX4) (N := 2) (ci := 4) iX4 0 rfl rfl 1 (by decide) L15 (fun _ h => h) rfl dX4_append_11 ?_
    refine lv_aload_n C.1 C.2.1 dX4_append_14 rfl (lv_at hl 0 rfl) ?_
    refine z_get C wd (Cn := RX4) (TT := TX4) (N := 2) (ci := 4) iX4 0 rfl rfl 0 (by decide) L9 (fun _ h => h) rfl dX4_append_15 ?_
    refine lv_iload_n C.1 C.2.1 dX4_append_18 rfl (lv_at hl 1 rfl) ?_
    refine z_csi C wd hA (As := [.int (iI x)]) (rest := [.int (iI ty), .ref t1]) (ws2 := [zO t0 4 [.int (iI ty), .ref t1], zA cy t1 60 fv]) (c_X4_valueOf l D cy cs x (by omega)) (cwS 1 C.2.2.2.2 gX4_append_X4_valueOf rfl rfl rfl (by decide +kernel) ⟨Nat.le_of_ble_eq_true rfl, Nat.le_of_ble_eq_true rfl⟩) [] rfl rfl rfl ⟨rfl, [0, 1], [zO t0 4 [.int (iI ty), .ref t1], zA cy t1 60 fv], 2, rfl, rfl, rfl, by decide +kernel⟩ rfl rfl (Nat.le_of_ble_eq_true rfl) hl.1 dX4_append_19 ⟨Nat.zero_le _, Nat.zero_le _⟩ (fun H locs wd => ?_)
    refine z_iast C wd (ws2 := [zO t0 4 [.int (iI ty), .ref t1], zA cy t1 60 (uZ fv ty (vc x))]) 1 rfl (by omega) (by decide) rfl dX4_append_22 (fun H locs wd => ?_)
    refine lv_aload_n C.1 C.2.1 dX4_append_23 rfl (lv_at hl 0 rfl) ?_
    refine lv_dup C.1 C.2.1 dX4_append_24 rfl ?_
    refine z_get C wd (Cn := RX4) (TT := TX4) (N := 2) (ci := 4) iX4 0 rfl rfl 0 (by decide) L9 (fun _ h => h) rfl dX4_append_25 ?_
    refine z_iconst C dX4_append_28 ?_
    refine z_iadd C dX4_append_29 ?_
    refine z_put C wd (Cn := RX4) (TT := TX4) (N := 2) (ci := 4) (ws2 := [zO t0 4 [.int (iI (ty + 1)), .ref t1], zA cy t1 60 (uZ fv ty (vc x))]) iX4 tyX4 tyX4_ok nmX4 0 rfl rfl 0 (by decide) L9 (fun _ h => h) rfl (ty := .int) (by decide +kernel) rfl rfl (Nat.le_of_ble_eq_true rfl) rfl dX4_append_30 (fun H locs wd => ?_)
    exact z_vret C hr hlk wd dX4_append_33
  · skip
    exact False.elim (by omega)
set_option maxRecDepth 100000 in
set_option maxHeartbeats 4000000 in
theorem c_X4_firstFault (l : Launch) (D : va_G) (cy cs : ClassId) (t0 t1 : Nat) (ty hi : Int) (fv : Int → Int) (ht : 0 ≤ ty ∧ ty ≤ 60) (hh : 0 ≤ hi ∧ hi ≤ 3) (hf : ∀ k : Int, 0 ≤ k → k < 60 → 0 ≤ fv k ∧ fv k ≤ 3) : zCi l D (zT cy cs) yX4_firstFault wsX4_firstFault ({ frames := 0, cells := 0, slots := 0, locals := 0 } : Room) [.ref t0, .int (iI hi)] [zO t0 4 [.int (iI ty), .ref t1], zA cy t1 60 fv] (ff fv ty hi) [zO t0 4 [.int (iI ty), .ref t1], zA cy t1 60 fv] := by
  intro sz
  refine zM_mk (cc := cX4_firstFault) (maxL := 3) (ret := (some .int)) (own := RX4) (Qc := fun sz => va_Qi (fun r (_ : Unit) => r = iI (ff fv ty hi)) (fun _ t => zQ D (zT cy cs) (va_A [zO t0 4 [.int (iI ty), .ref t1], zA cy t1 60 fv] sz) [zO t0 4 [.int (iI ty), .ref t1], zA cy t1 60 fv] t) (va_A [zO t0 4 [.int (iI ty), .ref t1], zA cy t1 60 fv] sz)) (by decide) rfl rfl (Nat.le_of_ble_eq_true rfl) rfl sz ?_
  intro p e s m args below meth c ls C hr hlk hnm hl hsz hA wd
  subst hsz
  have hl : lv_has ls 3 [(0, .ref t0), (1, .int (iI hi))] := hl
  have iX4 : ∀ w ∈ u_ws RX4 TX4 2, w ∈ wsX4_firstFault := by decide +kernel
  have L9 := C.2.2.2.2 (.fieldLink RX4 9 "LikelyWalks$Text" "length" "I") (by decide +kernel)
  have L15 := C.2.2.2.2 (.fieldLink RX4 15 "LikelyWalks$Text" "values" "[I") (by decide +kernel)
  refine lv_aload_n C.1 C.2.1 dX4_firstFault_0 rfl (lv_at hl 0 rfl) ?_
  refine z_get C wd (Cn := RX4) (TT := TX4) (N := 2) (ci := 4) iX4 0 rfl rfl 0 (by decide) L9 (fun _ h => h) rfl dX4_firstFault_1 ?_
  refine z_if_ne C (tgt := 9) dX4_firstFault_4 (by decide) (by omega) (fun c_1 => ?_) (fun c_1 => ?_)
  · skip
    refine z_iconst C dX4_firstFault_9 ?_
    refine lv_istore_n (lv' := [(2, .int (iI 0)), (0, .ref t0), (1, .int (iI hi))]) C.1 C.2.1 dX4_firstFault_10 rfl hl (by decide) rfl (fun ls hl => ?_)
    refine z_loop1 (P := fun (k : Int) => (0 ≤ k ∧ k ≤ ty) ∧ (fs (fun k => decide (hi < fv k)) k.toNat = -1)) (mu := fun (k : Int) => (ty - k).toNat) (ws := fun (k : Int) => [zO t0 4 [.int (iI ty), .ref t1], zA cy t1 60 fv]) (lv := fun (k : Int) => [(0, .ref t0), (1, .int (iI hi)), (2, .int (iI k))]) 0 C ⟨(by omega), rfl⟩ wd (lv_sub hl [1, 2, 0] rfl) ?_
    intro k hP11 ih11 H locs ls wd hl
    obtain ⟨h11_0, h11_1⟩ := hP11
    try dsimp only at h11_0 h11_1
    have wd : Wd D (zT cy cs) _ s.heap s [zO t0 4 [.int (iI ty), .ref t1], zA cy t1 60 fv] H locs := wd
    have hl : lv_has ls 3 [(0, .ref t0), (1, .int (iI hi)), (2, .int (iI k))] := hl
    refine lv_iload_n C.1 C.2.1 dX4_firstFault_11 rfl (lv_at hl 2 rfl) ?_
    refine lv_aload_n C.1 C.2.1 dX4_firstFault_12 rfl (lv_at hl 0 rfl) ?_
    refine z_get C wd (Cn := RX4) (TT := TX4) (N := 2) (ci := 4) iX4 0 rfl rfl 0 (by decide) L9 (fun _ h => h) rfl dX4_firstFault_13 ?_
    refine z_icmp_ge C (tgt := 37) dX4_firstFault_16 (by decide) (by omega) (fun c_2 => ?_) (fun c_2 => ?_)
    · skip
      refine z_iconst C dX4_firstFault_37 ?_
      exact z_iret C hr hlk wd (by rw [ff, if_neg (by omega), ← h11_1, show k = ty by omega]) dX4_firstFault_38
    · skip
      refine lv_aload_n C.1 C.2.1 dX4_firstFault_19 rfl (lv_at hl 0 rfl) ?_
      refine z_get C wd (Cn := RX4) (TT := TX4) (N := 2) (ci := 4) iX4 0 rfl rfl 1 (by decide) L15 (fun _ h => h) rfl dX4_firstFault_20 ?_
      refine lv_iload_n C.1 C.2.1 dX4_firstFault_23 rfl (lv_at hl 2 rfl) ?_
      refine z_iald C wd 1 rfl (by omega) (by decide) dX4_firstFault_24 ?_
      have hfk := hf k (by omega) (by omega)
      refine lv_iload_n C.1 C.2.1 dX4_firstFault_25 rfl (lv_at hl 1 rfl) ?_
      refine z_icmp_le C (tgt := 31) dX4_firstFault_26 (by decide) (by omega) (fun c_3 => ?_) (fun c_3 => ?_)
      · skip
        refine z_iinc C (lv' := [(2, .int (iI (k + 1))), (0, .ref t0), (1, .int (iI hi))]) hl 2 dX4_firstFault_31 rfl (by decide) rfl (fun ls hl => ?_)
        refine z_goto C (tgt := 11) dX4_firstFault_34 (by decide) ?_
        exact ih11 (k + 1) ⟨(by omega), (fs_no h11_0.1 h11_1 (decide_eq_false (by omega)))⟩ (by omega) H locs _ wd (lv_sub hl [1, 2, 0] rfl)
      · skip
        refine lv_iload_n C.1 C.2.1 dX4_firstFault_29 rfl (lv_at hl 2 rfl) ?_
        exact z_iret C hr hlk wd (by rw [ff, if_neg (by omega)]; exact (fs_at h11_0.1 h11_1 (decide_eq_true (by omega)) (by omega)).symm) dX4_firstFault_30
  · skip
    refine z_iconst C dX4_firstFault_7 ?_
    exact z_iret C hr hlk wd (by rw [ff, if_pos (by omega)]) dX4_firstFault_8
set_option maxRecDepth 100000 in
set_option maxHeartbeats 4000000 in
theorem c_fill (l : Launch) (D : va_G) (cy cs : ClassId) (b0 n : Nat) (x : Int) (f : Int → Int) (hn : n < 2147483648) : zCv l D (zT cy cs) yJ7_fill_53178 wsJ7_fill_53178 ({ frames := 0, cells := 0, slots := 0, locals := 0 } : Room) [.ref b0, .int (iI x)] [zA cy b0 n f] [zA cy b0 n (fun _ => x)] := by
  intro sz
  refine zM_mk (cc := cJ7_fill_53178) (maxL := 4) (ret := none) (own := RJ7) (Qc := fun sz => va_Qv (fun (_ : Unit) => True) (fun _ t => zQ D (zT cy cs) (va_A [zA cy b0 n f] sz) [zA cy b0 n (fun _ => x)] t) (va_A [zA cy b0 n f] sz)) (by decide) rfl rfl (Nat.le_of_ble_eq_true rfl) rfl sz ?_
  intro p e s m args below meth c ls C hr hlk hnm hl hsz hA wd
  subst hsz
  have hl : lv_has ls 4 [(0, .ref b0), (1, .int (iI x))] := hl
  refine z_iconst C dJ7_fill_53178_0 ?_
  refine lv_istore_n (lv' := [(2, .int (iI 0)), (0, .ref b0), (1, .int (iI x))]) C.1 C.2.1 dJ7_fill_53178_1 rfl hl (by decide) rfl (fun ls hl => ?_)
  refine lv_aload_n C.1 C.2.1 dJ7_fill_53178_2 rfl (lv_at hl 1 rfl) ?_
  refine z_alen C wd 0 rfl dJ7_fill_53178_3 ?_
  refine lv_istore_n (lv' := [(3, .int (iI ((n : Nat) : Int))), (2, .int (iI 0)), (0, .ref b0), (1, .int (iI x))]) C.1 C.2.1 dJ7_fill_53178_4 rfl hl (by decide) rfl (fun ls hl => ?_)
  refine z_loop2 (P := fun (k : Int) (g : Int → Int) => (0 ≤ k ∧ k ≤ (n : Int)) ∧ (g = flF f k x)) (mu := fun (k : Int) (g : Int → Int) => ((n : Int) - k).toNat) (ws := fun (k : Int) (g : Int → Int) => [zA cy b0 n g]) (lv := fun (k : Int) (g : Int → Int) => [(0, .ref b0), (1, .int (iI x)), (2, .int (iI k)), (3, .int (iI ((n : Nat) : Int)))]) 0 f C ⟨(by omega), (flF_0 f x).symm⟩ wd (lv_sub hl [2, 3, 1, 0] rfl) ?_
  intro k g hP5 ih5 H locs ls wd hl
  obtain ⟨h5_0, h5_1⟩ := hP5
  try dsimp only at h5_0 h5_1
  have wd : Wd D (zT cy cs) _ s.heap s [zA cy b0 n g] H locs := wd
  have hl : lv_has ls 4 [(0, .ref b0), (1, .int (iI x)), (2, .int (iI k)), (3, .int (iI ((n : Nat) : Int)))] := hl
  refine lv_iload_n C.1 C.2.1 dJ7_fill_53178_5 rfl (lv_at hl 2 rfl) ?_
  refine lv_iload_n C.1 C.2.1 dJ7_fill_53178_6 rfl (lv_at hl 3 rfl) ?_
  refine z_icmp_ge C (tgt := 20) dJ7_fill_53178_7 (by decide) (by omega) (fun c_1 => ?_) (fun c_1 => ?_)
  · skip
    have wd := z_cell wd (ws2 := [zA cy b0 n (fun _ => x)]) 0 rfl (by intro j j0 j1; rw [h5_1]; exact if_pos (by omega)) rfl
    exact z_vret C hr hlk wd dJ7_fill_53178_20
  · skip
    refine lv_aload_n C.1 C.2.1 dJ7_fill_53178_10 rfl (lv_at hl 0 rfl) ?_
    refine lv_iload_n C.1 C.2.1 dJ7_fill_53178_11 rfl (lv_at hl 2 rfl) ?_
    refine lv_iload_n C.1 C.2.1 dJ7_fill_53178_12 rfl (lv_at hl 1 rfl) ?_
    refine z_iast C wd (ws2 := [zA cy b0 n (uZ g k x)]) 0 rfl (by omega) (by omega) rfl dJ7_fill_53178_13 (fun H locs wd => ?_)
    refine z_iinc C (lv' := [(2, .int (iI (k + 1))), (0, .ref b0), (1, .int (iI x)), (3, .int (iI ((n : Nat) : Int)))]) hl 2 dJ7_fill_53178_14 rfl (by decide) rfl (fun ls hl => ?_)
    refine z_goto C (tgt := 5) dJ7_fill_53178_17 (by decide) ?_
    exact ih5 (k + 1) (uZ g k x) ⟨(by omega), (by rw [h5_1, flF_step f k x h5_0.1])⟩ (by omega) H locs _ wd (lv_sub hl [1, 2, 0, 3] rfl)
set_option maxRecDepth 100000 in
set_option maxHeartbeats 4000000 in
theorem c_X2_clear (l : Launch) (D : va_G) (cy cs : ClassId) (s0 s1 s2 s3 : Nat) (rg bc : Int)  : zCv l D (zT cy cs) yX2_clear wsX2_clear ({ frames := 0, cells := 0, slots := 0, locals := 0 } : Room) [.ref s0] [zO s0 2 [.int (iI rg), .int (iI bc), .ref s1, .ref s2, .ref s3]] [zO s0 2 [.int (iI 0), .int (iI 0), .ref s1, .ref s2, .ref s3]] := by
  intro sz
  refine zM_mk (cc := cX2_clear) (maxL := 1) (ret := none) (own := RX2) (Qc := fun sz => va_Qv (fun (_ : Unit) => True) (fun _ t => zQ D (zT cy cs) (va_A [zO s0 2 [.int (iI rg), .int (iI bc), .ref s1, .ref s2, .ref s3]] sz) [zO s0 2 [.int (iI 0), .int (iI 0), .ref s1, .ref s2, .ref s3]] t) (va_A [zO s0 2 [.int (iI rg), .int (iI bc), .ref s1, .ref s2, .ref s3]] sz)) (by decide) rfl rfl (Nat.le_of_ble_eq_true rfl) rfl sz ?_
  intro p e s m args below meth c ls C hr hlk hnm hl hsz hA wd
  subst hsz
  have hl : lv_has ls 1 [(0, .ref s0)] := hl
  have iX2 : ∀ w ∈ u_ws RX2 TX2 5, w ∈ wsX2_clear := by decide +kernel
  have L24 := C.2.2.2.2 (.fieldLink RX2 24 "LikelyWalks$Sender" "register" "I") (by decide +kernel)
  have L28 := C.2.2.2.2 (.fieldLink RX2 28 "LikelyWalks$Sender" "bitCount" "I") (by decide +kernel)
  refine lv_aload_n C.1 C.2.1 dX2_clear_0 rfl (lv_at hl 0 rfl) ?_
  refine z_iconst C dX2_clear_1 ?_
  refine z_put C wd (Cn := RX2) (TT := TX2) (N := 5) (ci := 2) (ws2 := [zO s0 2 [.int (iI 0), .int (iI bc), .ref s1, .ref s2, .ref s3]]) iX2 tyX2 tyX2_ok nmX2 0 rfl rfl 0 (by decide) L24 (fun _ h => h) rfl (ty := .int) (by decide +kernel) rfl rfl (Nat.le_of_ble_eq_true rfl) rfl dX2_clear_2 (fun H locs wd => ?_)
  refine lv_aload_n C.1 C.2.1 dX2_clear_5 rfl (lv_at hl 0 rfl) ?_
  refine z_iconst C dX2_clear_6 ?_
  refine z_put C wd (Cn := RX2) (TT := TX2) (N := 5) (ci := 2) (ws2 := [zO s0 2 [.int (iI 0), .int (iI 0), .ref s1, .ref s2, .ref s3]]) iX2 tyX2 tyX2_ok nmX2 0 rfl rfl 1 (by decide) L28 (fun _ h => h) rfl (ty := .int) (by decide +kernel) rfl rfl (Nat.le_of_ble_eq_true rfl) rfl dX2_clear_7 (fun H locs wd => ?_)
  exact z_vret C hr hlk wd dX2_clear_10
set_option maxRecDepth 100000 in
set_option maxHeartbeats 4000000 in
theorem c_X2_copyFrom (l : Launch) (D : va_G) (cy cs : ClassId) (s0 s1 s2 s3 u0 u1 u2 u3 : Nat) (rg bc qg qc : Int) (fb fs_ fo gb gs go : Int → Int)  : zCv l D (zT cy cs) yX2_copyFrom wsX2_copyFrom ({ frames := 1, cells := 0, slots := 0, locals := 18 } : Room) [.ref s0, .ref u0] [zO s0 2 [.int (iI rg), .int (iI bc), .ref s1, .ref s2, .ref s3], zA cy s1 80 fb, zA cy s2 240 fs_, zA cy s3 240 fo, zO u0 2 [.int (iI qg), .int (iI qc), .ref u1, .ref u2, .ref u3], zA cy u1 80 gb, zA cy u2 240 gs, zA cy u3 240 go] [zO s0 2 [.int (iI qg), .int (iI qc), .ref s1, .ref s2, .ref s3], zA cy s1 80 gb, zA cy s2 240 gs, zA cy s3 240 go, zO u0 2 [.int (iI qg), .int (iI qc), .ref u1, .ref u2, .ref u3], zA cy u1 80 gb, zA cy u2 240 gs, zA cy u3 240 go] := by
  intro sz
  refine zM_mk (cc := cX2_copyFrom) (maxL := 2) (ret := none) (own := RX2) (Qc := fun sz => va_Qv (fun (_ : Unit) => True) (fun _ t => zQ D (zT cy cs) (va_A [zO s0 2 [.int (iI rg), .int (iI bc), .ref s1, .ref s2, .ref s3], zA cy s1 80 fb, zA cy s2 240 fs_, zA cy s3 240 fo, zO u0 2 [.int (iI qg), .int (iI qc), .ref u1, .ref u2, .ref u3], zA cy u1 80 gb, zA cy u2 240 gs, zA cy u3 240 go] sz) [zO s0 2 [.int (iI qg), .int (iI qc), .ref s1, .ref s2, .ref s3], zA cy s1 80 gb, zA cy s2 240 gs, zA cy s3 240 go, zO u0 2 [.int (iI qg), .int (iI qc), .ref u1, .ref u2, .ref u3], zA cy u1 80 gb, zA cy u2 240 gs, zA cy u3 240 go] t) (va_A [zO s0 2 [.int (iI rg), .int (iI bc), .ref s1, .ref s2, .ref s3], zA cy s1 80 fb, zA cy s2 240 fs_, zA cy s3 240 fo, zO u0 2 [.int (iI qg), .int (iI qc), .ref u1, .ref u2, .ref u3], zA cy u1 80 gb, zA cy u2 240 gs, zA cy u3 240 go] sz)) (by decide) rfl rfl (Nat.le_of_ble_eq_true rfl) rfl sz ?_
  intro p e s m args below meth c ls C hr hlk hnm hl hsz hA wd
  subst hsz
  have hl : lv_has ls 2 [(0, .ref s0), (1, .ref u0)] := hl
  have iX2 : ∀ w ∈ u_ws RX2 TX2 5, w ∈ wsX2_copyFrom := by decide +kernel
  have L9 := C.2.2.2.2 (.fieldLink RX2 9 "LikelyWalks$Sender" "bits" "[I") (by decide +kernel)
  have L15 := C.2.2.2.2 (.fieldLink RX2 15 "LikelyWalks$Sender" "symbols" "[I") (by decide +kernel)
  have L18 := C.2.2.2.2 (.fieldLink RX2 18 "LikelyWalks$Sender" "originals" "[I") (by decide +kernel)
  have L24 := C.2.2.2.2 (.fieldLink RX2 24 "LikelyWalks$Sender" "register" "I") (by decide +kernel)
  have L28 := C.2.2.2.2 (.fieldLink RX2 28 "LikelyWalks$Sender" "bitCount" "I") (by decide +kernel)
  refine lv_aload_n C.1 C.2.1 dX2_copyFrom_0 rfl (lv_at hl 0 rfl) ?_
  refine lv_aload_n C.1 C.2.1 dX2_copyFrom_1 rfl (lv_at hl 1 rfl) ?_
  refine z_get C wd (Cn := RX2) (TT := TX2) (N := 5) (ci := 2) iX2 4 rfl rfl 0 (by decide) L24 (fun _ h => h) rfl dX2_copyFrom_2 ?_
  refine z_put C wd (Cn := RX2) (TT := TX2) (N := 5) (ci := 2) (ws2 := [zO s0 2 [.int (iI qg), .int (iI bc), .ref s1, .ref s2, .ref s3], zA cy s1 80 fb, zA cy s2 240 fs_, zA cy s3 240 fo, zO u0 2 [.int (iI qg), .int (iI qc), .ref u1, .ref u2, .ref u3], zA cy u1 80 gb, zA cy u2 240 gs, zA cy u3 240 go]) iX2 tyX2 tyX2_ok nmX2 0 rfl rfl 0 (by decide) L24 (fun _ h => h) rfl (ty := .int) (by decide +kernel) rfl rfl (Nat.le_of_ble_eq_true rfl) rfl dX2_copyFrom_5 (fun H locs wd => ?_)
  refine lv_aload_n C.1 C.2.1 dX2_copyFrom_8 rfl (lv_at hl 0 rfl) ?_
  refine lv_aload_n C.1 C.2.1 dX2_copyFrom_9 rfl (lv_at hl 1 rfl) ?_
  refine z_get C wd (Cn := RX2) (TT := TX2) (N := 5) (ci := 2) iX2 4 rfl rfl 1 (by decide) L28 (fun _ h => h) rfl dX2_copyFrom_10 ?_
  refine z_put C wd (Cn := RX2) (TT := TX2) (N := 5) (ci := 2) (ws2 := [zO s0 2 [.int (iI qg), .int (iI qc), .ref s1, .ref s2, .ref s3], zA cy s1 80 fb, zA cy s2 240 fs_, zA cy s3 240 fo, zO u0 2 [.int (iI qg), .int (iI qc), .ref u1, .ref u2, .ref u3], zA cy u1 80 gb, zA cy u2 240 gs, zA cy u3 240 go]) iX2 tyX2 tyX2_ok nmX2 0 rfl rfl 1 (by decide) L28 (fun _ h => h) rfl (ty := .int) (by decide +kernel) rfl rfl (Nat.le_of_ble_eq_true rfl) rfl dX2_copyFrom_13 (fun H locs wd => ?_)
  refine lv_aload_n C.1 C.2.1 dX2_copyFrom_16 rfl (lv_at hl 1 rfl) ?_
  refine z_get C wd (Cn := RX2) (TT := TX2) (N := 5) (ci := 2) iX2 4 rfl rfl 2 (by decide) L9 (fun _ h => h) rfl dX2_copyFrom_17 ?_
  refine z_iconst C dX2_copyFrom_20 ?_
  refine lv_aload_n C.1 C.2.1 dX2_copyFrom_21 rfl (lv_at hl 0 rfl) ?_
  refine z_get C wd (Cn := RX2) (TT := TX2) (N := 5) (ci := 2) iX2 0 rfl rfl 2 (by decide) L9 (fun _ h => h) rfl dX2_copyFrom_22 ?_
  refine z_iconst C dX2_copyFrom_25 ?_
  refine z_bipush C dX2_copyFrom_26 (by decide +kernel) ?_
  refine z_copy C wd (rest := []) (ws2 := [zO s0 2 [.int (iI qg), .int (iI qc), .ref s1, .ref s2, .ref s3], zA cy s1 80 (cpZ gb fb 80), zA cy s2 240 fs_, zA cy s3 240 fo, zO u0 2 [.int (iI qg), .int (iI qc), .ref u1, .ref u2, .ref u3], zA cy u1 80 gb, zA cy u2 240 gs, zA cy u3 240 go]) 5 1 rfl rfl (C.2.2.2.2 (.methodLink RX2 31 arraycopyName) (by decide +kernel)) (C.2.2.2.2 (.native arraycopyName) (by decide +kernel)) (C.2.2.2.2 (.static arraycopyName) (by decide +kernel)) (C.2.2.2.2 (.initialized "java/lang/System") (by decide +kernel)) (by omega) (Nat.le_of_ble_eq_true rfl) (Nat.le_of_ble_eq_true rfl) hl.1 rfl dX2_copyFrom_28 (fun H locs wd => ?_)
  refine lv_aload_n C.1 C.2.1 dX2_copyFrom_31 rfl (lv_at hl 1 rfl) ?_
  refine z_get C wd (Cn := RX2) (TT := TX2) (N := 5) (ci := 2) iX2 4 rfl rfl 3 (by decide) L15 (fun _ h => h) rfl dX2_copyFrom_32 ?_
  refine z_iconst C dX2_copyFrom_35 ?_
  refine lv_aload_n C.1 C.2.1 dX2_copyFrom_36 rfl (lv_at hl 0 rfl) ?_
  refine z_get C wd (Cn := RX2) (TT := TX2) (N := 5) (ci := 2) iX2 0 rfl rfl 3 (by decide) L15 (fun _ h => h) rfl dX2_copyFrom_37 ?_
  refine z_iconst C dX2_copyFrom_40 ?_
  refine z_sipush C dX2_copyFrom_41 (by decide +kernel) ?_
  refine z_copy C wd (rest := []) (ws2 := [zO s0 2 [.int (iI qg), .int (iI qc), .ref s1, .ref s2, .ref s3], zA cy s1 80 (cpZ gb fb 80), zA cy s2 240 (cpZ gs fs_ 240), zA cy s3 240 fo, zO u0 2 [.int (iI qg), .int (iI qc), .ref u1, .ref u2, .ref u3], zA cy u1 80 gb, zA cy u2 240 gs, zA cy u3 240 go]) 6 2 rfl rfl (C.2.2.2.2 (.methodLink RX2 31 arraycopyName) (by decide +kernel)) (C.2.2.2.2 (.native arraycopyName) (by decide +kernel)) (C.2.2.2.2 (.static arraycopyName) (by decide +kernel)) (C.2.2.2.2 (.initialized "java/lang/System") (by decide +kernel)) (by omega) (Nat.le_of_ble_eq_true rfl) (Nat.le_of_ble_eq_true rfl) hl.1 rfl dX2_copyFrom_44 (fun H locs wd => ?_)
  refine lv_aload_n C.1 C.2.1 dX2_copyFrom_47 rfl (lv_at hl 1 rfl) ?_
  refine z_get C wd (Cn := RX2) (TT := TX2) (N := 5) (ci := 2) iX2 4 rfl rfl 4 (by decide) L18 (fun _ h => h) rfl dX2_copyFrom_48 ?_
  refine z_iconst C dX2_copyFrom_51 ?_
  refine lv_aload_n C.1 C.2.1 dX2_copyFrom_52 rfl (lv_at hl 0 rfl) ?_
  refine z_get C wd (Cn := RX2) (TT := TX2) (N := 5) (ci := 2) iX2 0 rfl rfl 4 (by decide) L18 (fun _ h => h) rfl dX2_copyFrom_53 ?_
  refine z_iconst C dX2_copyFrom_56 ?_
  refine z_sipush C dX2_copyFrom_57 (by decide +kernel) ?_
  refine z_copy C wd (rest := []) (ws2 := [zO s0 2 [.int (iI qg), .int (iI qc), .ref s1, .ref s2, .ref s3], zA cy s1 80 (cpZ gb fb 80), zA cy s2 240 (cpZ gs fs_ 240), zA cy s3 240 (cpZ go fo 240), zO u0 2 [.int (iI qg), .int (iI qc), .ref u1, .ref u2, .ref u3], zA cy u1 80 gb, zA cy u2 240 gs, zA cy u3 240 go]) 7 3 rfl rfl (C.2.2.2.2 (.methodLink RX2 31 arraycopyName) (by decide +kernel)) (C.2.2.2.2 (.native arraycopyName) (by decide +kernel)) (C.2.2.2.2 (.static arraycopyName) (by decide +kernel)) (C.2.2.2.2 (.initialized "java/lang/System") (by decide +kernel)) (by omega) (Nat.le_of_ble_eq_true rfl) (Nat.le_of_ble_eq_true rfl) hl.1 rfl dX2_copyFrom_60 (fun H locs wd => ?_)
  have wd := z_cell wd (ws2 := [zO s0 2 [.int (iI qg), .int (iI qc), .ref s1, .ref s2, .ref s3], zA cy s1 80 gb, zA cy s2 240 (cpZ gs fs_ 240), zA cy s3 240 (cpZ go fo 240), zO u0 2 [.int (iI qg), .int (iI qc), .ref u1, .ref u2, .ref u3], zA cy u1 80 gb, zA cy u2 240 gs, zA cy u3 240 go]) 1 rfl (by intro j j0 j1; exact if_pos (by omega)) rfl
  have wd := z_cell wd (ws2 := [zO s0 2 [.int (iI qg), .int (iI qc), .ref s1, .ref s2, .ref s3], zA cy s1 80 gb, zA cy s2 240 gs, zA cy s3 240 (cpZ go fo 240), zO u0 2 [.int (iI qg), .int (iI qc), .ref u1, .ref u2, .ref u3], zA cy u1 80 gb, zA cy u2 240 gs, zA cy u3 240 go]) 2 rfl (by intro j j0 j1; exact if_pos (by omega)) rfl
  have wd := z_cell wd (ws2 := [zO s0 2 [.int (iI qg), .int (iI qc), .ref s1, .ref s2, .ref s3], zA cy s1 80 gb, zA cy s2 240 gs, zA cy s3 240 go, zO u0 2 [.int (iI qg), .int (iI qc), .ref u1, .ref u2, .ref u3], zA cy u1 80 gb, zA cy u2 240 gs, zA cy u3 240 go]) 3 rfl (by intro j j0 j1; exact if_pos (by omega)) rfl
  exact z_vret C hr hlk wd dX2_copyFrom_63
set_option maxRecDepth 100000 in
set_option maxHeartbeats 4000000 in
theorem c_X2_push (l : Launch) (D : va_G) (cy cs : ClassId) (s0 s1 s2 s3 a0 a1 : Nat) (rg bc mm oo b : Int) (fb fs_ fo tp : Int → Int) (hm : 1 ≤ mm ∧ mm ≤ 5) (ho : 2 ≤ oo ∧ oo ≤ 3) (ht : tpOk tp) (hb : 0 ≤ b ∧ b ≤ 1) (hr0 : 0 ≤ rg ∧ rg < p2 mm) (hc : 0 ≤ bc ∧ bc < 80) : zCv l D (zT cy cs) yX2_push wsX2_push ({ frames := 2, cells := 0, slots := 0, locals := 44 } : Room) [.ref s0, .ref a0, .int (iI b)] [zO s0 2 [.int (iI rg), .int (iI bc), .ref s1, .ref s2, .ref s3], zA cy s1 80 fb, zA cy s2 240 fs_, zA cy s3 240 fo, zO a0 0 [.int (iI mm), .int (iI oo), .ref a1], zA cy a1 3 tp] [zO s0 2 [.int (iI (wn mm rg b / 2)), .int (iI (bc + 1)), .ref s1, .ref s2, .ref s3], zA cy s1 80 (uZ fb bc b), zA cy s2 240 (wrS fs_ (bc * oo) oo (fun k => sy (tp k) (wn mm rg b))), zA cy s3 240 (wrS fo (bc * oo) oo (fun k => sy (tp k) (wn mm rg b))), zO a0 0 [.int (iI mm), .int (iI oo), .ref a1], zA cy a1 3 tp] := by
  intro sz
  refine zM_mk (cc := cX2_push) (maxL := 7) (ret := none) (own := RX2) (Qc := fun sz => va_Qv (fun (_ : Unit) => True) (fun _ t => zQ D (zT cy cs) (va_A [zO s0 2 [.int (iI rg), .int (iI bc), .ref s1, .ref s2, .ref s3], zA cy s1 80 fb, zA cy s2 240 fs_, zA cy s3 240 fo, zO a0 0 [.int (iI mm), .int (iI oo), .ref a1], zA cy a1 3 tp] sz) [zO s0 2 [.int (iI (wn mm rg b / 2)), .int (iI (bc + 1)), .ref s1, .ref s2, .ref s3], zA cy s1 80 (uZ fb bc b), zA cy s2 240 (wrS fs_ (bc * oo) oo (fun k => sy (tp k) (wn mm rg b))), zA cy s3 240 (wrS fo (bc * oo) oo (fun k => sy (tp k) (wn mm rg b))), zO a0 0 [.int (iI mm), .int (iI oo), .ref a1], zA cy a1 3 tp] t) (va_A [zO s0 2 [.int (iI rg), .int (iI bc), .ref s1, .ref s2, .ref s3], zA cy s1 80 fb, zA cy s2 240 fs_, zA cy s3 240 fo, zO a0 0 [.int (iI mm), .int (iI oo), .ref a1], zA cy a1 3 tp] sz)) (by decide) rfl rfl (Nat.le_of_ble_eq_true rfl) rfl sz ?_
  intro p e s m args below meth c ls C hr hlk hnm hl hsz hA wd
  subst hsz
  have hl : lv_has ls 7 [(0, .ref s0), (1, .ref a0), (2, .int (iI b))] := hl
  have iX0 : ∀ w ∈ u_ws RX0 TX0 3, w ∈ wsX2_push := by decide +kernel
  have iX2 : ∀ w ∈ u_ws RX2 TX2 5, w ∈ wsX2_push := by decide +kernel
  have L9 := C.2.2.2.2 (.fieldLink RX2 9 "LikelyWalks$Sender" "bits" "[I") (by decide +kernel)
  have L15 := C.2.2.2.2 (.fieldLink RX2 15 "LikelyWalks$Sender" "symbols" "[I") (by decide +kernel)
  have L18 := C.2.2.2.2 (.fieldLink RX2 18 "LikelyWalks$Sender" "originals" "[I") (by decide +kernel)
  have L24 := C.2.2.2.2 (.fieldLink RX2 24 "LikelyWalks$Sender" "register" "I") (by decide +kernel)
  have L28 := C.2.2.2.2 (.fieldLink RX2 28 "LikelyWalks$Sender" "bitCount" "I") (by decide +kernel)
  have L43 := C.2.2.2.2 (.fieldLink RX2 43 "LikelyWalks$Code" "outputs" "I") (by decide +kernel)
  have hw := wn_le hm.1 hm.2 hr0.1 hr0.2 hb.1 hb.2
  have hm3 : 0 ≤ bc * oo ∧ bc * oo + oo ≤ 240 := by rcases (show oo = 2 ∨ oo = 3 by omega) with h | h <;> rw [h] <;> omega
  refine lv_aload_n C.1 C.2.1 dX2_push_0 rfl (lv_at hl 0 rfl) ?_
  refine z_get C wd (Cn := RX2) (TT := TX2) (N := 5) (ci := 2) iX2 0 rfl rfl 1 (by decide) L28 (fun _ h => h) rfl dX2_push_1 ?_
  refine z_bipush C dX2_push_4 (by decide +kernel) ?_
  refine z_icmp_lt C (tgt := 10) dX2_push_6 (by decide) (by omega) (fun c_1 => ?_) (fun c_1 => ?_)
  · skip
    refine lv_aload_n C.1 C.2.1 dX2_push_10 rfl (lv_at hl 1 rfl) ?_
    refine lv_aload_n C.1 C.2.1 dX2_push_11 rfl (lv_at hl 0 rfl) ?_
    refine z_get C wd (Cn := RX2) (TT := TX2) (N := 5) (ci := 2) iX2 0 rfl rfl 0 (by decide) L24 (fun _ h => h) rfl dX2_push_12 ?_
    refine lv_iload_n C.1 C.2.1 dX2_push_15 rfl (lv_at hl 2 rfl) ?_
    refine z_cvi C wd hA (As := [.int (iI rg), .int (iI b)]) (rest := []) (ws2 := [zO s0 2 [.int (iI rg), .int (iI bc), .ref s1, .ref s2, .ref s3], zA cy s1 80 fb, zA cy s2 240 fs_, zA cy s3 240 fo, zO a0 0 [.int (iI mm), .int (iI oo), .ref a1], zA cy a1 3 tp]) (c_X0_windowOf l D cy cs a0 a1 mm oo rg b (by omega) (by omega)) (cwV 2 C.2.2.2.2 gX2_push_X0_windowOf rfl rfl rfl (by decide +kernel) ⟨Nat.le_of_ble_eq_true rfl, Nat.le_of_ble_eq_true rfl⟩) [4] rfl rfl rfl ⟨rfl, [0, 1, 2, 3, 5], [zO s0 2 [.int (iI rg), .int (iI bc), .ref s1, .ref s2, .ref s3], zA cy s1 80 fb, zA cy s2 240 fs_, zA cy s3 240 fo, zA cy a1 3 tp], 6, rfl, rfl, rfl, by decide +kernel⟩ rfl rfl rfl rfl (Nat.le_of_ble_eq_true rfl) hl.1 dX2_push_16 ⟨Nat.zero_le _, Nat.zero_le _⟩ (fun H locs wd => ?_)
    refine lv_istore_n (lv' := [(3, .int (iI (wn mm rg b))), (0, .ref s0), (1, .ref a0), (2, .int (iI b))]) C.1 C.2.1 dX2_push_19 rfl hl (by decide) rfl (fun ls hl => ?_)
    refine lv_aload_n C.1 C.2.1 dX2_push_20 rfl (lv_at hl 1 rfl) ?_
    refine z_get C wd (Cn := RX2) (TT := TX2) (N := 5) (ci := 2) iX2 0 rfl rfl 1 (by decide) L28 (fun _ h => h) rfl dX2_push_21 ?_
    refine lv_aload_n C.1 C.2.1 dX2_push_24 rfl (lv_at hl 2 rfl) ?_
    refine z_get C wd (Cn := RX0) (TT := TX0) (N := 3) (ci := 0) iX0 4 rfl rfl 1 (by decide) L43 (fun _ h => h) rfl dX2_push_25 ?_
    refine z_imul C dX2_push_28 ?_
    refine lv_istore (lv' := [(4, .int (iI (bc * oo))), (3, .int (iI (wn mm rg b))), (0, .ref s0), (1, .ref a0), (2, .int (iI b))]) C.1 C.2.1 dX2_push_29 hl (by decide) rfl (fun ls hl => ?_)
    refine z_iconst C dX2_push_31 ?_
    refine lv_istore (lv' := [(5, .int (iI 0)), (4, .int (iI (bc * oo))), (3, .int (iI (wn mm rg b))), (0, .ref s0), (1, .ref a0), (2, .int (iI b))]) C.1 C.2.1 dX2_push_32 hl (by decide) rfl (fun ls hl => ?_)
    refine z_loop3 (P := fun (k : Int) (g1 : Int → Int) (g2 : Int → Int) => (0 ≤ k ∧ k ≤ oo) ∧ (g1 = wrS fs_ (bc * oo) k (fun k => sy (tp k) (wn mm rg b))) ∧ (g2 = wrS fo (bc * oo) k (fun k => sy (tp k) (wn mm rg b)))) (mu := fun (k : Int) (g1 : Int → Int) (g2 : Int → Int) => (oo - k).toNat) (ws := fun (k : Int) (g1 : Int → Int) (g2 : Int → Int) => [zO s0 2 [.int (iI rg), .int (iI bc), .ref s1, .ref s2, .ref s3], zA cy s1 80 fb, zA cy s2 240 g1, zA cy s3 240 g2, zO a0 0 [.int (iI mm), .int (iI oo), .ref a1], zA cy a1 3 tp]) (lv := fun (k : Int) (g1 : Int → Int) (g2 : Int → Int) => [(0, .ref s0), (1, .ref a0), (2, .int (iI b)), (3, .int (iI (wn mm rg b))), (4, .int (iI (bc * oo))), (5, .int (iI k))]) 0 fs_ fo C ⟨(by omega), (wrS_0 _ _ _).symm, (wrS_0 _ _ _).symm⟩ wd (lv_sub hl [3, 4, 5, 2, 1, 0] rfl) ?_
    intro k g1 g2 hP34 ih34 H locs ls wd hl
    obtain ⟨h34_0, h34_1, h34_2⟩ := hP34
    try dsimp only at h34_0 h34_1 h34_2
    have wd : Wd D (zT cy cs) _ s.heap s [zO s0 2 [.int (iI rg), .int (iI bc), .ref s1, .ref s2, .ref s3], zA cy s1 80 fb, zA cy s2 240 g1, zA cy s3 240 g2, zO a0 0 [.int (iI mm), .int (iI oo), .ref a1], zA cy a1 3 tp] H locs := wd
    have hl : lv_has ls 7 [(0, .ref s0), (1, .ref a0), (2, .int (iI b)), (3, .int (iI (wn mm rg b))), (4, .int (iI (bc * oo))), (5, .int (iI k))] := hl
    refine lv_iload C.1 C.2.1 dX2_push_34 (lv_at hl 5 rfl) ?_
    refine lv_aload_n C.1 C.2.1 dX2_push_36 rfl (lv_at hl 1 rfl) ?_
    refine z_get C wd (Cn := RX0) (TT := TX0) (N := 3) (ci := 0) iX0 4 rfl rfl 1 (by decide) L43 (fun _ h => h) rfl dX2_push_37 ?_
    refine z_icmp_ge C (tgt := 82) dX2_push_40 (by decide) (by omega) (fun c_2 => ?_) (fun c_2 => ?_)
    · skip
      refine lv_aload_n C.1 C.2.1 dX2_push_82 rfl (lv_at hl 0 rfl) ?_
      refine z_get C wd (Cn := RX2) (TT := TX2) (N := 5) (ci := 2) iX2 0 rfl rfl 2 (by decide) L9 (fun _ h => h) rfl dX2_push_83 ?_
      refine lv_aload_n C.1 C.2.1 dX2_push_86 rfl (lv_at hl 0 rfl) ?_
      refine z_get C wd (Cn := RX2) (TT := TX2) (N := 5) (ci := 2) iX2 0 rfl rfl 1 (by decide) L28 (fun _ h => h) rfl dX2_push_87 ?_
      refine lv_iload_n C.1 C.2.1 dX2_push_90 rfl (lv_at hl 2 rfl) ?_
      refine z_iast C wd (ws2 := [zO s0 2 [.int (iI rg), .int (iI bc), .ref s1, .ref s2, .ref s3], zA cy s1 80 (uZ fb bc b), zA cy s2 240 g1, zA cy s3 240 g2, zO a0 0 [.int (iI mm), .int (iI oo), .ref a1], zA cy a1 3 tp]) 1 rfl (by omega) (by decide) rfl dX2_push_91 (fun H locs wd => ?_)
      refine lv_aload_n C.1 C.2.1 dX2_push_92 rfl (lv_at hl 0 rfl) ?_
      refine lv_dup C.1 C.2.1 dX2_push_93 rfl ?_
      refine z_get C wd (Cn := RX2) (TT := TX2) (N := 5) (ci := 2) iX2 0 rfl rfl 1 (by decide) L28 (fun _ h => h) rfl dX2_push_94 ?_
      refine z_iconst C dX2_push_97 ?_
      refine z_iadd C dX2_push_98 ?_
      refine z_put C wd (Cn := RX2) (TT := TX2) (N := 5) (ci := 2) (ws2 := [zO s0 2 [.int (iI rg), .int (iI (bc + 1)), .ref s1, .ref s2, .ref s3], zA cy s1 80 (uZ fb bc b), zA cy s2 240 g1, zA cy s3 240 g2, zO a0 0 [.int (iI mm), .int (iI oo), .ref a1], zA cy a1 3 tp]) iX2 tyX2 tyX2_ok nmX2 0 rfl rfl 1 (by decide) L28 (fun _ h => h) rfl (ty := .int) (by decide +kernel) rfl rfl (Nat.le_of_ble_eq_true rfl) rfl dX2_push_99 (fun H locs wd => ?_)
      refine lv_aload_n C.1 C.2.1 dX2_push_102 rfl (lv_at hl 0 rfl) ?_
      refine lv_aload_n C.1 C.2.1 dX2_push_103 rfl (lv_at hl 1 rfl) ?_
      refine lv_aload_n C.1 C.2.1 dX2_push_104 rfl (lv_at hl 0 rfl) ?_
      refine z_get C wd (Cn := RX2) (TT := TX2) (N := 5) (ci := 2) iX2 0 rfl rfl 0 (by decide) L24 (fun _ h => h) rfl dX2_push_105 ?_
      refine lv_iload_n C.1 C.2.1 dX2_push_108 rfl (lv_at hl 2 rfl) ?_
      refine z_cvi C wd hA (As := [.int (iI rg), .int (iI b)]) (rest := [.ref s0]) (ws2 := [zO s0 2 [.int (iI rg), .int (iI (bc + 1)), .ref s1, .ref s2, .ref s3], zA cy s1 80 (uZ fb bc b), zA cy s2 240 g1, zA cy s3 240 g2, zO a0 0 [.int (iI mm), .int (iI oo), .ref a1], zA cy a1 3 tp]) (c_X0_stateAfter l D cy cs a0 a1 mm oo rg b (by omega) (by omega) (by omega)) (cwV 2 C.2.2.2.2 gX2_push_X0_stateAfter rfl rfl rfl (by decide +kernel) ⟨Nat.le_of_ble_eq_true rfl, Nat.le_of_ble_eq_true rfl⟩) [4] rfl rfl rfl ⟨rfl, [0, 1, 2, 3, 5], [zO s0 2 [.int (iI rg), .int (iI (bc + 1)), .ref s1, .ref s2, .ref s3], zA cy s1 80 (uZ fb bc b), zA cy s2 240 g1, zA cy s3 240 g2, zA cy a1 3 tp], 6, rfl, rfl, rfl, by decide +kernel⟩ rfl rfl rfl rfl (Nat.le_of_ble_eq_true rfl) hl.1 dX2_push_109 ⟨Nat.zero_le _, Nat.zero_le _⟩ (fun H locs wd => ?_)
      refine z_put C wd (Cn := RX2) (TT := TX2) (N := 5) (ci := 2) (ws2 := [zO s0 2 [.int (iI (wn mm rg b / 2)), .int (iI (bc + 1)), .ref s1, .ref s2, .ref s3], zA cy s1 80 (uZ fb bc b), zA cy s2 240 g1, zA cy s3 240 g2, zO a0 0 [.int (iI mm), .int (iI oo), .ref a1], zA cy a1 3 tp]) iX2 tyX2 tyX2_ok nmX2 0 rfl rfl 0 (by decide) L24 (fun _ h => h) rfl (ty := .int) (by decide +kernel) rfl rfl (Nat.le_of_ble_eq_true rfl) rfl dX2_push_112 (fun H locs wd => ?_)
      have wd := z_cell wd (ws2 := [zO s0 2 [.int (iI (wn mm rg b / 2)), .int (iI (bc + 1)), .ref s1, .ref s2, .ref s3], zA cy s1 80 (uZ fb bc b), zA cy s2 240 (wrS fs_ (bc * oo) oo (fun k => sy (tp k) (wn mm rg b))), zA cy s3 240 g2, zO a0 0 [.int (iI mm), .int (iI oo), .ref a1], zA cy a1 3 tp]) 2 rfl (by intro j _ _; rw [h34_1, show k = oo by omega]) rfl
      have wd := z_cell wd (ws2 := [zO s0 2 [.int (iI (wn mm rg b / 2)), .int (iI (bc + 1)), .ref s1, .ref s2, .ref s3], zA cy s1 80 (uZ fb bc b), zA cy s2 240 (wrS fs_ (bc * oo) oo (fun k => sy (tp k) (wn mm rg b))), zA cy s3 240 (wrS fo (bc * oo) oo (fun k => sy (tp k) (wn mm rg b))), zO a0 0 [.int (iI mm), .int (iI oo), .ref a1], zA cy a1 3 tp]) 3 rfl (by intro j _ _; rw [h34_2, show k = oo by omega]) rfl
      exact z_vret C hr hlk wd dX2_push_115
    · skip
      refine lv_aload_n C.1 C.2.1 dX2_push_43 rfl (lv_at hl 1 rfl) ?_
      refine lv_iload C.1 C.2.1 dX2_push_44 (lv_at hl 5 rfl) ?_
      refine lv_iload_n C.1 C.2.1 dX2_push_46 rfl (lv_at hl 3 rfl) ?_
      refine z_cvi C wd hA (As := [.int (iI k), .int (iI (wn mm rg b))]) (rest := []) (ws2 := [zO s0 2 [.int (iI rg), .int (iI bc), .ref s1, .ref s2, .ref s3], zA cy s1 80 fb, zA cy s2 240 g1, zA cy s3 240 g2, zO a0 0 [.int (iI mm), .int (iI oo), .ref a1], zA cy a1 3 tp]) (c_X0_symbolOf l D cy cs a0 a1 mm oo tp k (wn mm rg b) (by omega) (by omega) (by omega)) (cwV 2 C.2.2.2.2 gX2_push_X0_symbolOf rfl rfl rfl (by decide +kernel) ⟨Nat.le_of_ble_eq_true rfl, Nat.le_of_ble_eq_true rfl⟩) [4, 5] rfl rfl rfl ⟨rfl, [0, 1, 2, 3], [zO s0 2 [.int (iI rg), .int (iI bc), .ref s1, .ref s2, .ref s3], zA cy s1 80 fb, zA cy s2 240 g1, zA cy s3 240 g2], 6, rfl, rfl, rfl, by decide +kernel⟩ rfl rfl rfl rfl (Nat.le_of_ble_eq_true rfl) hl.1 dX2_push_47 ⟨Nat.zero_le _, Nat.zero_le _⟩ (fun H locs wd => ?_)
      have hsy := sy_le (tp k) (wn mm rg b)
      refine lv_istore (lv' := [(6, .int (iI (sy (tp k) (wn mm rg b)))), (0, .ref s0), (1, .ref a0), (2, .int (iI b)), (3, .int (iI (wn mm rg b))), (4, .int (iI (bc * oo))), (5, .int (iI k))]) C.1 C.2.1 dX2_push_50 hl (by decide) rfl (fun ls hl => ?_)
      refine lv_aload_n C.1 C.2.1 dX2_push_52 rfl (lv_at hl 1 rfl) ?_
      refine z_get C wd (Cn := RX2) (TT := TX2) (N := 5) (ci := 2) iX2 0 rfl rfl 3 (by decide) L15 (fun _ h => h) rfl dX2_push_53 ?_
      refine lv_iload C.1 C.2.1 dX2_push_56 (lv_at hl 5 rfl) ?_
      refine lv_iload C.1 C.2.1 dX2_push_58 (lv_at hl 6 rfl) ?_
      refine z_iadd C dX2_push_60 ?_
      refine lv_iload C.1 C.2.1 dX2_push_61 (lv_at hl 0 rfl) ?_
      refine z_iast C wd (ws2 := [zO s0 2 [.int (iI rg), .int (iI bc), .ref s1, .ref s2, .ref s3], zA cy s1 80 fb, zA cy s2 240 (uZ g1 ((bc * oo) + k) (sy (tp k) (wn mm rg b))), zA cy s3 240 g2, zO a0 0 [.int (iI mm), .int (iI oo), .ref a1], zA cy a1 3 tp]) 2 rfl (by omega) (by decide) rfl dX2_push_63 (fun H locs wd => ?_)
      refine lv_aload_n C.1 C.2.1 dX2_push_64 rfl (lv_at hl 1 rfl) ?_
      refine z_get C wd (Cn := RX2) (TT := TX2) (N := 5) (ci := 2) iX2 0 rfl rfl 4 (by decide) L18 (fun _ h => h) rfl dX2_push_65 ?_
      refine lv_iload C.1 C.2.1 dX2_push_68 (lv_at hl 5 rfl) ?_
      refine lv_iload C.1 C.2.1 dX2_push_70 (lv_at hl 6 rfl) ?_
      refine z_iadd C dX2_push_72 ?_
      refine lv_iload C.1 C.2.1 dX2_push_73 (lv_at hl 0 rfl) ?_
      refine z_iast C wd (ws2 := [zO s0 2 [.int (iI rg), .int (iI bc), .ref s1, .ref s2, .ref s3], zA cy s1 80 fb, zA cy s2 240 (uZ g1 ((bc * oo) + k) (sy (tp k) (wn mm rg b))), zA cy s3 240 (uZ g2 ((bc * oo) + k) (sy (tp k) (wn mm rg b))), zO a0 0 [.int (iI mm), .int (iI oo), .ref a1], zA cy a1 3 tp]) 3 rfl (by omega) (by decide) rfl dX2_push_75 (fun H locs wd => ?_)
      refine z_iinc C (lv' := [(5, .int (iI (k + 1))), (6, .int (iI (sy (tp k) (wn mm rg b)))), (0, .ref s0), (1, .ref a0), (2, .int (iI b)), (3, .int (iI (wn mm rg b))), (4, .int (iI (bc * oo)))]) hl 6 dX2_push_76 rfl (by decide) rfl (fun ls hl => ?_)
      refine z_goto C (tgt := 34) dX2_push_79 (by decide) ?_
      exact ih34 (k + 1) (uZ g1 ((bc * oo) + k) (sy (tp k) (wn mm rg b))) (uZ g2 ((bc * oo) + k) (sy (tp k) (wn mm rg b))) ⟨(by omega), (by rw [h34_1]; exact wrS_step fs_ (bc * oo) k (fun k => sy (tp k) (wn mm rg b)) h34_0.1), (by rw [h34_2]; exact wrS_step fo (bc * oo) k (fun k => sy (tp k) (wn mm rg b)) h34_0.1)⟩ (by omega) H locs _ wd (lv_sub hl [2, 3, 4, 5, 6, 0] rfl)
  · skip
    exact False.elim (by omega)
set_option maxRecDepth 100000 in
set_option maxHeartbeats 4000000 in
theorem c_X1_clear (l : Launch) (D : va_G) (cy cs : ClassId) (r0 r1 r2 r3 r4 : Nat) (S L N E : Int) (fm : Int → Int)  : zCv l D (zT cy cs) yX1_clear wsX1_clear ({ frames := 1, cells := 0, slots := 0, locals := 23 } : Room) [.ref r0] [zO r0 1 [.int (iI S), .int (iI L), .int (iI N), .int (iI E), .ref r1, .ref r2, .ref r3, .ref r4], zA cy r2 32 fm] [zO r0 1 [.int (iI 0), .int (iI 0), .int (iI 0), .int (iI 0), .ref r1, .ref r2, .ref r3, .ref r4], zA cy r2 32 (uZ (fun _ => -1) 0 0)] := by
  intro sz
  refine zM_mk (cc := cX1_clear) (maxL := 1) (ret := none) (own := RX1) (Qc := fun sz => va_Qv (fun (_ : Unit) => True) (fun _ t => zQ D (zT cy cs) (va_A [zO r0 1 [.int (iI S), .int (iI L), .int (iI N), .int (iI E), .ref r1, .ref r2, .ref r3, .ref r4], zA cy r2 32 fm] sz) [zO r0 1 [.int (iI 0), .int (iI 0), .int (iI 0), .int (iI 0), .ref r1, .ref r2, .ref r3, .ref r4], zA cy r2 32 (uZ (fun _ => -1) 0 0)] t) (va_A [zO r0 1 [.int (iI S), .int (iI L), .int (iI N), .int (iI E), .ref r1, .ref r2, .ref r3, .ref r4], zA cy r2 32 fm] sz)) (by decide) rfl rfl (Nat.le_of_ble_eq_true rfl) rfl sz ?_
  intro p e s m args below meth c ls C hr hlk hnm hl hsz hA wd
  subst hsz
  have hl : lv_has ls 1 [(0, .ref r0)] := hl
  have iX1 : ∀ w ∈ u_ws RX1 TX1 8, w ∈ wsX1_clear := by decide +kernel
  have L15 := C.2.2.2.2 (.fieldLink RX1 15 "LikelyWalks$Reader" "metrics" "[I") (by decide +kernel)
  have L27 := C.2.2.2.2 (.fieldLink RX1 27 "LikelyWalks$Reader" "steps" "I") (by decide +kernel)
  have L31 := C.2.2.2.2 (.fieldLink RX1 31 "LikelyWalks$Reader" "lineSteps" "I") (by decide +kernel)
  have L34 := C.2.2.2.2 (.fieldLink RX1 34 "LikelyWalks$Reader" "releasedCount" "I") (by decide +kernel)
  have L37 := C.2.2.2.2 (.fieldLink RX1 37 "LikelyWalks$Reader" "isFinished" "Z") (by decide +kernel)
  refine lv_aload_n C.1 C.2.1 dX1_clear_0 rfl (lv_at hl 0 rfl) ?_
  refine z_iconst C dX1_clear_1 ?_
  refine z_put C wd (Cn := RX1) (TT := TX1) (N := 8) (ci := 1) (ws2 := [zO r0 1 [.int (iI 0), .int (iI L), .int (iI N), .int (iI E), .ref r1, .ref r2, .ref r3, .ref r4], zA cy r2 32 fm]) iX1 tyX1 tyX1_ok nmX1 0 rfl rfl 0 (by decide) L27 (fun _ h => h) rfl (ty := .int) (by decide +kernel) rfl rfl (Nat.le_of_ble_eq_true rfl) rfl dX1_clear_2 (fun H locs wd => ?_)
  refine lv_aload_n C.1 C.2.1 dX1_clear_5 rfl (lv_at hl 0 rfl) ?_
  refine z_iconst C dX1_clear_6 ?_
  refine z_put C wd (Cn := RX1) (TT := TX1) (N := 8) (ci := 1) (ws2 := [zO r0 1 [.int (iI 0), .int (iI 0), .int (iI N), .int (iI E), .ref r1, .ref r2, .ref r3, .ref r4], zA cy r2 32 fm]) iX1 tyX1 tyX1_ok nmX1 0 rfl rfl 1 (by decide) L31 (fun _ h => h) rfl (ty := .int) (by decide +kernel) rfl rfl (Nat.le_of_ble_eq_true rfl) rfl dX1_clear_7 (fun H locs wd => ?_)
  refine lv_aload_n C.1 C.2.1 dX1_clear_10 rfl (lv_at hl 0 rfl) ?_
  refine z_iconst C dX1_clear_11 ?_
  refine z_put C wd (Cn := RX1) (TT := TX1) (N := 8) (ci := 1) (ws2 := [zO r0 1 [.int (iI 0), .int (iI 0), .int (iI 0), .int (iI E), .ref r1, .ref r2, .ref r3, .ref r4], zA cy r2 32 fm]) iX1 tyX1 tyX1_ok nmX1 0 rfl rfl 2 (by decide) L34 (fun _ h => h) rfl (ty := .int) (by decide +kernel) rfl rfl (Nat.le_of_ble_eq_true rfl) rfl dX1_clear_12 (fun H locs wd => ?_)
  refine lv_aload_n C.1 C.2.1 dX1_clear_15 rfl (lv_at hl 0 rfl) ?_
  refine z_iconst C dX1_clear_16 ?_
  refine z_put C wd (Cn := RX1) (TT := TX1) (N := 8) (ci := 1) (ws2 := [zO r0 1 [.int (iI 0), .int (iI 0), .int (iI 0), .int (iI 0), .ref r1, .ref r2, .ref r3, .ref r4], zA cy r2 32 fm]) iX1 tyX1 tyX1_ok nmX1 0 rfl rfl 3 (by decide) L37 (fun _ h => h) rfl (ty := .boolean) (by decide +kernel) rfl rfl (Nat.le_of_ble_eq_true rfl) rfl dX1_clear_17 (fun H locs wd => ?_)
  refine lv_aload_n C.1 C.2.1 dX1_clear_20 rfl (lv_at hl 0 rfl) ?_
  refine z_get C wd (Cn := RX1) (TT := TX1) (N := 8) (ci := 1) iX1 0 rfl rfl 5 (by decide) L15 (fun _ h => h) rfl dX1_clear_21 ?_
  refine z_iconst C dX1_clear_24 ?_
  refine z_csv C wd hA (As := [.ref r2, .int (iI (-1))]) (rest := []) (ws2 := [zO r0 1 [.int (iI 0), .int (iI 0), .int (iI 0), .int (iI 0), .ref r1, .ref r2, .ref r3, .ref r4], zA cy r2 32 (fun _ => (-1))]) (c_fill l D cy cs r2 32 (-1) fm (by omega)) (va_cwS 2 C.2.2.2.2 gX1_clear_J7_fill_53178 rfl rfl rfl (by decide +kernel) ⟨Nat.le_of_ble_eq_true rfl, Nat.le_of_ble_eq_true rfl⟩) [1] rfl rfl rfl ⟨rfl, [0], [zO r0 1 [.int (iI 0), .int (iI 0), .int (iI 0), .int (iI 0), .ref r1, .ref r2, .ref r3, .ref r4]], 2, rfl, rfl, rfl, by decide +kernel⟩ rfl rfl (Nat.le_of_ble_eq_true rfl) hl.1 dX1_clear_25 ⟨Nat.zero_le _, Nat.zero_le _⟩ (fun H locs wd => ?_)
  refine lv_aload_n C.1 C.2.1 dX1_clear_28 rfl (lv_at hl 0 rfl) ?_
  refine z_get C wd (Cn := RX1) (TT := TX1) (N := 8) (ci := 1) iX1 0 rfl rfl 5 (by decide) L15 (fun _ h => h) rfl dX1_clear_29 ?_
  refine z_iconst C dX1_clear_32 ?_
  refine z_iconst C dX1_clear_33 ?_
  refine z_iast C wd (ws2 := [zO r0 1 [.int (iI 0), .int (iI 0), .int (iI 0), .int (iI 0), .ref r1, .ref r2, .ref r3, .ref r4], zA cy r2 32 (uZ (fun _ => (-1)) 0 0)]) 1 rfl (by omega) (by decide) rfl dX1_clear_34 (fun H locs wd => ?_)
  have wd := z_cell wd (ws2 := [zO r0 1 [.int (iI 0), .int (iI 0), .int (iI 0), .int (iI 0), .ref r1, .ref r2, .ref r3, .ref r4], zA cy r2 32 (uZ (fun _ => -1) 0 0)]) 1 rfl (by intro k hk0 hk1; first | rfl | omega) rfl
  exact z_vret C hr hlk wd dX1_clear_35
set_option maxRecDepth 100000 in
set_option maxHeartbeats 4000000 in
theorem c_X1_copyFrom (l : Launch) (D : va_G) (cy cs : ClassId) (r0 r1 r2 r3 r4 : Nat) (S L N E : Int) (r0q r1q r2q r3q r4q : Nat) (Sq Lq Nq Eq : Int) (fr fm fu gr gm gu : Int → Int) (hE : Eq = 0 ∨ Eq = 1) : zCv l D (zT cy cs) yX1_copyFrom wsX1_copyFrom ({ frames := 1, cells := 0, slots := 0, locals := 18 } : Room) [.ref r0, .ref r0q] [zO r0 1 [.int (iI S), .int (iI L), .int (iI N), .int (iI E), .ref r1, .ref r2, .ref r3, .ref r4], zA cy r1 80 fr, zA cy r2 32 fm, zA cy r4 80 fu, zO r0q 1 [.int (iI Sq), .int (iI Lq), .int (iI Nq), .int (iI Eq), .ref r1q, .ref r2q, .ref r3q, .ref r4q], zA cy r1q 80 gr, zA cy r2q 32 gm, zA cy r4q 80 gu] [zO r0 1 [.int (iI Sq), .int (iI Lq), .int (iI Nq), .int (iI Eq), .ref r1, .ref r2, .ref r3, .ref r4], zA cy r1 80 gr, zA cy r2 32 gm, zA cy r4 80 gu, zO r0q 1 [.int (iI Sq), .int (iI Lq), .int (iI Nq), .int (iI Eq), .ref r1q, .ref r2q, .ref r3q, .ref r4q], zA cy r1q 80 gr, zA cy r2q 32 gm, zA cy r4q 80 gu] := by
  intro sz
  refine zM_mk (cc := cX1_copyFrom) (maxL := 2) (ret := none) (own := RX1) (Qc := fun sz => va_Qv (fun (_ : Unit) => True) (fun _ t => zQ D (zT cy cs) (va_A [zO r0 1 [.int (iI S), .int (iI L), .int (iI N), .int (iI E), .ref r1, .ref r2, .ref r3, .ref r4], zA cy r1 80 fr, zA cy r2 32 fm, zA cy r4 80 fu, zO r0q 1 [.int (iI Sq), .int (iI Lq), .int (iI Nq), .int (iI Eq), .ref r1q, .ref r2q, .ref r3q, .ref r4q], zA cy r1q 80 gr, zA cy r2q 32 gm, zA cy r4q 80 gu] sz) [zO r0 1 [.int (iI Sq), .int (iI Lq), .int (iI Nq), .int (iI Eq), .ref r1, .ref r2, .ref r3, .ref r4], zA cy r1 80 gr, zA cy r2 32 gm, zA cy r4 80 gu, zO r0q 1 [.int (iI Sq), .int (iI Lq), .int (iI Nq), .int (iI Eq), .ref r1q, .ref r2q, .ref r3q, .ref r4q], zA cy r1q 80 gr, zA cy r2q 32 gm, zA cy r4q 80 gu] t) (va_A [zO r0 1 [.int (iI S), .int (iI L), .int (iI N), .int (iI E), .ref r1, .ref r2, .ref r3, .ref r4], zA cy r1 80 fr, zA cy r2 32 fm, zA cy r4 80 fu, zO r0q 1 [.int (iI Sq), .int (iI Lq), .int (iI Nq), .int (iI Eq), .ref r1q, .ref r2q, .ref r3q, .ref r4q], zA cy r1q 80 gr, zA cy r2q 32 gm, zA cy r4q 80 gu] sz)) (by decide) rfl rfl (Nat.le_of_ble_eq_true rfl) rfl sz ?_
  intro p e s m args below meth c ls C hr hlk hnm hl hsz hA wd
  subst hsz
  have hl : lv_has ls 2 [(0, .ref r0), (1, .ref r0q)] := hl
  have iX1 : ∀ w ∈ u_ws RX1 TX1 8, w ∈ wsX1_copyFrom := by decide +kernel
  have L9 := C.2.2.2.2 (.fieldLink RX1 9 "LikelyWalks$Reader" "releasedBits" "[I") (by decide +kernel)
  have L15 := C.2.2.2.2 (.fieldLink RX1 15 "LikelyWalks$Reader" "metrics" "[I") (by decide +kernel)
  have L21 := C.2.2.2.2 (.fieldLink RX1 21 "LikelyWalks$Reader" "fromUpper" "[I") (by decide +kernel)
  have L27 := C.2.2.2.2 (.fieldLink RX1 27 "LikelyWalks$Reader" "steps" "I") (by decide +kernel)
  have L31 := C.2.2.2.2 (.fieldLink RX1 31 "LikelyWalks$Reader" "lineSteps" "I") (by decide +kernel)
  have L34 := C.2.2.2.2 (.fieldLink RX1 34 "LikelyWalks$Reader" "releasedCount" "I") (by decide +kernel)
  have L37 := C.2.2.2.2 (.fieldLink RX1 37 "LikelyWalks$Reader" "isFinished" "Z") (by decide +kernel)
  refine lv_aload_n C.1 C.2.1 dX1_copyFrom_0 rfl (lv_at hl 0 rfl) ?_
  refine lv_aload_n C.1 C.2.1 dX1_copyFrom_1 rfl (lv_at hl 1 rfl) ?_
  refine z_get C wd (Cn := RX1) (TT := TX1) (N := 8) (ci := 1) iX1 4 rfl rfl 0 (by decide) L27 (fun _ h => h) rfl dX1_copyFrom_2 ?_
  refine z_put C wd (Cn := RX1) (TT := TX1) (N := 8) (ci := 1) (ws2 := [zO r0 1 [.int (iI Sq), .int (iI L), .int (iI N), .int (iI E), .ref r1, .ref r2, .ref r3, .ref r4], zA cy r1 80 fr, zA cy r2 32 fm, zA cy r4 80 fu, zO r0q 1 [.int (iI Sq), .int (iI Lq), .int (iI Nq), .int (iI Eq), .ref r1q, .ref r2q, .ref r3q, .ref r4q], zA cy r1q 80 gr, zA cy r2q 32 gm, zA cy r4q 80 gu]) iX1 tyX1 tyX1_ok nmX1 0 rfl rfl 0 (by decide) L27 (fun _ h => h) rfl (ty := .int) (by decide +kernel) rfl rfl (Nat.le_of_ble_eq_true rfl) rfl dX1_copyFrom_5 (fun H locs wd => ?_)
  refine lv_aload_n C.1 C.2.1 dX1_copyFrom_8 rfl (lv_at hl 0 rfl) ?_
  refine lv_aload_n C.1 C.2.1 dX1_copyFrom_9 rfl (lv_at hl 1 rfl) ?_
  refine z_get C wd (Cn := RX1) (TT := TX1) (N := 8) (ci := 1) iX1 4 rfl rfl 1 (by decide) L31 (fun _ h => h) rfl dX1_copyFrom_10 ?_
  refine z_put C wd (Cn := RX1) (TT := TX1) (N := 8) (ci := 1) (ws2 := [zO r0 1 [.int (iI Sq), .int (iI Lq), .int (iI N), .int (iI E), .ref r1, .ref r2, .ref r3, .ref r4], zA cy r1 80 fr, zA cy r2 32 fm, zA cy r4 80 fu, zO r0q 1 [.int (iI Sq), .int (iI Lq), .int (iI Nq), .int (iI Eq), .ref r1q, .ref r2q, .ref r3q, .ref r4q], zA cy r1q 80 gr, zA cy r2q 32 gm, zA cy r4q 80 gu]) iX1 tyX1 tyX1_ok nmX1 0 rfl rfl 1 (by decide) L31 (fun _ h => h) rfl (ty := .int) (by decide +kernel) rfl rfl (Nat.le_of_ble_eq_true rfl) rfl dX1_copyFrom_13 (fun H locs wd => ?_)
  refine lv_aload_n C.1 C.2.1 dX1_copyFrom_16 rfl (lv_at hl 0 rfl) ?_
  refine lv_aload_n C.1 C.2.1 dX1_copyFrom_17 rfl (lv_at hl 1 rfl) ?_
  refine z_get C wd (Cn := RX1) (TT := TX1) (N := 8) (ci := 1) iX1 4 rfl rfl 2 (by decide) L34 (fun _ h => h) rfl dX1_copyFrom_18 ?_
  refine z_put C wd (Cn := RX1) (TT := TX1) (N := 8) (ci := 1) (ws2 := [zO r0 1 [.int (iI Sq), .int (iI Lq), .int (iI Nq), .int (iI E), .ref r1, .ref r2, .ref r3, .ref r4], zA cy r1 80 fr, zA cy r2 32 fm, zA cy r4 80 fu, zO r0q 1 [.int (iI Sq), .int (iI Lq), .int (iI Nq), .int (iI Eq), .ref r1q, .ref r2q, .ref r3q, .ref r4q], zA cy r1q 80 gr, zA cy r2q 32 gm, zA cy r4q 80 gu]) iX1 tyX1 tyX1_ok nmX1 0 rfl rfl 2 (by decide) L34 (fun _ h => h) rfl (ty := .int) (by decide +kernel) rfl rfl (Nat.le_of_ble_eq_true rfl) rfl dX1_copyFrom_21 (fun H locs wd => ?_)
  refine lv_aload_n C.1 C.2.1 dX1_copyFrom_24 rfl (lv_at hl 0 rfl) ?_
  refine lv_aload_n C.1 C.2.1 dX1_copyFrom_25 rfl (lv_at hl 1 rfl) ?_
  refine z_get C wd (Cn := RX1) (TT := TX1) (N := 8) (ci := 1) iX1 4 rfl rfl 3 (by decide) L37 (fun _ h => h) rfl dX1_copyFrom_26 ?_
  refine z_put C wd (Cn := RX1) (TT := TX1) (N := 8) (ci := 1) (ws2 := [zO r0 1 [.int (iI Sq), .int (iI Lq), .int (iI Nq), .int (iI Eq), .ref r1, .ref r2, .ref r3, .ref r4], zA cy r1 80 fr, zA cy r2 32 fm, zA cy r4 80 fu, zO r0q 1 [.int (iI Sq), .int (iI Lq), .int (iI Nq), .int (iI Eq), .ref r1q, .ref r2q, .ref r3q, .ref r4q], zA cy r1q 80 gr, zA cy r2q 32 gm, zA cy r4q 80 gu]) iX1 tyX1 tyX1_ok nmX1 0 rfl rfl 3 (by decide) L37 (fun _ h => h) rfl (ty := .boolean) (by decide +kernel) (z_bnar hE) (z_bfit hE) (Nat.le_of_ble_eq_true rfl) rfl dX1_copyFrom_29 (fun H locs wd => ?_)
  refine lv_aload_n C.1 C.2.1 dX1_copyFrom_32 rfl (lv_at hl 1 rfl) ?_
  refine z_get C wd (Cn := RX1) (TT := TX1) (N := 8) (ci := 1) iX1 4 rfl rfl 4 (by decide) L9 (fun _ h => h) rfl dX1_copyFrom_33 ?_
  refine z_iconst C dX1_copyFrom_36 ?_
  refine lv_aload_n C.1 C.2.1 dX1_copyFrom_37 rfl (lv_at hl 0 rfl) ?_
  refine z_get C wd (Cn := RX1) (TT := TX1) (N := 8) (ci := 1) iX1 0 rfl rfl 4 (by decide) L9 (fun _ h => h) rfl dX1_copyFrom_38 ?_
  refine z_iconst C dX1_copyFrom_41 ?_
  refine z_bipush C dX1_copyFrom_42 (by decide +kernel) ?_
  refine z_copy C wd (rest := []) (ws2 := [zO r0 1 [.int (iI Sq), .int (iI Lq), .int (iI Nq), .int (iI Eq), .ref r1, .ref r2, .ref r3, .ref r4], zA cy r1 80 (cpZ gr fr 80), zA cy r2 32 fm, zA cy r4 80 fu, zO r0q 1 [.int (iI Sq), .int (iI Lq), .int (iI Nq), .int (iI Eq), .ref r1q, .ref r2q, .ref r3q, .ref r4q], zA cy r1q 80 gr, zA cy r2q 32 gm, zA cy r4q 80 gu]) 5 1 rfl rfl (C.2.2.2.2 (.methodLink RX1 47 arraycopyName) (by decide +kernel)) (C.2.2.2.2 (.native arraycopyName) (by decide +kernel)) (C.2.2.2.2 (.static arraycopyName) (by decide +kernel)) (C.2.2.2.2 (.initialized "java/lang/System") (by decide +kernel)) (by omega) (Nat.le_of_ble_eq_true rfl) (Nat.le_of_ble_eq_true rfl) hl.1 rfl dX1_copyFrom_44 (fun H locs wd => ?_)
  refine lv_aload_n C.1 C.2.1 dX1_copyFrom_47 rfl (lv_at hl 1 rfl) ?_
  refine z_get C wd (Cn := RX1) (TT := TX1) (N := 8) (ci := 1) iX1 4 rfl rfl 5 (by decide) L15 (fun _ h => h) rfl dX1_copyFrom_48 ?_
  refine z_iconst C dX1_copyFrom_51 ?_
  refine lv_aload_n C.1 C.2.1 dX1_copyFrom_52 rfl (lv_at hl 0 rfl) ?_
  refine z_get C wd (Cn := RX1) (TT := TX1) (N := 8) (ci := 1) iX1 0 rfl rfl 5 (by decide) L15 (fun _ h => h) rfl dX1_copyFrom_53 ?_
  refine z_iconst C dX1_copyFrom_56 ?_
  refine z_bipush C dX1_copyFrom_57 (by decide +kernel) ?_
  refine z_copy C wd (rest := []) (ws2 := [zO r0 1 [.int (iI Sq), .int (iI Lq), .int (iI Nq), .int (iI Eq), .ref r1, .ref r2, .ref r3, .ref r4], zA cy r1 80 (cpZ gr fr 80), zA cy r2 32 (cpZ gm fm 32), zA cy r4 80 fu, zO r0q 1 [.int (iI Sq), .int (iI Lq), .int (iI Nq), .int (iI Eq), .ref r1q, .ref r2q, .ref r3q, .ref r4q], zA cy r1q 80 gr, zA cy r2q 32 gm, zA cy r4q 80 gu]) 6 2 rfl rfl (C.2.2.2.2 (.methodLink RX1 47 arraycopyName) (by decide +kernel)) (C.2.2.2.2 (.native arraycopyName) (by decide +kernel)) (C.2.2.2.2 (.static arraycopyName) (by decide +kernel)) (C.2.2.2.2 (.initialized "java/lang/System") (by decide +kernel)) (by omega) (Nat.le_of_ble_eq_true rfl) (Nat.le_of_ble_eq_true rfl) hl.1 rfl dX1_copyFrom_59 (fun H locs wd => ?_)
  refine lv_aload_n C.1 C.2.1 dX1_copyFrom_62 rfl (lv_at hl 1 rfl) ?_
  refine z_get C wd (Cn := RX1) (TT := TX1) (N := 8) (ci := 1) iX1 4 rfl rfl 7 (by decide) L21 (fun _ h => h) rfl dX1_copyFrom_63 ?_
  refine z_iconst C dX1_copyFrom_66 ?_
  refine lv_aload_n C.1 C.2.1 dX1_copyFrom_67 rfl (lv_at hl 0 rfl) ?_
  refine z_get C wd (Cn := RX1) (TT := TX1) (N := 8) (ci := 1) iX1 0 rfl rfl 7 (by decide) L21 (fun _ h => h) rfl dX1_copyFrom_68 ?_
  refine z_iconst C dX1_copyFrom_71 ?_
  refine z_bipush C dX1_copyFrom_72 (by decide +kernel) ?_
  refine z_copy C wd (rest := []) (ws2 := [zO r0 1 [.int (iI Sq), .int (iI Lq), .int (iI Nq), .int (iI Eq), .ref r1, .ref r2, .ref r3, .ref r4], zA cy r1 80 (cpZ gr fr 80), zA cy r2 32 (cpZ gm fm 32), zA cy r4 80 (cpZ gu fu 80), zO r0q 1 [.int (iI Sq), .int (iI Lq), .int (iI Nq), .int (iI Eq), .ref r1q, .ref r2q, .ref r3q, .ref r4q], zA cy r1q 80 gr, zA cy r2q 32 gm, zA cy r4q 80 gu]) 7 3 rfl rfl (C.2.2.2.2 (.methodLink RX1 47 arraycopyName) (by decide +kernel)) (C.2.2.2.2 (.native arraycopyName) (by decide +kernel)) (C.2.2.2.2 (.static arraycopyName) (by decide +kernel)) (C.2.2.2.2 (.initialized "java/lang/System") (by decide +kernel)) (by omega) (Nat.le_of_ble_eq_true rfl) (Nat.le_of_ble_eq_true rfl) hl.1 rfl dX1_copyFrom_74 (fun H locs wd => ?_)
  have wd := z_cell wd (ws2 := [zO r0 1 [.int (iI Sq), .int (iI Lq), .int (iI Nq), .int (iI Eq), .ref r1, .ref r2, .ref r3, .ref r4], zA cy r1 80 gr, zA cy r2 32 (cpZ gm fm 32), zA cy r4 80 (cpZ gu fu 80), zO r0q 1 [.int (iI Sq), .int (iI Lq), .int (iI Nq), .int (iI Eq), .ref r1q, .ref r2q, .ref r3q, .ref r4q], zA cy r1q 80 gr, zA cy r2q 32 gm, zA cy r4q 80 gu]) 1 rfl (by intro j j0 j1; exact if_pos (by omega)) rfl
  have wd := z_cell wd (ws2 := [zO r0 1 [.int (iI Sq), .int (iI Lq), .int (iI Nq), .int (iI Eq), .ref r1, .ref r2, .ref r3, .ref r4], zA cy r1 80 gr, zA cy r2 32 gm, zA cy r4 80 (cpZ gu fu 80), zO r0q 1 [.int (iI Sq), .int (iI Lq), .int (iI Nq), .int (iI Eq), .ref r1q, .ref r2q, .ref r3q, .ref r4q], zA cy r1q 80 gr, zA cy r2q 32 gm, zA cy r4q 80 gu]) 2 rfl (by intro j j0 j1; exact if_pos (by omega)) rfl
  have wd := z_cell wd (ws2 := [zO r0 1 [.int (iI Sq), .int (iI Lq), .int (iI Nq), .int (iI Eq), .ref r1, .ref r2, .ref r3, .ref r4], zA cy r1 80 gr, zA cy r2 32 gm, zA cy r4 80 gu, zO r0q 1 [.int (iI Sq), .int (iI Lq), .int (iI Nq), .int (iI Eq), .ref r1q, .ref r2q, .ref r3q, .ref r4q], zA cy r1q 80 gr, zA cy r2q 32 gm, zA cy r4q 80 gu]) 3 rfl (by intro j j0 j1; exact if_pos (by omega)) rfl
  exact z_vret C hr hlk wd dX1_copyFrom_77
set_option maxRecDepth 100000 in
set_option maxHeartbeats 4000000 in
theorem c_X1_metricOver (l : Launch) (D : va_G) (cy cs : ClassId) (r0 r1 r2 r3 r4 a0 a1 a2 n : Nat) (S L N E mm oo : Int) (tp fm f : Int → Int) (x b q : Int) (hm : 1 ≤ mm ∧ mm ≤ 5) (ho : 2 ≤ oo ∧ oo ≤ 3) (ht : tpOk tp) (hf : rwOk f n) (hn : n < 2147483648) (hq : 0 ≤ q ∧ q + oo ≤ n) (hx : 0 ≤ x ∧ x < p2 mm) (hb : 0 ≤ b ∧ b ≤ 1) (hS : 0 ≤ S ∧ S ≤ 80) (hme : mtOk fm S) : zCi l D (zT cy cs) yX1_metricOver wsX1_metricOver ({ frames := 3, cells := 0, slots := 0, locals := 70 } : Room) [.ref r0, .ref a0, .int (iI x), .int (iI b), .ref a2, .int (iI q)] [zO r0 1 [.int (iI S), .int (iI L), .int (iI N), .int (iI E), .ref r1, .ref r2, .ref r3, .ref r4], zA cy r2 32 fm, zO a0 0 [.int (iI mm), .int (iI oo), .ref a1], zA cy a1 3 tp, zA cy a2 n f] (mo oo tp fm f q mm x b) [zO r0 1 [.int (iI S), .int (iI L), .int (iI N), .int (iI E), .ref r1, .ref r2, .ref r3, .ref r4], zA cy r2 32 fm, zO a0 0 [.int (iI mm), .int (iI oo), .ref a1], zA cy a1 3 tp, zA cy a2 n f] := by
  intro sz
  refine zM_mk (cc := cX1_metricOver) (maxL := 6) (ret := (some .int)) (own := RX1) (Qc := fun sz => va_Qi (fun r (_ : Unit) => r = iI (mo oo tp fm f q mm x b)) (fun _ t => zQ D (zT cy cs) (va_A [zO r0 1 [.int (iI S), .int (iI L), .int (iI N), .int (iI E), .ref r1, .ref r2, .ref r3, .ref r4], zA cy r2 32 fm, zO a0 0 [.int (iI mm), .int (iI oo), .ref a1], zA cy a1 3 tp, zA cy a2 n f] sz) [zO r0 1 [.int (iI S), .int (iI L), .int (iI N), .int (iI E), .ref r1, .ref r2, .ref r3, .ref r4], zA cy r2 32 fm, zO a0 0 [.int (iI mm), .int (iI oo), .ref a1], zA cy a1 3 tp, zA cy a2 n f] t) (va_A [zO r0 1 [.int (iI S), .int (iI L), .int (iI N), .int (iI E), .ref r1, .ref r2, .ref r3, .ref r4], zA cy r2 32 fm, zO a0 0 [.int (iI mm), .int (iI oo), .ref a1], zA cy a1 3 tp, zA cy a2 n f] sz)) (by decide) rfl rfl (Nat.le_of_ble_eq_true rfl) rfl sz ?_
  intro p e s m args below meth c ls C hr hlk hnm hl hsz hA wd
  subst hsz
  have hl : lv_has ls 6 [(0, .ref r0), (1, .ref a0), (2, .int (iI x)), (3, .int (iI b)), (4, .ref a2), (5, .int (iI q))] := hl
  have iX1 : ∀ w ∈ u_ws RX1 TX1 8, w ∈ wsX1_metricOver := by decide +kernel
  have L15 := C.2.2.2.2 (.fieldLink RX1 15 "LikelyWalks$Reader" "metrics" "[I") (by decide +kernel)
  have hp := p2_all hm.1 hm.2
  have hfx := hme x hx.1 (by omega)
  refine lv_aload_n C.1 C.2.1 dX1_metricOver_0 rfl (lv_at hl 0 rfl) ?_
  refine z_get C wd (Cn := RX1) (TT := TX1) (N := 8) (ci := 1) iX1 0 rfl rfl 5 (by decide) L15 (fun _ h => h) rfl dX1_metricOver_1 ?_
  refine lv_iload_n C.1 C.2.1 dX1_metricOver_4 rfl (lv_at hl 2 rfl) ?_
  refine z_iald C wd 1 rfl (by omega) (by decide) dX1_metricOver_5 ?_
  refine z_iconst C dX1_metricOver_6 ?_
  refine z_icmp_ne C (tgt := 12) dX1_metricOver_7 (by decide) (by omega) (fun c_1 => ?_) (fun c_1 => ?_)
  · skip
    refine lv_aload_n C.1 C.2.1 dX1_metricOver_12 rfl (lv_at hl 0 rfl) ?_
    refine z_get C wd (Cn := RX1) (TT := TX1) (N := 8) (ci := 1) iX1 0 rfl rfl 5 (by decide) L15 (fun _ h => h) rfl dX1_metricOver_13 ?_
    refine lv_iload_n C.1 C.2.1 dX1_metricOver_16 rfl (lv_at hl 2 rfl) ?_
    refine z_iald C wd 1 rfl (by omega) (by decide) dX1_metricOver_17 ?_
    refine lv_aload_n C.1 C.2.1 dX1_metricOver_18 rfl (lv_at hl 1 rfl) ?_
    refine lv_iload_n C.1 C.2.1 dX1_metricOver_19 rfl (lv_at hl 2 rfl) ?_
    refine lv_iload_n C.1 C.2.1 dX1_metricOver_20 rfl (lv_at hl 3 rfl) ?_
    refine lv_aload C.1 C.2.1 dX1_metricOver_21 (lv_at hl 4 rfl) ?_
    refine lv_iload C.1 C.2.1 dX1_metricOver_23 (lv_at hl 5 rfl) ?_
    refine z_cvi C wd hA (As := [.int (iI x), .int (iI b), .ref a2, .int (iI q)]) (rest := [.int (iI (fm x))]) (ws2 := [zO r0 1 [.int (iI S), .int (iI L), .int (iI N), .int (iI E), .ref r1, .ref r2, .ref r3, .ref r4], zA cy r2 32 fm, zO a0 0 [.int (iI mm), .int (iI oo), .ref a1], zA cy a1 3 tp, zA cy a2 n f]) (c_X0_priceOf l D cy cs a0 a1 a2 n mm oo tp f x b q (by omega) (by omega) (by omega) (by omega) (by omega) (by omega) (by omega) (by omega)) (cwV 4 C.2.2.2.2 gX1_metricOver_X0_priceOf rfl rfl rfl (by decide +kernel) ⟨Nat.le_of_ble_eq_true rfl, Nat.le_of_ble_eq_true rfl⟩) [2, 3, 4] rfl rfl rfl ⟨rfl, [0, 1], [zO r0 1 [.int (iI S), .int (iI L), .int (iI N), .int (iI E), .ref r1, .ref r2, .ref r3, .ref r4], zA cy r2 32 fm], 5, rfl, rfl, rfl, by decide +kernel⟩ rfl rfl rfl rfl (Nat.le_of_ble_eq_true rfl) hl.1 dX1_metricOver_25 ⟨Nat.zero_le _, Nat.zero_le _⟩ (fun H locs wd => ?_)
    refine z_iadd C dX1_metricOver_28 ?_
    exact z_iret C hr hlk wd (by rw [mo, if_neg (by omega)]) dX1_metricOver_29
  · skip
    refine z_iconst C dX1_metricOver_10 ?_
    exact z_iret C hr hlk wd (by rw [mo, if_pos (by omega)]) dX1_metricOver_11
set_option maxRecDepth 100000 in
set_option maxHeartbeats 4000000 in
theorem c_X1_stateBefore (l : Launch) (D : va_G) (cy cs : ClassId) (r0 r1 r2 r3 r4 a0 a1 : Nat) (S L N E mm oo : Int) (fu : Int → Int) (st j : Int) (hm : 1 ≤ mm ∧ mm ≤ 5) (hs : 0 ≤ st ∧ st < p2 mm) (hj : 0 ≤ j ∧ j < 80) (hu : ∀ k : Int, 0 ≤ k → k < 80 → 0 ≤ fu k ∧ fu k < 4294967296) : zCi l D (zT cy cs) yX1_stateBefore wsX1_stateBefore ({ frames := 2, cells := 0, slots := 0, locals := 41 } : Room) [.ref r0, .ref a0, .int (iI st), .int (iI j)] [zO r0 1 [.int (iI S), .int (iI L), .int (iI N), .int (iI E), .ref r1, .ref r2, .ref r3, .ref r4], zA cy r4 80 fu, zO a0 0 [.int (iI mm), .int (iI oo), .ref a1]] (pv mm (fu j) st) [zO r0 1 [.int (iI S), .int (iI L), .int (iI N), .int (iI E), .ref r1, .ref r2, .ref r3, .ref r4], zA cy r4 80 fu, zO a0 0 [.int (iI mm), .int (iI oo), .ref a1]] := by
  intro sz
  refine zM_mk (cc := cX1_stateBefore) (maxL := 4) (ret := (some .int)) (own := RX1) (Qc := fun sz => va_Qi (fun r (_ : Unit) => r = iI (pv mm (fu j) st)) (fun _ t => zQ D (zT cy cs) (va_A [zO r0 1 [.int (iI S), .int (iI L), .int (iI N), .int (iI E), .ref r1, .ref r2, .ref r3, .ref r4], zA cy r4 80 fu, zO a0 0 [.int (iI mm), .int (iI oo), .ref a1]] sz) [zO r0 1 [.int (iI S), .int (iI L), .int (iI N), .int (iI E), .ref r1, .ref r2, .ref r3, .ref r4], zA cy r4 80 fu, zO a0 0 [.int (iI mm), .int (iI oo), .ref a1]] t) (va_A [zO r0 1 [.int (iI S), .int (iI L), .int (iI N), .int (iI E), .ref r1, .ref r2, .ref r3, .ref r4], zA cy r4 80 fu, zO a0 0 [.int (iI mm), .int (iI oo), .ref a1]] sz)) (by decide) rfl rfl (Nat.le_of_ble_eq_true rfl) rfl sz ?_
  intro p e s m args below meth c ls C hr hlk hnm hl hsz hA wd
  subst hsz
  have hl : lv_has ls 4 [(0, .ref r0), (1, .ref a0), (2, .int (iI st)), (3, .int (iI j))] := hl
  have iX1 : ∀ w ∈ u_ws RX1 TX1 8, w ∈ wsX1_stateBefore := by decide +kernel
  have L21 := C.2.2.2.2 (.fieldLink RX1 21 "LikelyWalks$Reader" "fromUpper" "[I") (by decide +kernel)
  have hp := p2_all hm.1 hm.2
  have huj := hu j hj.1 hj.2
  refine lv_aload_n C.1 C.2.1 dX1_stateBefore_0 rfl (lv_at hl 1 rfl) ?_
  refine lv_iload_n C.1 C.2.1 dX1_stateBefore_1 rfl (lv_at hl 2 rfl) ?_
  refine z_cvi C wd hA (As := [.int (iI st)]) (rest := []) (ws2 := [zO r0 1 [.int (iI S), .int (iI L), .int (iI N), .int (iI E), .ref r1, .ref r2, .ref r3, .ref r4], zA cy r4 80 fu, zO a0 0 [.int (iI mm), .int (iI oo), .ref a1]]) (c_X0_lowerBefore l D cy cs a0 a1 mm oo st (by omega) (by omega)) (cwV 1 C.2.2.2.2 gX1_stateBefore_X0_lowerBefore rfl rfl rfl (by decide +kernel) ⟨Nat.le_of_ble_eq_true rfl, Nat.le_of_ble_eq_true rfl⟩) [2] rfl rfl rfl ⟨rfl, [0, 1], [zO r0 1 [.int (iI S), .int (iI L), .int (iI N), .int (iI E), .ref r1, .ref r2, .ref r3, .ref r4], zA cy r4 80 fu], 3, rfl, rfl, rfl, by decide +kernel⟩ rfl rfl rfl rfl (Nat.le_of_ble_eq_true rfl) hl.1 dX1_stateBefore_2 ⟨Nat.zero_le _, Nat.zero_le _⟩ (fun H locs wd => ?_)
  refine lv_aload_n C.1 C.2.1 dX1_stateBefore_5 rfl (lv_at hl 0 rfl) ?_
  refine z_get C wd (Cn := RX1) (TT := TX1) (N := 8) (ci := 1) iX1 0 rfl rfl 7 (by decide) L21 (fun _ h => h) rfl dX1_stateBefore_6 ?_
  refine lv_iload_n C.1 C.2.1 dX1_stateBefore_9 rfl (lv_at hl 3 rfl) ?_
  refine z_iald C wd 1 rfl (by omega) (by decide) dX1_stateBefore_10 ?_
  refine lv_iload_n C.1 C.2.1 dX1_stateBefore_11 rfl (lv_at hl 2 rfl) ?_
  refine z_ishr C (sg (fu j) / p2 st) dX1_stateBefore_12 (iI_bit1 huj.1 huj.2 hs.1 (by omega)) ?_
  refine z_iconst C dX1_stateBefore_13 ?_
  refine z_iand C (fu j / p2 st % 2) dX1_stateBefore_14 (iI_bit2 hs.1 (by omega)) ?_
  refine z_iadd C dX1_stateBefore_15 ?_
  exact z_iret C hr hlk wd (by first | rfl | omega) dX1_stateBefore_16
set_option maxRecDepth 100000 in
set_option maxHeartbeats 4000000 in
theorem c_X1_releaseUpTo (l : Launch) (D : va_G) (cy cs : ClassId) (r0 r1 r2 r3 r4 a0 a1 : Nat) (S L N E mm oo : Int) (fr fu : Int → Int) (st z : Int) (hm : 1 ≤ mm ∧ mm ≤ 5) (hs : 0 ≤ st ∧ st < p2 mm) (hu : ∀ k : Int, 0 ≤ k → k < 80 → 0 ≤ fu k ∧ fu k < 4294967296) (hS : 0 ≤ S ∧ S ≤ 80) (hN : 0 ≤ N ∧ N ≤ S) (hz : z ≤ S ∧ N ≤ z) : zCv l D (zT cy cs) yX1_releaseUpTo wsX1_releaseUpTo ({ frames := 3, cells := 0, slots := 0, locals := 64 } : Room) [.ref r0, .ref a0, .int (iI st), .int (iI z)] [zO r0 1 [.int (iI S), .int (iI L), .int (iI N), .int (iI E), .ref r1, .ref r2, .ref r3, .ref r4], zA cy r1 80 fr, zA cy r4 80 fu, zO a0 0 [.int (iI mm), .int (iI oo), .ref a1]] [zO r0 1 [.int (iI S), .int (iI L), .int (iI z), .int (iI E), .ref r1, .ref r2, .ref r3, .ref r4], zA cy r1 80 (rlF mm fu S st fr N z (N - 1)), zA cy r4 80 fu, zO a0 0 [.int (iI mm), .int (iI oo), .ref a1]] := by
  intro sz
  refine zM_mk (cc := cX1_releaseUpTo) (maxL := 6) (ret := none) (own := RX1) (Qc := fun sz => va_Qv (fun (_ : Unit) => True) (fun _ t => zQ D (zT cy cs) (va_A [zO r0 1 [.int (iI S), .int (iI L), .int (iI N), .int (iI E), .ref r1, .ref r2, .ref r3, .ref r4], zA cy r1 80 fr, zA cy r4 80 fu, zO a0 0 [.int (iI mm), .int (iI oo), .ref a1]] sz) [zO r0 1 [.int (iI S), .int (iI L), .int (iI z), .int (iI E), .ref r1, .ref r2, .ref r3, .ref r4], zA cy r1 80 (rlF mm fu S st fr N z (N - 1)), zA cy r4 80 fu, zO a0 0 [.int (iI mm), .int (iI oo), .ref a1]] t) (va_A [zO r0 1 [.int (iI S), .int (iI L), .int (iI N), .int (iI E), .ref r1, .ref r2, .ref r3, .ref r4], zA cy r1 80 fr, zA cy r4 80 fu, zO a0 0 [.int (iI mm), .int (iI oo), .ref a1]] sz)) (by decide) rfl rfl (Nat.le_of_ble_eq_true rfl) rfl sz ?_
  intro p e s m args below meth c ls C hr hlk hnm hl hsz hA wd
  subst hsz
  have hl : lv_has ls 6 [(0, .ref r0), (1, .ref a0), (2, .int (iI st)), (3, .int (iI z))] := hl
  have iX1 : ∀ w ∈ u_ws RX1 TX1 8, w ∈ wsX1_releaseUpTo := by decide +kernel
  have L9 := C.2.2.2.2 (.fieldLink RX1 9 "LikelyWalks$Reader" "releasedBits" "[I") (by decide +kernel)
  have L27 := C.2.2.2.2 (.fieldLink RX1 27 "LikelyWalks$Reader" "steps" "I") (by decide +kernel)
  have L34 := C.2.2.2.2 (.fieldLink RX1 34 "LikelyWalks$Reader" "releasedCount" "I") (by decide +kernel)
  refine lv_iload_n C.1 C.2.1 dX1_releaseUpTo_0 rfl (lv_at hl 2 rfl) ?_
  refine lv_istore (lv' := [(4, .int (iI st)), (0, .ref r0), (1, .ref a0), (2, .int (iI st)), (3, .int (iI z))]) C.1 C.2.1 dX1_releaseUpTo_1 hl (by decide) rfl (fun ls hl => ?_)
  refine lv_aload_n C.1 C.2.1 dX1_releaseUpTo_3 rfl (lv_at hl 1 rfl) ?_
  refine z_get C wd (Cn := RX1) (TT := TX1) (N := 8) (ci := 1) iX1 0 rfl rfl 0 (by decide) L27 (fun _ h => h) rfl dX1_releaseUpTo_4 ?_
  refine z_iconst C dX1_releaseUpTo_7 ?_
  refine z_isub C dX1_releaseUpTo_8 ?_
  refine lv_istore (lv' := [(5, .int (iI (S - 1))), (4, .int (iI st)), (0, .ref r0), (1, .ref a0), (2, .int (iI st)), (3, .int (iI z))]) C.1 C.2.1 dX1_releaseUpTo_9 hl (by decide) rfl (fun ls hl => ?_)
  refine z_loop3 (P := fun (x : Int) (k : Int) (g : Int → Int) => (N - 1 ≤ k ∧ k ≤ S - 1) ∧ (x = bk mm fu S st (S - 1 - k).toNat) ∧ (g = rlF mm fu S st fr N z k) ∧ (0 ≤ x ∧ x < p2 mm)) (mu := fun (x : Int) (k : Int) (g : Int → Int) => (k - N + 1).toNat) (ws := fun (x : Int) (k : Int) (g : Int → Int) => [zO r0 1 [.int (iI S), .int (iI L), .int (iI N), .int (iI E), .ref r1, .ref r2, .ref r3, .ref r4], zA cy r1 80 g, zA cy r4 80 fu, zO a0 0 [.int (iI mm), .int (iI oo), .ref a1]]) (lv := fun (x : Int) (k : Int) (g : Int → Int) => [(0, .ref r0), (1, .ref a0), (2, .int (iI st)), (3, .int (iI z)), (4, .int (iI x)), (5, .int (iI k))]) st (S - 1) fr C ⟨(by omega), (by rw [show (S - 1 - (S - 1)).toNat = 0 by omega]; rfl), (rlF_0 (by omega)).symm, (by omega)⟩ wd (lv_sub hl [2, 3, 4, 5, 1, 0] rfl) ?_
  intro x k g hP11 ih11 H locs ls wd hl
  obtain ⟨h11_0, h11_1, h11_2, h11_3⟩ := hP11
  try dsimp only at h11_0 h11_1 h11_2 h11_3
  have wd : Wd D (zT cy cs) _ s.heap s [zO r0 1 [.int (iI S), .int (iI L), .int (iI N), .int (iI E), .ref r1, .ref r2, .ref r3, .ref r4], zA cy r1 80 g, zA cy r4 80 fu, zO a0 0 [.int (iI mm), .int (iI oo), .ref a1]] H locs := wd
  have hl : lv_has ls 6 [(0, .ref r0), (1, .ref a0), (2, .int (iI st)), (3, .int (iI z)), (4, .int (iI x)), (5, .int (iI k))] := hl
  refine lv_iload C.1 C.2.1 dX1_releaseUpTo_11 (lv_at hl 5 rfl) ?_
  refine lv_aload_n C.1 C.2.1 dX1_releaseUpTo_13 rfl (lv_at hl 0 rfl) ?_
  refine z_get C wd (Cn := RX1) (TT := TX1) (N := 8) (ci := 1) iX1 0 rfl rfl 2 (by decide) L34 (fun _ h => h) rfl dX1_releaseUpTo_14 ?_
  refine z_icmp_lt C (tgt := 56) dX1_releaseUpTo_17 (by decide) (by omega) (fun c_1 => ?_) (fun c_1 => ?_)
  · skip
    refine lv_aload_n C.1 C.2.1 dX1_releaseUpTo_56 rfl (lv_at hl 0 rfl) ?_
    refine lv_iload_n C.1 C.2.1 dX1_releaseUpTo_57 rfl (lv_at hl 3 rfl) ?_
    refine z_put C wd (Cn := RX1) (TT := TX1) (N := 8) (ci := 1) (ws2 := [zO r0 1 [.int (iI S), .int (iI L), .int (iI z), .int (iI E), .ref r1, .ref r2, .ref r3, .ref r4], zA cy r1 80 g, zA cy r4 80 fu, zO a0 0 [.int (iI mm), .int (iI oo), .ref a1]]) iX1 tyX1 tyX1_ok nmX1 0 rfl rfl 2 (by decide) L34 (fun _ h => h) rfl (ty := .int) (by decide +kernel) rfl rfl (Nat.le_of_ble_eq_true rfl) rfl dX1_releaseUpTo_58 (fun H locs wd => ?_)
    have wd := z_cell wd (ws2 := [zO r0 1 [.int (iI S), .int (iI L), .int (iI z), .int (iI E), .ref r1, .ref r2, .ref r3, .ref r4], zA cy r1 80 (rlF mm fu S st fr N z (N - 1)), zA cy r4 80 fu, zO a0 0 [.int (iI mm), .int (iI oo), .ref a1]]) 1 rfl (by intro j _ _; rw [h11_2, rlF_e (j := N - 1) (by omega) (by omega)]) rfl
    exact z_vret C hr hlk wd dX1_releaseUpTo_61
  · skip
    refine lv_iload C.1 C.2.1 dX1_releaseUpTo_20 (lv_at hl 5 rfl) ?_
    refine lv_iload_n C.1 C.2.1 dX1_releaseUpTo_22 rfl (lv_at hl 3 rfl) ?_
    refine z_icmp_ge C (tgt := 39) dX1_releaseUpTo_23 (by decide) (by omega) (fun c_2 => ?_) (fun c_2 => ?_)
    · skip
      refine lv_aload_n C.1 C.2.1 dX1_releaseUpTo_39 rfl (lv_at hl 0 rfl) ?_
      refine lv_aload_n C.1 C.2.1 dX1_releaseUpTo_40 rfl (lv_at hl 1 rfl) ?_
      refine lv_iload C.1 C.2.1 dX1_releaseUpTo_41 (lv_at hl 4 rfl) ?_
      refine lv_iload C.1 C.2.1 dX1_releaseUpTo_43 (lv_at hl 5 rfl) ?_
      refine z_cvi C wd hA (As := [.ref a0, .int (iI x), .int (iI k)]) (rest := []) (ws2 := [zO r0 1 [.int (iI S), .int (iI L), .int (iI N), .int (iI E), .ref r1, .ref r2, .ref r3, .ref r4], zA cy r1 80 g, zA cy r4 80 fu, zO a0 0 [.int (iI mm), .int (iI oo), .ref a1]]) (c_X1_stateBefore l D cy cs r0 r1 r2 r3 r4 a0 a1 S L N E mm oo fu x k (by omega) (by omega) (by omega) (by omega)) (cwV 3 C.2.2.2.2 gX1_releaseUpTo_X1_stateBefore rfl rfl rfl (by decide +kernel) ⟨Nat.le_of_ble_eq_true rfl, Nat.le_of_ble_eq_true rfl⟩) [0, 2, 3] rfl rfl rfl ⟨rfl, [1], [zA cy r1 80 g], 4, rfl, rfl, rfl, by decide +kernel⟩ rfl rfl rfl rfl (Nat.le_of_ble_eq_true rfl) hl.1 dX1_releaseUpTo_45 ⟨Nat.zero_le _, Nat.zero_le _⟩ (fun H locs wd => ?_)
      refine lv_istore (lv' := [(4, .int (iI (pv mm (fu k) x))), (0, .ref r0), (1, .ref a0), (2, .int (iI st)), (3, .int (iI z)), (5, .int (iI k))]) C.1 C.2.1 dX1_releaseUpTo_48 hl (by decide) rfl (fun ls hl => ?_)
      refine z_iinc C (lv' := [(5, .int (iI (k + (-1)))), (4, .int (iI (pv mm (fu k) x))), (0, .ref r0), (1, .ref a0), (2, .int (iI st)), (3, .int (iI z))]) hl 5 dX1_releaseUpTo_50 rfl (by decide) rfl (fun ls hl => ?_)
      refine z_goto C (tgt := 11) dX1_releaseUpTo_53 (by decide) ?_
      exact ih11 (pv mm (fu k) x) (k + (-1)) g ⟨(by omega), (by rw [show k + (-1) = k - 1 by omega, bk_at (by omega), h11_1]), (by rw [show k + (-1) = k - 1 by omega, h11_2]; first | (rw [h11_1]; exact rlF_step (by omega) (by omega)) | exact rlF_skip (by omega)), (pv_le hm.1 hm.2)⟩ (by omega) H locs _ wd (lv_sub hl [2, 3, 4, 5, 1, 0] rfl)
    · skip
      refine lv_aload_n C.1 C.2.1 dX1_releaseUpTo_26 rfl (lv_at hl 0 rfl) ?_
      refine z_get C wd (Cn := RX1) (TT := TX1) (N := 8) (ci := 1) iX1 0 rfl rfl 4 (by decide) L9 (fun _ h => h) rfl dX1_releaseUpTo_27 ?_
      refine lv_iload C.1 C.2.1 dX1_releaseUpTo_30 (lv_at hl 5 rfl) ?_
      refine lv_aload_n C.1 C.2.1 dX1_releaseUpTo_32 rfl (lv_at hl 1 rfl) ?_
      refine lv_iload C.1 C.2.1 dX1_releaseUpTo_33 (lv_at hl 4 rfl) ?_
      refine z_cvi C wd hA (As := [.int (iI x)]) (rest := [.int (iI k), .ref r1]) (ws2 := [zO r0 1 [.int (iI S), .int (iI L), .int (iI N), .int (iI E), .ref r1, .ref r2, .ref r3, .ref r4], zA cy r1 80 g, zA cy r4 80 fu, zO a0 0 [.int (iI mm), .int (iI oo), .ref a1]]) (c_X0_bitInto l D cy cs a0 a1 mm oo x (by omega) (by omega)) (cwV 1 C.2.2.2.2 gX1_releaseUpTo_X0_bitInto rfl rfl rfl (by decide +kernel) ⟨Nat.le_of_ble_eq_true rfl, Nat.le_of_ble_eq_true rfl⟩) [3] rfl rfl rfl ⟨rfl, [0, 1, 2], [zO r0 1 [.int (iI S), .int (iI L), .int (iI N), .int (iI E), .ref r1, .ref r2, .ref r3, .ref r4], zA cy r1 80 g, zA cy r4 80 fu], 4, rfl, rfl, rfl, by decide +kernel⟩ rfl rfl rfl rfl (Nat.le_of_ble_eq_true rfl) hl.1 dX1_releaseUpTo_35 ⟨Nat.zero_le _, Nat.zero_le _⟩ (fun H locs wd => ?_)
      refine z_iast C wd (ws2 := [zO r0 1 [.int (iI S), .int (iI L), .int (iI N), .int (iI E), .ref r1, .ref r2, .ref r3, .ref r4], zA cy r1 80 (uZ g k (x / p2 (mm - 1))), zA cy r4 80 fu, zO a0 0 [.int (iI mm), .int (iI oo), .ref a1]]) 1 rfl (by omega) (by decide) rfl dX1_releaseUpTo_38 (fun H locs wd => ?_)
      refine lv_aload_n C.1 C.2.1 dX1_releaseUpTo_39 rfl (lv_at hl 0 rfl) ?_
      refine lv_aload_n C.1 C.2.1 dX1_releaseUpTo_40 rfl (lv_at hl 1 rfl) ?_
      refine lv_iload C.1 C.2.1 dX1_releaseUpTo_41 (lv_at hl 4 rfl) ?_
      refine lv_iload C.1 C.2.1 dX1_releaseUpTo_43 (lv_at hl 5 rfl) ?_
      refine z_cvi C wd hA (As := [.ref a0, .int (iI x), .int (iI k)]) (rest := []) (ws2 := [zO r0 1 [.int (iI S), .int (iI L), .int (iI N), .int (iI E), .ref r1, .ref r2, .ref r3, .ref r4], zA cy r1 80 (uZ g k (x / p2 (mm - 1))), zA cy r4 80 fu, zO a0 0 [.int (iI mm), .int (iI oo), .ref a1]]) (c_X1_stateBefore l D cy cs r0 r1 r2 r3 r4 a0 a1 S L N E mm oo fu x k (by omega) (by omega) (by omega) (by omega)) (cwV 3 C.2.2.2.2 gX1_releaseUpTo_X1_stateBefore rfl rfl rfl (by decide +kernel) ⟨Nat.le_of_ble_eq_true rfl, Nat.le_of_ble_eq_true rfl⟩) [0, 2, 3] rfl rfl rfl ⟨rfl, [1], [zA cy r1 80 (uZ g k (x / p2 (mm - 1)))], 4, rfl, rfl, rfl, by decide +kernel⟩ rfl rfl rfl rfl (Nat.le_of_ble_eq_true rfl) hl.1 dX1_releaseUpTo_45 ⟨Nat.zero_le _, Nat.zero_le _⟩ (fun H locs wd => ?_)
      refine lv_istore (lv' := [(4, .int (iI (pv mm (fu k) x))), (0, .ref r0), (1, .ref a0), (2, .int (iI st)), (3, .int (iI z)), (5, .int (iI k))]) C.1 C.2.1 dX1_releaseUpTo_48 hl (by decide) rfl (fun ls hl => ?_)
      refine z_iinc C (lv' := [(5, .int (iI (k + (-1)))), (4, .int (iI (pv mm (fu k) x))), (0, .ref r0), (1, .ref a0), (2, .int (iI st)), (3, .int (iI z))]) hl 5 dX1_releaseUpTo_50 rfl (by decide) rfl (fun ls hl => ?_)
      refine z_goto C (tgt := 11) dX1_releaseUpTo_53 (by decide) ?_
      exact ih11 (pv mm (fu k) x) (k + (-1)) (uZ g k (x / p2 (mm - 1))) ⟨(by omega), (by rw [show k + (-1) = k - 1 by omega, bk_at (by omega), h11_1]), (by rw [show k + (-1) = k - 1 by omega, h11_2]; first | (rw [h11_1]; exact rlF_step (by omega) (by omega)) | exact rlF_skip (by omega)), (pv_le hm.1 hm.2)⟩ (by omega) H locs _ wd (lv_sub hl [2, 3, 4, 5, 1, 0] rfl)
set_option maxRecDepth 100000 in
set_option maxHeartbeats 4000000 in
theorem c_X1_survivorBit (l : Launch) (D : va_G) (cy cs : ClassId) (r0 r1 r2 r3 r4 a0 a1 : Nat) (S L N E mm oo : Int) (fu : Int → Int) (st z : Int) (hm : 1 ≤ mm ∧ mm ≤ 5) (hs : 0 ≤ st ∧ st < p2 mm) (hu : ∀ k : Int, 0 ≤ k → k < 80 → 0 ≤ fu k ∧ fu k < 4294967296) (hS : 0 ≤ S ∧ S ≤ 80) (hz : 0 ≤ z ∧ z < S) : zCi l D (zT cy cs) yX1_survivorBit wsX1_survivorBit ({ frames := 3, cells := 0, slots := 0, locals := 64 } : Room) [.ref r0, .ref a0, .int (iI st), .int (iI z)] [zO r0 1 [.int (iI S), .int (iI L), .int (iI N), .int (iI E), .ref r1, .ref r2, .ref r3, .ref r4], zA cy r4 80 fu, zO a0 0 [.int (iI mm), .int (iI oo), .ref a1]] (sb mm fu S st (S - 1 - z)) [zO r0 1 [.int (iI S), .int (iI L), .int (iI N), .int (iI E), .ref r1, .ref r2, .ref r3, .ref r4], zA cy r4 80 fu, zO a0 0 [.int (iI mm), .int (iI oo), .ref a1]] := by
  intro sz
  refine zM_mk (cc := cX1_survivorBit) (maxL := 6) (ret := (some .int)) (own := RX1) (Qc := fun sz => va_Qi (fun r (_ : Unit) => r = iI (sb mm fu S st (S - 1 - z))) (fun _ t => zQ D (zT cy cs) (va_A [zO r0 1 [.int (iI S), .int (iI L), .int (iI N), .int (iI E), .ref r1, .ref r2, .ref r3, .ref r4], zA cy r4 80 fu, zO a0 0 [.int (iI mm), .int (iI oo), .ref a1]] sz) [zO r0 1 [.int (iI S), .int (iI L), .int (iI N), .int (iI E), .ref r1, .ref r2, .ref r3, .ref r4], zA cy r4 80 fu, zO a0 0 [.int (iI mm), .int (iI oo), .ref a1]] t) (va_A [zO r0 1 [.int (iI S), .int (iI L), .int (iI N), .int (iI E), .ref r1, .ref r2, .ref r3, .ref r4], zA cy r4 80 fu, zO a0 0 [.int (iI mm), .int (iI oo), .ref a1]] sz)) (by decide) rfl rfl (Nat.le_of_ble_eq_true rfl) rfl sz ?_
  intro p e s m args below meth c ls C hr hlk hnm hl hsz hA wd
  subst hsz
  have hl : lv_has ls 6 [(0, .ref r0), (1, .ref a0), (2, .int (iI st)), (3, .int (iI z))] := hl
  have iX1 : ∀ w ∈ u_ws RX1 TX1 8, w ∈ wsX1_survivorBit := by decide +kernel
  have L27 := C.2.2.2.2 (.fieldLink RX1 27 "LikelyWalks$Reader" "steps" "I") (by decide +kernel)
  refine lv_iload_n C.1 C.2.1 dX1_survivorBit_0 rfl (lv_at hl 2 rfl) ?_
  refine lv_istore (lv' := [(4, .int (iI st)), (0, .ref r0), (1, .ref a0), (2, .int (iI st)), (3, .int (iI z))]) C.1 C.2.1 dX1_survivorBit_1 hl (by decide) rfl (fun ls hl => ?_)
  refine z_iconst C dX1_survivorBit_3 ?_
  refine lv_istore (lv' := [(5, .int (iI 0)), (4, .int (iI st)), (0, .ref r0), (1, .ref a0), (2, .int (iI st)), (3, .int (iI z))]) C.1 C.2.1 dX1_survivorBit_4 hl (by decide) rfl (fun ls hl => ?_)
  refine z_loop2 (P := fun (x : Int) (k : Int) => (0 ≤ k ∧ k ≤ z) ∧ (x = bk mm fu S st k.toNat) ∧ (0 ≤ x ∧ x < p2 mm)) (mu := fun (x : Int) (k : Int) => (z - k).toNat) (ws := fun (x : Int) (k : Int) => [zO r0 1 [.int (iI S), .int (iI L), .int (iI N), .int (iI E), .ref r1, .ref r2, .ref r3, .ref r4], zA cy r4 80 fu, zO a0 0 [.int (iI mm), .int (iI oo), .ref a1]]) (lv := fun (x : Int) (k : Int) => [(0, .ref r0), (1, .ref a0), (2, .int (iI st)), (3, .int (iI z)), (4, .int (iI x)), (5, .int (iI k))]) st 0 C ⟨(by omega), rfl, (by omega)⟩ wd (lv_sub hl [2, 3, 4, 5, 1, 0] rfl) ?_
  intro x k hP6 ih6 H locs ls wd hl
  obtain ⟨h6_0, h6_1, h6_2⟩ := hP6
  try dsimp only at h6_0 h6_1 h6_2
  have wd : Wd D (zT cy cs) _ s.heap s [zO r0 1 [.int (iI S), .int (iI L), .int (iI N), .int (iI E), .ref r1, .ref r2, .ref r3, .ref r4], zA cy r4 80 fu, zO a0 0 [.int (iI mm), .int (iI oo), .ref a1]] H locs := wd
  have hl : lv_has ls 6 [(0, .ref r0), (1, .ref a0), (2, .int (iI st)), (3, .int (iI z)), (4, .int (iI x)), (5, .int (iI k))] := hl
  refine lv_iload C.1 C.2.1 dX1_survivorBit_6 (lv_at hl 5 rfl) ?_
  refine lv_iload_n C.1 C.2.1 dX1_survivorBit_8 rfl (lv_at hl 3 rfl) ?_
  refine z_icmp_ge C (tgt := 36) dX1_survivorBit_9 (by decide) (by omega) (fun c_1 => ?_) (fun c_1 => ?_)
  · skip
    refine lv_aload_n C.1 C.2.1 dX1_survivorBit_36 rfl (lv_at hl 1 rfl) ?_
    refine lv_iload C.1 C.2.1 dX1_survivorBit_37 (lv_at hl 4 rfl) ?_
    refine z_cvi C wd hA (As := [.int (iI x)]) (rest := []) (ws2 := [zO r0 1 [.int (iI S), .int (iI L), .int (iI N), .int (iI E), .ref r1, .ref r2, .ref r3, .ref r4], zA cy r4 80 fu, zO a0 0 [.int (iI mm), .int (iI oo), .ref a1]]) (c_X0_bitInto l D cy cs a0 a1 mm oo x (by omega) (by omega)) (cwV 1 C.2.2.2.2 gX1_survivorBit_X0_bitInto rfl rfl rfl (by decide +kernel) ⟨Nat.le_of_ble_eq_true rfl, Nat.le_of_ble_eq_true rfl⟩) [2] rfl rfl rfl ⟨rfl, [0, 1], [zO r0 1 [.int (iI S), .int (iI L), .int (iI N), .int (iI E), .ref r1, .ref r2, .ref r3, .ref r4], zA cy r4 80 fu], 3, rfl, rfl, rfl, by decide +kernel⟩ rfl rfl rfl rfl (Nat.le_of_ble_eq_true rfl) hl.1 dX1_survivorBit_39 ⟨Nat.zero_le _, Nat.zero_le _⟩ (fun H locs wd => ?_)
    exact z_iret C hr hlk wd (by rw [sb, h6_1, show k.toNat = (S - 1 - (S - 1 - z)).toNat by omega]) dX1_survivorBit_42
  · skip
    refine lv_aload_n C.1 C.2.1 dX1_survivorBit_12 rfl (lv_at hl 0 rfl) ?_
    refine lv_aload_n C.1 C.2.1 dX1_survivorBit_13 rfl (lv_at hl 1 rfl) ?_
    refine lv_iload C.1 C.2.1 dX1_survivorBit_14 (lv_at hl 4 rfl) ?_
    refine lv_aload_n C.1 C.2.1 dX1_survivorBit_16 rfl (lv_at hl 0 rfl) ?_
    refine z_get C wd (Cn := RX1) (TT := TX1) (N := 8) (ci := 1) iX1 0 rfl rfl 0 (by decide) L27 (fun _ h => h) rfl dX1_survivorBit_17 ?_
    refine z_iconst C dX1_survivorBit_20 ?_
    refine z_isub C dX1_survivorBit_21 ?_
    refine lv_iload C.1 C.2.1 dX1_survivorBit_22 (lv_at hl 5 rfl) ?_
    refine z_isub C dX1_survivorBit_24 ?_
    refine z_cvi C wd hA (As := [.ref a0, .int (iI x), .int (iI ((S - 1) - k))]) (rest := []) (ws2 := [zO r0 1 [.int (iI S), .int (iI L), .int (iI N), .int (iI E), .ref r1, .ref r2, .ref r3, .ref r4], zA cy r4 80 fu, zO a0 0 [.int (iI mm), .int (iI oo), .ref a1]]) (c_X1_stateBefore l D cy cs r0 r1 r2 r3 r4 a0 a1 S L N E mm oo fu x ((S - 1) - k) (by omega) (by omega) (by omega) (by omega)) (cwV 3 C.2.2.2.2 gX1_survivorBit_X1_stateBefore rfl rfl rfl (by decide +kernel) ⟨Nat.le_of_ble_eq_true rfl, Nat.le_of_ble_eq_true rfl⟩) [0, 1, 2] rfl rfl rfl ⟨rfl, [], [], 3, rfl, rfl, rfl, by decide +kernel⟩ rfl rfl rfl rfl (Nat.le_of_ble_eq_true rfl) hl.1 dX1_survivorBit_25 ⟨Nat.zero_le _, Nat.zero_le _⟩ (fun H locs wd => ?_)
    refine lv_istore (lv' := [(4, .int (iI (pv mm (fu ((S - 1) - k)) x))), (0, .ref r0), (1, .ref a0), (2, .int (iI st)), (3, .int (iI z)), (5, .int (iI k))]) C.1 C.2.1 dX1_survivorBit_28 hl (by decide) rfl (fun ls hl => ?_)
    refine z_iinc C (lv' := [(5, .int (iI (k + 1))), (4, .int (iI (pv mm (fu ((S - 1) - k)) x))), (0, .ref r0), (1, .ref a0), (2, .int (iI st)), (3, .int (iI z))]) hl 5 dX1_survivorBit_30 rfl (by decide) rfl (fun ls hl => ?_)
    refine z_goto C (tgt := 6) dX1_survivorBit_33 (by decide) ?_
    exact ih6 (pv mm (fu ((S - 1) - k)) x) (k + 1) ⟨(by omega), (by rw [h6_1, show (k + 1).toNat = k.toNat + 1 by omega, bk, Int.toNat_of_nonneg h6_0.1]), (pv_le hm.1 hm.2)⟩ (by omega) H locs _ wd (lv_sub hl [2, 3, 4, 5, 1, 0] rfl)
set_option maxRecDepth 100000 in
set_option maxHeartbeats 4000000 in
theorem c_X1_bestState (l : Launch) (D : va_G) (cy cs : ClassId) (r0 r1 r2 r3 r4 a0 a1 : Nat) (S L N E mm oo : Int) (fm : Int → Int) (hm : 1 ≤ mm ∧ mm ≤ 5) (hS : 0 ≤ S ∧ S ≤ 80) (hme : mtOk fm S) : zCi l D (zT cy cs) yX1_bestState wsX1_bestState ({ frames := 1, cells := 0, slots := 0, locals := 20 } : Room) [.ref r0, .ref a0] [zO r0 1 [.int (iI S), .int (iI L), .int (iI N), .int (iI E), .ref r1, .ref r2, .ref r3, .ref r4], zA cy r2 32 fm, zO a0 0 [.int (iI mm), .int (iI oo), .ref a1]] (bsc fm (p2 mm).toNat) [zO r0 1 [.int (iI S), .int (iI L), .int (iI N), .int (iI E), .ref r1, .ref r2, .ref r3, .ref r4], zA cy r2 32 fm, zO a0 0 [.int (iI mm), .int (iI oo), .ref a1]] := by
  intro sz
  refine zM_mk (cc := cX1_bestState) (maxL := 6) (ret := (some .int)) (own := RX1) (Qc := fun sz => va_Qi (fun r (_ : Unit) => r = iI (bsc fm (p2 mm).toNat)) (fun _ t => zQ D (zT cy cs) (va_A [zO r0 1 [.int (iI S), .int (iI L), .int (iI N), .int (iI E), .ref r1, .ref r2, .ref r3, .ref r4], zA cy r2 32 fm, zO a0 0 [.int (iI mm), .int (iI oo), .ref a1]] sz) [zO r0 1 [.int (iI S), .int (iI L), .int (iI N), .int (iI E), .ref r1, .ref r2, .ref r3, .ref r4], zA cy r2 32 fm, zO a0 0 [.int (iI mm), .int (iI oo), .ref a1]] t) (va_A [zO r0 1 [.int (iI S), .int (iI L), .int (iI N), .int (iI E), .ref r1, .ref r2, .ref r3, .ref r4], zA cy r2 32 fm, zO a0 0 [.int (iI mm), .int (iI oo), .ref a1]] sz)) (by decide) rfl rfl (Nat.le_of_ble_eq_true rfl) rfl sz ?_
  intro p e s m args below meth c ls C hr hlk hnm hl hsz hA wd
  subst hsz
  have hl : lv_has ls 6 [(0, .ref r0), (1, .ref a0)] := hl
  have iX1 : ∀ w ∈ u_ws RX1 TX1 8, w ∈ wsX1_bestState := by decide +kernel
  have L15 := C.2.2.2.2 (.fieldLink RX1 15 "LikelyWalks$Reader" "metrics" "[I") (by decide +kernel)
  have hp := p2_all hm.1 hm.2
  refine lv_aload_n C.1 C.2.1 dX1_bestState_0 rfl (lv_at hl 1 rfl) ?_
  refine z_cvi C wd hA (As := []) (rest := []) (ws2 := [zO r0 1 [.int (iI S), .int (iI L), .int (iI N), .int (iI E), .ref r1, .ref r2, .ref r3, .ref r4], zA cy r2 32 fm, zO a0 0 [.int (iI mm), .int (iI oo), .ref a1]]) (c_X0_states l D cy cs a0 a1 mm oo (by omega)) (cwV 0 C.2.2.2.2 gX1_bestState_X0_states rfl rfl rfl (by decide +kernel) ⟨Nat.le_of_ble_eq_true rfl, Nat.le_of_ble_eq_true rfl⟩) [2] rfl rfl rfl ⟨rfl, [0, 1], [zO r0 1 [.int (iI S), .int (iI L), .int (iI N), .int (iI E), .ref r1, .ref r2, .ref r3, .ref r4], zA cy r2 32 fm], 3, rfl, rfl, rfl, by decide +kernel⟩ rfl rfl rfl rfl (Nat.le_of_ble_eq_true rfl) hl.1 dX1_bestState_1 ⟨Nat.zero_le _, Nat.zero_le _⟩ (fun H locs wd => ?_)
  refine lv_istore_n (lv' := [(2, .int (iI (p2 mm))), (0, .ref r0), (1, .ref a0)]) C.1 C.2.1 dX1_bestState_4 rfl hl (by decide) rfl (fun ls hl => ?_)
  refine z_iconst C dX1_bestState_5 ?_
  refine lv_istore_n (lv' := [(3, .int (iI 0)), (2, .int (iI (p2 mm))), (0, .ref r0), (1, .ref a0)]) C.1 C.2.1 dX1_bestState_6 rfl hl (by decide) rfl (fun ls hl => ?_)
  refine z_iconst C dX1_bestState_7 ?_
  refine lv_istore (lv' := [(4, .int (iI 1)), (3, .int (iI 0)), (2, .int (iI (p2 mm))), (0, .ref r0), (1, .ref a0)]) C.1 C.2.1 dX1_bestState_8 hl (by decide) rfl (fun ls hl => ?_)
  refine z_loop2 (P := fun (x : Int) (k : Int) => (1 ≤ k ∧ k ≤ p2 mm) ∧ (x = bsc fm k.toNat) ∧ (0 ≤ x ∧ x < 32)) (mu := fun (x : Int) (k : Int) => (p2 mm - k).toNat) (ws := fun (x : Int) (k : Int) => [zO r0 1 [.int (iI S), .int (iI L), .int (iI N), .int (iI E), .ref r1, .ref r2, .ref r3, .ref r4], zA cy r2 32 fm, zO a0 0 [.int (iI mm), .int (iI oo), .ref a1]]) (lv := fun (x : Int) (k : Int) => [(0, .ref r0), (1, .ref a0), (2, .int (iI (p2 mm))), (3, .int (iI x)), (4, .int (iI k))]) 0 1 C ⟨(by omega), (bsc_1 fm).symm, (by omega)⟩ wd (lv_sub hl [3, 4, 2, 1, 0] rfl) ?_
  intro x k hP10 ih10 H locs ls wd hl
  obtain ⟨h10_0, h10_1, h10_2⟩ := hP10
  try dsimp only at h10_0 h10_1 h10_2
  have wd : Wd D (zT cy cs) _ s.heap s [zO r0 1 [.int (iI S), .int (iI L), .int (iI N), .int (iI E), .ref r1, .ref r2, .ref r3, .ref r4], zA cy r2 32 fm, zO a0 0 [.int (iI mm), .int (iI oo), .ref a1]] H locs := wd
  have hl : lv_has ls 6 [(0, .ref r0), (1, .ref a0), (2, .int (iI (p2 mm))), (3, .int (iI x)), (4, .int (iI k))] := hl
  have hfk : k < p2 mm → -1 ≤ fm k ∧ fm k ≤ 3 * S := fun h => hme k (by omega) (by omega)
  have hfx := hme x h10_2.1 h10_2.2
  have hst := bsc_step (f := fm) h10_0.1
  rw [← h10_1] at hst
  refine lv_iload C.1 C.2.1 dX1_bestState_10 (lv_at hl 4 rfl) ?_
  refine lv_iload_n C.1 C.2.1 dX1_bestState_12 rfl (lv_at hl 2 rfl) ?_
  refine z_icmp_ge C (tgt := 74) dX1_bestState_13 (by decide) (by omega) (fun c_1 => ?_) (fun c_1 => ?_)
  · skip
    refine lv_iload_n C.1 C.2.1 dX1_bestState_74 rfl (lv_at hl 3 rfl) ?_
    exact z_iret C hr hlk wd (by rw [h10_1, show k = p2 mm by omega]) dX1_bestState_75
  · skip
    refine z_join1 (nL := 6) (D := D) (T := zT cy cs) (A := va_A [zO r0 1 [.int (iI S), .int (iI L), .int (iI N), .int (iI E), .ref r1, .ref r2, .ref r3, .ref r4], zA cy r2 32 fm, zO a0 0 [.int (iI mm), .int (iI oo), .ref a1]] s.heap.size) (H0 := s.heap) (P := fun (u : Int) => ((u = 1 ∧ (fm x = -1 ∨ fm k < fm x)) ∨ (u = 0 ∧ ¬ (fm x = -1 ∨ fm k < fm x)))) (ws := fun (u : Int) => [zO r0 1 [.int (iI S), .int (iI L), .int (iI N), .int (iI E), .ref r1, .ref r2, .ref r3, .ref r4], zA cy r2 32 fm, zO a0 0 [.int (iI mm), .int (iI oo), .ref a1]]) (lv := fun (u : Int) => [(0, .ref r0), (1, .ref a0), (2, .int (iI (p2 mm))), (3, .int (iI x)), (4, .int (iI k))]) (stj := fun (u : Int) => [.int (iI u)]) 47 ?_ (fun jn47 => ?_)
    · skip
      intro u hP47 H locs ls wd hl
      have h47_0 := hP47
      try dsimp only at h47_0
      have wd : Wd D (zT cy cs) _ s.heap s [zO r0 1 [.int (iI S), .int (iI L), .int (iI N), .int (iI E), .ref r1, .ref r2, .ref r3, .ref r4], zA cy r2 32 fm, zO a0 0 [.int (iI mm), .int (iI oo), .ref a1]] H locs := wd
      have hl : lv_has ls 6 [(0, .ref r0), (1, .ref a0), (2, .int (iI (p2 mm))), (3, .int (iI x)), (4, .int (iI k))] := hl
      refine lv_istore (lv' := [(5, .int (iI u)), (0, .ref r0), (1, .ref a0), (2, .int (iI (p2 mm))), (3, .int (iI x)), (4, .int (iI k))]) C.1 C.2.1 dX1_bestState_47 hl (by decide) rfl (fun ls hl => ?_)
      refine lv_aload_n C.1 C.2.1 dX1_bestState_49 rfl (lv_at hl 1 rfl) ?_
      refine z_get C wd (Cn := RX1) (TT := TX1) (N := 8) (ci := 1) iX1 0 rfl rfl 5 (by decide) L15 (fun _ h => h) rfl dX1_bestState_50 ?_
      refine lv_iload C.1 C.2.1 dX1_bestState_53 (lv_at hl 5 rfl) ?_
      refine z_iald C wd 1 rfl (by omega) (by decide) dX1_bestState_55 ?_
      refine z_iconst C dX1_bestState_56 ?_
      refine z_icmp_eq C (tgt := 68) dX1_bestState_57 (by decide) (by omega) (fun c_2 => ?_) (fun c_2 => ?_)
      · skip
        refine z_iinc C (lv' := [(4, .int (iI (k + 1))), (5, .int (iI u)), (0, .ref r0), (1, .ref a0), (2, .int (iI (p2 mm))), (3, .int (iI x))]) hl 5 dX1_bestState_68 rfl (by decide) rfl (fun ls hl => ?_)
        refine z_goto C (tgt := 10) dX1_bestState_71 (by decide) ?_
        exact ih10 x (k + 1) ⟨(by omega), (by rw [hst]; first | rw [if_pos (by omega)] | rw [if_neg (by omega)]), (by omega)⟩ (by omega) H locs _ wd (lv_sub hl [2, 3, 4, 5, 0] rfl)
      · skip
        refine lv_iload C.1 C.2.1 dX1_bestState_60 (lv_at hl 0 rfl) ?_
        refine z_if_eq C (tgt := 68) dX1_bestState_62 (by decide) (by omega) (fun c_3 => ?_) (fun c_3 => ?_)
        · skip
          refine z_iinc C (lv' := [(4, .int (iI (k + 1))), (5, .int (iI u)), (0, .ref r0), (1, .ref a0), (2, .int (iI (p2 mm))), (3, .int (iI x))]) hl 5 dX1_bestState_68 rfl (by decide) rfl (fun ls hl => ?_)
          refine z_goto C (tgt := 10) dX1_bestState_71 (by decide) ?_
          exact ih10 x (k + 1) ⟨(by omega), (by rw [hst]; first | rw [if_pos (by omega)] | rw [if_neg (by omega)]), (by omega)⟩ (by omega) H locs _ wd (lv_sub hl [2, 3, 4, 5, 0] rfl)
        · skip
          refine lv_iload C.1 C.2.1 dX1_bestState_65 (lv_at hl 5 rfl) ?_
          refine lv_istore_n (lv' := [(3, .int (iI k)), (5, .int (iI u)), (0, .ref r0), (1, .ref a0), (2, .int (iI (p2 mm))), (4, .int (iI k))]) C.1 C.2.1 dX1_bestState_67 rfl hl (by decide) rfl (fun ls hl => ?_)
          refine z_iinc C (lv' := [(4, .int (iI (k + 1))), (3, .int (iI k)), (5, .int (iI u)), (0, .ref r0), (1, .ref a0), (2, .int (iI (p2 mm)))]) hl 5 dX1_bestState_68 rfl (by decide) rfl (fun ls hl => ?_)
          refine z_goto C (tgt := 10) dX1_bestState_71 (by decide) ?_
          exact ih10 k (k + 1) ⟨(by omega), (by rw [hst]; first | rw [if_pos (by omega)] | rw [if_neg (by omega)]), (by omega)⟩ (by omega) H locs _ wd (lv_sub hl [3, 4, 5, 1, 0] rfl)
    refine lv_aload_n C.1 C.2.1 dX1_bestState_16 rfl (lv_at hl 0 rfl) ?_
    refine z_get C wd (Cn := RX1) (TT := TX1) (N := 8) (ci := 1) iX1 0 rfl rfl 5 (by decide) L15 (fun _ h => h) rfl dX1_bestState_17 ?_
    refine lv_iload_n C.1 C.2.1 dX1_bestState_20 rfl (lv_at hl 3 rfl) ?_
    refine z_iald C wd 1 rfl (by omega) (by decide) dX1_bestState_21 ?_
    refine z_iconst C dX1_bestState_22 ?_
    refine z_icmp_eq C (tgt := 42) dX1_bestState_23 (by decide) (by omega) (fun c_4 => ?_) (fun c_4 => ?_)
    · skip
      refine z_iconst C dX1_bestState_42 ?_
      refine z_goto C (tgt := 47) dX1_bestState_43 (by decide) ?_
      exact jn47 1 (by first | assumption | omega) H locs _ wd (lv_sub hl [0, 1, 2, 3, 4] rfl)
    · skip
      refine lv_aload_n C.1 C.2.1 dX1_bestState_26 rfl (lv_at hl 0 rfl) ?_
      refine z_get C wd (Cn := RX1) (TT := TX1) (N := 8) (ci := 1) iX1 0 rfl rfl 5 (by decide) L15 (fun _ h => h) rfl dX1_bestState_27 ?_
      refine lv_iload C.1 C.2.1 dX1_bestState_30 (lv_at hl 4 rfl) ?_
      refine z_iald C wd 1 rfl (by omega) (by decide) dX1_bestState_32 ?_
      refine lv_aload_n C.1 C.2.1 dX1_bestState_33 rfl (lv_at hl 0 rfl) ?_
      refine z_get C wd (Cn := RX1) (TT := TX1) (N := 8) (ci := 1) iX1 0 rfl rfl 5 (by decide) L15 (fun _ h => h) rfl dX1_bestState_34 ?_
      refine lv_iload_n C.1 C.2.1 dX1_bestState_37 rfl (lv_at hl 3 rfl) ?_
      refine z_iald C wd 1 rfl (by omega) (by decide) dX1_bestState_38 ?_
      refine z_icmp_ge C (tgt := 46) dX1_bestState_39 (by decide) (by omega) (fun c_5 => ?_) (fun c_5 => ?_)
      · skip
        refine z_iconst C dX1_bestState_46 ?_
        exact jn47 0 (by first | assumption | omega) H locs _ wd (lv_sub hl [0, 1, 2, 3, 4] rfl)
      · skip
        refine z_iconst C dX1_bestState_42 ?_
        refine z_goto C (tgt := 47) dX1_bestState_43 (by decide) ?_
        exact jn47 1 (by first | assumption | omega) H locs _ wd (lv_sub hl [0, 1, 2, 3, 4] rfl)
end
section
theorem bi_le {mm t : Int} (h1 : 1 ≤ mm) (h2 : mm ≤ 5) (t0 : 0 ≤ t) (t1 : t < p2 mm) : 0 ≤ t / p2 (mm - 1) ∧ t / p2 (mm - 1) ≤ 1 := by
  have hp := p2_all h1 h2
  have hq : 0 < p2 (mm - 1) := by omega
  refine ⟨Int.ediv_nonneg t0 (by omega), ?_⟩
  have h3 : t / p2 (mm - 1) < 2 := Int.ediv_lt_of_lt_mul hq (by omega)
  omega
theorem lo_le {mm t : Int} (h1 : 1 ≤ mm) (h2 : mm ≤ 5) : 0 ≤ 2 * t % p2 mm ∧ 2 * t % p2 mm + 1 < p2 mm := by
  have hp := p2_all h1 h2
  have h3 : 0 ≤ 2 * t % p2 mm := Int.emod_nonneg _ (by omega)
  refine ⟨h3, ?_⟩
  rw [hp.2.2.1, Int.mul_emod_mul_of_pos _ _ (by omega)]
  have h5 := Int.emod_lt_of_pos t (show 0 < p2 (mm - 1) by omega)
  omega
theorem uB_or (oo : Int) (tp fm f : Int → Int) (q mm k : Int) : (uB oo tp fm f q mm k = 1 ∧ nmF oo tp fm f q mm k = vU oo tp fm f q mm k ∧ vU oo tp fm f q mm k ≠ -1 ∧ (vL oo tp fm f q mm k = -1 ∨ vU oo tp fm f q mm k < vL oo tp fm f q mm k)) ∨ (uB oo tp fm f q mm k = 0 ∧ nmF oo tp fm f q mm k = vL oo tp fm f q mm k ∧ ¬ (vU oo tp fm f q mm k ≠ -1 ∧ (vL oo tp fm f q mm k = -1 ∨ vU oo tp fm f q mm k < vL oo tp fm f q mm k))) := by
  unfold uB nmF
  by_cases h : vU oo tp fm f q mm k ≠ -1 ∧ (vL oo tp fm f q mm k = -1 ∨ vU oo tp fm f q mm k < vL oo tp fm f q mm k)
  · exact Or.inl ⟨if_pos h, if_pos h, h⟩
  · exact Or.inr ⟨if_neg h, if_neg h, h⟩
theorem uB_le (oo : Int) (tp fm f : Int → Int) (q mm k : Int) : 0 ≤ uB oo tp fm f q mm k ∧ uB oo tp fm f q mm k ≤ 1 := by
  have h := uB_or oo tp fm f q mm k
  omega
theorem cpZ_0 (f g : Int → Int) : cpZ f g 0 = g := by
  funext k
  exact if_neg (by omega)
theorem cpZ_step (f g : Int → Int) (n : Int) (h : 0 ≤ n) : uZ (cpZ f g n) n (f n) = cpZ f g (n + 1) := by
  funext k
  unfold uZ cpZ
  by_cases e : k = n
  · rw [if_pos e, if_pos (by omega), e]
  · rw [if_neg e]
    by_cases e2 : 0 ≤ k ∧ k < n
    · rw [if_pos e2, if_pos (by omega)]
    · rw [if_neg e2, if_neg (by omega)]
/-- the metrics behind a step, and the word of its choices -/
def mF (oo : Int) (tp fm f : Int → Int) (q mm : Int) : Int → Int := cpZ (nmF oo tp fm f q mm) fm (p2 mm)
def uF (oo : Int) (tp fm f : Int → Int) (q mm : Int) : Int := csum (uB oo tp fm f q mm) (p2 mm).toNat
def nN (d S N : Int) : Int := if d ≤ S + 1 - N then S + 2 - d else N
theorem nN_or (d S N : Int) : (d ≤ S + 1 - N ∧ nN d S N = S + 2 - d) ∨ (S + 1 - N < d ∧ nN d S N = N) := by
  unfold nN
  by_cases h : d ≤ S + 1 - N
  · exact Or.inl ⟨h, if_pos h⟩
  · exact Or.inr ⟨by omega, if_neg h⟩
theorem nmF_le {oo : Int} {tp fm f : Int → Int} {q mm k S : Int} (h1 : 1 ≤ mm) (h2 : mm ≤ 5) (h : 2 ≤ oo ∧ oo ≤ 3) (hm : mtOk fm S) : -1 ≤ nmF oo tp fm f q mm k ∧ nmF oo tp fm f q mm k ≤ 3 * (S + 1) := by
  have hp := p2_all h1 h2
  have hl := lo_le (t := k) h1 h2
  have a1 := mo_le (tp := tp) (f := f) (q := q) (mm := mm) (b := k / p2 (mm - 1)) h hm (x := 2 * k % p2 mm) (by omega) (by omega)
  have a2 := mo_le (tp := tp) (f := f) (q := q) (mm := mm) (b := k / p2 (mm - 1)) h hm (x := 2 * k % p2 mm + 1) (by omega) (by omega)
  have a3 := uB_or oo tp fm f q mm k
  have e1 : vL oo tp fm f q mm k = mo oo tp fm f q mm (2 * k % p2 mm) (k / p2 (mm - 1)) := rfl
  have e2 : vU oo tp fm f q mm k = mo oo tp fm f q mm (2 * k % p2 mm + 1) (k / p2 (mm - 1)) := rfl
  rw [← e1] at a1
  rw [← e2] at a2
  omega
theorem mF_ok {oo : Int} {tp fm f : Int → Int} {q mm S : Int} (h1 : 1 ≤ mm) (h2 : mm ≤ 5) (h : 2 ≤ oo ∧ oo ≤ 3) (hm : mtOk fm S) : mtOk (mF oo tp fm f q mm) (S + 1) := by
  intro k k0 k1
  have a1 := nmF_le (tp := tp) (f := f) (q := q) (k := k) h1 h2 h hm
  have a2 := hm k k0 k1
  unfold mF cpZ
  split <;> omega
theorem uF_le (oo : Int) (tp fm f : Int → Int) (q mm : Int) (h1 : 1 ≤ mm) (h2 : mm ≤ 5) : 0 ≤ uF oo tp fm f q mm ∧ uF oo tp fm f q mm < 4294967296 := by
  have hp := p2_all h1 h2
  have h := csum_le (uB_le oo tp fm f q mm) (p2 mm).toNat
  have h3 := p2_mono (a := (((p2 mm).toNat : Nat) : Int)) (b := 32) (by omega) (by omega)
  have h4 : p2 32 = 4294967296 := by decide +kernel
  unfold uF
  omega
theorem uOk {fu : Int → Int} {S x : Int} (hu : ∀ k : Int, 0 ≤ k → k < 80 → 0 ≤ fu k ∧ fu k < 4294967296) (h : 0 ≤ x ∧ x < 4294967296) : ∀ k : Int, 0 ≤ k → k < 80 → 0 ≤ uZ fu S x k ∧ uZ fu S x k < 4294967296 := by
  intro k k0 k1
  have := hu k k0 k1
  unfold uZ
  split <;> omega
def rB (fm : Int → Int) (k : Int) : Int := if fm k = -1 then 0 else 1
theorem rB_le (fm : Int → Int) (k : Int) : 0 ≤ rB fm k ∧ rB fm k ≤ 1 := by
  unfold rB
  split <;> omega
theorem lI_lN (n : Nat) : lN n = lI (n : Int) := by
  rw [← Int64.toBitVec_inj]
  simp [lN, lI]
theorem lI_nat {a : Int} (h : 0 ≤ a) : lI a = lN a.toNat := by
  rw [lI_lN, Int.toNat_of_nonneg h]
theorem nI_63 : ∀ k : Nat, k < 64 → (nI k).toInt64 &&& 63 = lN k := by decide +kernel
theorem lI_shl {a k : Int} (a0 : 0 ≤ a) (k0 : 0 ≤ k) (k1 : k < 63) (h : a * p2 k < 9223372036854775808) : lI a <<< ((iI k).toInt64 &&& 63) = lI (a * p2 k) := by
  rw [lI_nat a0, iI_nat k0, nI_63 _ (by omega)]
  have hp := p2_nat k
  rw [lI_nat (Int.mul_nonneg a0 (by have := p2_pos k; omega))]
  have e1 : (a * p2 k).toNat = a.toNat * 2 ^ k.toNat := by
    rw [Int.toNat_mul a0 (by have := p2_pos k; omega), hp, Int.toNat_natCast]
  rw [e1, ← Int64.toBitVec_inj]
  apply BitVec.eq_of_toNat_eq
  rw [Int64.toBitVec_shiftLeft]
  have e2 : ((BitVec.ofNat 64 k.toNat).smod 64#64).toNat = k.toNat := by
    have : ∀ j : Nat, j < 63 → ((BitVec.ofNat 64 j).smod 64#64).toNat = j := by decide +kernel
    exact this _ (by omega)
  simp [lN, Nat.shiftLeft_eq]
  rw [e2]
theorem lI_1k {k : Int} (h0 : 0 ≤ k) (h : k < 32) : lI 1 <<< ((iI k).toInt64 &&& 63) = lI (p2 k) := by
  have h1 := p2_31 h0 h
  rw [lI_shl (by omega) h0 (by omega) (by omega), Int.one_mul]
theorem lI_orb {x k : Int} (x0 : 0 ≤ x) (x1 : x < p2 k) (k0 : 0 ≤ k) : lI x ||| lI (p2 k) = lI (x + p2 k) := by
  have hp := p2_pos k
  rw [lI_nat x0, lI_nat (show 0 ≤ p2 k by omega), lI_nat (show 0 ≤ x + p2 k by omega)]
  rw [← Int64.toBitVec_inj]
  have e2 : (p2 k).toNat = 2 ^ k.toNat := by rw [p2_nat, Int.toNat_natCast]
  have e3 : x.toNat < 2 ^ k.toNat := by omega
  have e1 : x.toNat ||| 2 ^ k.toNat = x.toNat + 2 ^ k.toNat := by
    have := Nat.two_pow_add_eq_or_of_lt e3 1
    rw [Nat.mul_one] at this
    rw [Nat.or_comm, ← this]
    omega
  have e4 : (x + p2 k).toNat = x.toNat ||| 2 ^ k.toNat := by omega
  rw [e4, e2]
  show (lN x.toNat).toBitVec ||| (lN (2 ^ k.toNat)).toBitVec = (lN (x.toNat ||| 2 ^ k.toNat)).toBitVec
  simp [lN, BitVec.ofNat_or]
end
section
set_option maxRecDepth 100000 in
set_option maxHeartbeats 4000000 in
theorem c_X1_advance (l : Launch) (D : va_G) (cy cs : ClassId) (r0 r1 r2 r3 r4 a0 a1 a2 n : Nat) (S L N E mm oo d q : Int) (fr fm fn fu tp f : Int → Int) (hm : 1 ≤ mm ∧ mm ≤ 5) (ho : 2 ≤ oo ∧ oo ≤ 3) (ht : tpOk tp) (hf : rwOk f n) (hn : n < 2147483648) (hq : 0 ≤ q ∧ q + oo ≤ n) (hu : ∀ k : Int, 0 ≤ k → k < 80 → 0 ≤ fu k ∧ fu k < 4294967296) (hS : 0 ≤ S ∧ S < 80) (hN : 0 ≤ N ∧ N ≤ S) (hd : 2 ≤ d ∧ d ≤ 40) (hme : mtOk fm S) : zCv l D (zT cy cs) yX1_advance wsX1_advance ({ frames := 4, cells := 0, slots := 0, locals := 95 } : Room) [.ref r0, .ref a0, .int (iI d), .ref a2, .int (iI q)] [zO r0 1 [.int (iI S), .int (iI L), .int (iI N), .int (iI E), .ref r1, .ref r2, .ref r3, .ref r4], zA cy r1 80 fr, zA cy r2 32 fm, zA cy r3 32 fn, zA cy r4 80 fu, zO a0 0 [.int (iI mm), .int (iI oo), .ref a1], zA cy a1 3 tp, zA cy a2 n f] [zO r0 1 [.int (iI (S + 1)), .int (iI L), .int (iI (nN d S N)), .int (iI E), .ref r1, .ref r2, .ref r3, .ref r4], zA cy r1 80 (rlF mm (uZ fu S (uF oo tp fm f q mm)) (S + 1) (bsc (mF oo tp fm f q mm) (p2 mm).toNat) fr N (nN d S N) (N - 1)), zA cy r2 32 (mF oo tp fm f q mm), zA cy r3 32 (cpZ (nmF oo tp fm f q mm) fn (p2 mm)), zA cy r4 80 (uZ fu S (uF oo tp fm f q mm)), zO a0 0 [.int (iI mm), .int (iI oo), .ref a1], zA cy a1 3 tp, zA cy a2 n f] := by
  intro sz
  refine zM_mk (cc := cX1_advance) (maxL := 13) (ret := none) (own := RX1) (Qc := fun sz => va_Qv (fun (_ : Unit) => True) (fun _ t => zQ D (zT cy cs) (va_A [zO r0 1 [.int (iI S), .int (iI L), .int (iI N), .int (iI E), .ref r1, .ref r2, .ref r3, .ref r4], zA cy r1 80 fr, zA cy r2 32 fm, zA cy r3 32 fn, zA cy r4 80 fu, zO a0 0 [.int (iI mm), .int (iI oo), .ref a1], zA cy a1 3 tp, zA cy a2 n f] sz) [zO r0 1 [.int (iI (S + 1)), .int (iI L), .int (iI (nN d S N)), .int (iI E), .ref r1, .ref r2, .ref r3, .ref r4], zA cy r1 80 (rlF mm (uZ fu S (uF oo tp fm f q mm)) (S + 1) (bsc (mF oo tp fm f q mm) (p2 mm).toNat) fr N (nN d S N) (N - 1)), zA cy r2 32 (mF oo tp fm f q mm), zA cy r3 32 (cpZ (nmF oo tp fm f q mm) fn (p2 mm)), zA cy r4 80 (uZ fu S (uF oo tp fm f q mm)), zO a0 0 [.int (iI mm), .int (iI oo), .ref a1], zA cy a1 3 tp, zA cy a2 n f] t) (va_A [zO r0 1 [.int (iI S), .int (iI L), .int (iI N), .int (iI E), .ref r1, .ref r2, .ref r3, .ref r4], zA cy r1 80 fr, zA cy r2 32 fm, zA cy r3 32 fn, zA cy r4 80 fu, zO a0 0 [.int (iI mm), .int (iI oo), .ref a1], zA cy a1 3 tp, zA cy a2 n f] sz)) (by decide) rfl rfl (Nat.le_of_ble_eq_true rfl) rfl sz ?_
  intro p e s m args below meth c ls C hr hlk hnm hl hsz hA wd
  subst hsz
  have hl : lv_has ls 13 [(0, .ref r0), (1, .ref a0), (2, .int (iI d)), (3, .ref a2), (4, .int (iI q))] := hl
  have iX1 : ∀ w ∈ u_ws RX1 TX1 8, w ∈ wsX1_advance := by decide +kernel
  have L15 := C.2.2.2.2 (.fieldLink RX1 15 "LikelyWalks$Reader" "metrics" "[I") (by decide +kernel)
  have L18 := C.2.2.2.2 (.fieldLink RX1 18 "LikelyWalks$Reader" "newMetrics" "[I") (by decide +kernel)
  have L21 := C.2.2.2.2 (.fieldLink RX1 21 "LikelyWalks$Reader" "fromUpper" "[I") (by decide +kernel)
  have L27 := C.2.2.2.2 (.fieldLink RX1 27 "LikelyWalks$Reader" "steps" "I") (by decide +kernel)
  have L34 := C.2.2.2.2 (.fieldLink RX1 34 "LikelyWalks$Reader" "releasedCount" "I") (by decide +kernel)
  have hp := p2_all hm.1 hm.2
  refine lv_aload_n C.1 C.2.1 dX1_advance_0 rfl (lv_at hl 0 rfl) ?_
  refine z_get C wd (Cn := RX1) (TT := TX1) (N := 8) (ci := 1) iX1 0 rfl rfl 0 (by decide) L27 (fun _ h => h) rfl dX1_advance_1 ?_
  refine z_bipush C dX1_advance_4 (by decide +kernel) ?_
  refine z_icmp_lt C (tgt := 10) dX1_advance_6 (by decide) (by omega) (fun c_1 => ?_) (fun c_1 => ?_)
  · skip
    refine lv_aload_n C.1 C.2.1 dX1_advance_10 rfl (lv_at hl 1 rfl) ?_
    refine z_cvi C wd hA (As := []) (rest := []) (ws2 := [zO r0 1 [.int (iI S), .int (iI L), .int (iI N), .int (iI E), .ref r1, .ref r2, .ref r3, .ref r4], zA cy r1 80 fr, zA cy r2 32 fm, zA cy r3 32 fn, zA cy r4 80 fu, zO a0 0 [.int (iI mm), .int (iI oo), .ref a1], zA cy a1 3 tp, zA cy a2 n f]) (c_X0_states l D cy cs a0 a1 mm oo (by omega)) (cwV 0 C.2.2.2.2 gX1_advance_X0_states rfl rfl rfl (by decide +kernel) ⟨Nat.le_of_ble_eq_true rfl, Nat.le_of_ble_eq_true rfl⟩) [5] rfl rfl rfl ⟨rfl, [0, 1, 2, 3, 4, 6, 7], [zO r0 1 [.int (iI S), .int (iI L), .int (iI N), .int (iI E), .ref r1, .ref r2, .ref r3, .ref r4], zA cy r1 80 fr, zA cy r2 32 fm, zA cy r3 32 fn, zA cy r4 80 fu, zA cy a1 3 tp, zA cy a2 n f], 8, rfl, rfl, rfl, by decide +kernel⟩ rfl rfl rfl rfl (Nat.le_of_ble_eq_true rfl) hl.1 dX1_advance_11 ⟨Nat.zero_le _, Nat.zero_le _⟩ (fun H locs wd => ?_)
    refine lv_istore (lv' := [(5, .int (iI (p2 mm))), (0, .ref r0), (1, .ref a0), (2, .int (iI d)), (3, .ref a2), (4, .int (iI q))]) C.1 C.2.1 dX1_advance_14 hl (by decide) rfl (fun ls hl => ?_)
    refine z_iconst C dX1_advance_16 ?_
    refine lv_istore (lv' := [(6, .int (iI 0)), (5, .int (iI (p2 mm))), (0, .ref r0), (1, .ref a0), (2, .int (iI d)), (3, .ref a2), (4, .int (iI q))]) C.1 C.2.1 dX1_advance_17 hl (by decide) rfl (fun ls hl => ?_)
    refine z_iconst C dX1_advance_19 ?_
    refine lv_istore (lv' := [(7, .int (iI 0)), (6, .int (iI 0)), (5, .int (iI (p2 mm))), (0, .ref r0), (1, .ref a0), (2, .int (iI d)), (3, .ref a2), (4, .int (iI q))]) C.1 C.2.1 dX1_advance_20 hl (by decide) rfl (fun ls hl => ?_)
    refine z_loop3 (P := fun (x : Int) (k : Int) (g : Int → Int) => (0 ≤ k ∧ k ≤ p2 mm) ∧ (x = csum (uB oo tp fm f q mm) k.toNat) ∧ (g = cpZ (nmF oo tp fm f q mm) fn k)) (mu := fun (x : Int) (k : Int) (g : Int → Int) => (p2 mm - k).toNat) (ws := fun (x : Int) (k : Int) (g : Int → Int) => [zO r0 1 [.int (iI S), .int (iI L), .int (iI N), .int (iI E), .ref r1, .ref r2, .ref r3, .ref r4], zA cy r1 80 fr, zA cy r2 32 fm, zA cy r3 32 g, zA cy r4 80 fu, zO a0 0 [.int (iI mm), .int (iI oo), .ref a1], zA cy a1 3 tp, zA cy a2 n f]) (lv := fun (x : Int) (k : Int) (g : Int → Int) => [(0, .ref r0), (1, .ref a0), (2, .int (iI d)), (3, .ref a2), (4, .int (iI q)), (5, .int (iI (p2 mm))), (6, .int (iI x)), (7, .int (iI k))]) 0 0 fn C ⟨(by omega), rfl, (cpZ_0 _ _).symm⟩ wd (lv_sub hl [3, 4, 5, 6, 7, 2, 1, 0] rfl) ?_
    intro x k g hP22 ih22 H locs ls wd hl
    obtain ⟨h22_0, h22_1, h22_2⟩ := hP22
    try dsimp only at h22_0 h22_1 h22_2
    have wd : Wd D (zT cy cs) _ s.heap s [zO r0 1 [.int (iI S), .int (iI L), .int (iI N), .int (iI E), .ref r1, .ref r2, .ref r3, .ref r4], zA cy r1 80 fr, zA cy r2 32 fm, zA cy r3 32 g, zA cy r4 80 fu, zO a0 0 [.int (iI mm), .int (iI oo), .ref a1], zA cy a1 3 tp, zA cy a2 n f] H locs := wd
    have hl : lv_has ls 13 [(0, .ref r0), (1, .ref a0), (2, .int (iI d)), (3, .ref a2), (4, .int (iI q)), (5, .int (iI (p2 mm))), (6, .int (iI x)), (7, .int (iI k))] := hl
    have hxc := csum_le (uB_le oo tp fm f q mm) k.toNat
    rw [← h22_1, Int.toNat_of_nonneg h22_0.1] at hxc
    refine lv_iload C.1 C.2.1 dX1_advance_22 (lv_at hl 7 rfl) ?_
    refine lv_iload C.1 C.2.1 dX1_advance_24 (lv_at hl 5 rfl) ?_
    refine z_icmp_ge C (tgt := 140) dX1_advance_26 (by decide) (by omega) (fun c_2 => ?_) (fun c_2 => ?_)
    · skip
      have hk : k = p2 mm := by omega
      have hmF := mF_ok (tp := tp) (f := f) (q := q) hm.1 hm.2 ho hme
      have huF := uF_le oo tp fm f q mm hm.1 hm.2
      have hnN := nN_or d S N
      have hbs := bsc_le (mF oo tp fm f q mm) (n := (p2 mm).toNat) (by omega)
      have wd := z_cell wd (ws2 := [zO r0 1 [.int (iI S), .int (iI L), .int (iI N), .int (iI E), .ref r1, .ref r2, .ref r3, .ref r4], zA cy r1 80 fr, zA cy r2 32 fm, zA cy r3 32 (cpZ (nmF oo tp fm f q mm) fn (p2 mm)), zA cy r4 80 fu, zO a0 0 [.int (iI mm), .int (iI oo), .ref a1], zA cy a1 3 tp, zA cy a2 n f]) 3 rfl (by intro j _ _; rw [h22_2, hk]) rfl
      refine lv_aload_n C.1 C.2.1 dX1_advance_140 rfl (lv_at hl 0 rfl) ?_
      refine z_get C wd (Cn := RX1) (TT := TX1) (N := 8) (ci := 1) iX1 0 rfl rfl 6 (by decide) L18 (fun _ h => h) rfl dX1_advance_141 ?_
      refine z_iconst C dX1_advance_144 ?_
      refine lv_aload_n C.1 C.2.1 dX1_advance_145 rfl (lv_at hl 0 rfl) ?_
      refine z_get C wd (Cn := RX1) (TT := TX1) (N := 8) (ci := 1) iX1 0 rfl rfl 5 (by decide) L15 (fun _ h => h) rfl dX1_advance_146 ?_
      refine z_iconst C dX1_advance_149 ?_
      refine lv_iload C.1 C.2.1 dX1_advance_150 (lv_at hl 5 rfl) ?_
      refine z_copy C wd (rest := []) (ws2 := [zO r0 1 [.int (iI S), .int (iI L), .int (iI N), .int (iI E), .ref r1, .ref r2, .ref r3, .ref r4], zA cy r1 80 fr, zA cy r2 32 (cpZ (cpZ (nmF oo tp fm f q mm) fn (p2 mm)) fm (p2 mm)), zA cy r3 32 (cpZ (nmF oo tp fm f q mm) fn (p2 mm)), zA cy r4 80 fu, zO a0 0 [.int (iI mm), .int (iI oo), .ref a1], zA cy a1 3 tp, zA cy a2 n f]) 3 2 rfl rfl (C.2.2.2.2 (.methodLink RX1 47 arraycopyName) (by decide +kernel)) (C.2.2.2.2 (.native arraycopyName) (by decide +kernel)) (C.2.2.2.2 (.static arraycopyName) (by decide +kernel)) (C.2.2.2.2 (.initialized "java/lang/System") (by decide +kernel)) (by omega) (Nat.le_of_ble_eq_true rfl) (Nat.le_of_ble_eq_true rfl) hl.1 rfl dX1_advance_152 (fun H locs wd => ?_)
      have wd := z_cell wd (ws2 := [zO r0 1 [.int (iI S), .int (iI L), .int (iI N), .int (iI E), .ref r1, .ref r2, .ref r3, .ref r4], zA cy r1 80 fr, zA cy r2 32 (mF oo tp fm f q mm), zA cy r3 32 (cpZ (nmF oo tp fm f q mm) fn (p2 mm)), zA cy r4 80 fu, zO a0 0 [.int (iI mm), .int (iI oo), .ref a1], zA cy a1 3 tp, zA cy a2 n f]) 2 rfl (by intro j _ _; unfold mF cpZ; split <;> rfl) rfl
      refine lv_aload_n C.1 C.2.1 dX1_advance_155 rfl (lv_at hl 0 rfl) ?_
      refine z_get C wd (Cn := RX1) (TT := TX1) (N := 8) (ci := 1) iX1 0 rfl rfl 7 (by decide) L21 (fun _ h => h) rfl dX1_advance_156 ?_
      refine lv_aload_n C.1 C.2.1 dX1_advance_159 rfl (lv_at hl 0 rfl) ?_
      refine z_get C wd (Cn := RX1) (TT := TX1) (N := 8) (ci := 1) iX1 0 rfl rfl 0 (by decide) L27 (fun _ h => h) rfl dX1_advance_160 ?_
      refine lv_iload C.1 C.2.1 dX1_advance_163 (lv_at hl 6 rfl) ?_
      refine z_top (b := uF oo tp fm f q mm) (by rw [h22_1, hk]; rfl) ?_
      refine z_iast C wd (ws2 := [zO r0 1 [.int (iI S), .int (iI L), .int (iI N), .int (iI E), .ref r1, .ref r2, .ref r3, .ref r4], zA cy r1 80 fr, zA cy r2 32 (mF oo tp fm f q mm), zA cy r3 32 (cpZ (nmF oo tp fm f q mm) fn (p2 mm)), zA cy r4 80 (uZ fu S (uF oo tp fm f q mm)), zO a0 0 [.int (iI mm), .int (iI oo), .ref a1], zA cy a1 3 tp, zA cy a2 n f]) 4 rfl (by omega) (by decide) rfl dX1_advance_165 (fun H locs wd => ?_)
      refine lv_aload_n C.1 C.2.1 dX1_advance_166 rfl (lv_at hl 0 rfl) ?_
      refine lv_dup C.1 C.2.1 dX1_advance_167 rfl ?_
      refine z_get C wd (Cn := RX1) (TT := TX1) (N := 8) (ci := 1) iX1 0 rfl rfl 0 (by decide) L27 (fun _ h => h) rfl dX1_advance_168 ?_
      refine z_iconst C dX1_advance_171 ?_
      refine z_iadd C dX1_advance_172 ?_
      refine z_put C wd (Cn := RX1) (TT := TX1) (N := 8) (ci := 1) (ws2 := [zO r0 1 [.int (iI (S + 1)), .int (iI L), .int (iI N), .int (iI E), .ref r1, .ref r2, .ref r3, .ref r4], zA cy r1 80 fr, zA cy r2 32 (mF oo tp fm f q mm), zA cy r3 32 (cpZ (nmF oo tp fm f q mm) fn (p2 mm)), zA cy r4 80 (uZ fu S (uF oo tp fm f q mm)), zO a0 0 [.int (iI mm), .int (iI oo), .ref a1], zA cy a1 3 tp, zA cy a2 n f]) iX1 tyX1 tyX1_ok nmX1 0 rfl rfl 0 (by decide) L27 (fun _ h => h) rfl (ty := .int) (by decide +kernel) rfl rfl (Nat.le_of_ble_eq_true rfl) rfl dX1_advance_173 (fun H locs wd => ?_)
      refine lv_aload_n C.1 C.2.1 dX1_advance_176 rfl (lv_at hl 0 rfl) ?_
      refine z_get C wd (Cn := RX1) (TT := TX1) (N := 8) (ci := 1) iX1 0 rfl rfl 0 (by decide) L27 (fun _ h => h) rfl dX1_advance_177 ?_
      refine lv_aload_n C.1 C.2.1 dX1_advance_180 rfl (lv_at hl 0 rfl) ?_
      refine z_get C wd (Cn := RX1) (TT := TX1) (N := 8) (ci := 1) iX1 0 rfl rfl 2 (by decide) L34 (fun _ h => h) rfl dX1_advance_181 ?_
      refine z_isub C dX1_advance_184 ?_
      refine lv_iload_n C.1 C.2.1 dX1_advance_185 rfl (lv_at hl 2 rfl) ?_
      refine z_icmp_lt C (tgt := 207) dX1_advance_186 (by decide) (by omega) (fun c_3 => ?_) (fun c_3 => ?_)
      · skip
        have wd := z_fld wd (ws2 := [zO r0 1 [.int (iI (S + 1)), .int (iI L), .int (iI (nN d S N)), .int (iI E), .ref r1, .ref r2, .ref r3, .ref r4], zA cy r1 80 fr, zA cy r2 32 (mF oo tp fm f q mm), zA cy r3 32 (cpZ (nmF oo tp fm f q mm) fn (p2 mm)), zA cy r4 80 (uZ fu S (uF oo tp fm f q mm)), zO a0 0 [.int (iI mm), .int (iI oo), .ref a1], zA cy a1 3 tp, zA cy a2 n f]) 0 rfl (congrArg (fun z0 => zO r0 1 [.int (iI (S + 1)), .int (iI L), .int (iI z0), .int (iI E), .ref r1, .ref r2, .ref r3, .ref r4]) (show (N : Int) = nN d S N from (by omega))) rfl
        have wd := z_cell wd (ws2 := [zO r0 1 [.int (iI (S + 1)), .int (iI L), .int (iI (nN d S N)), .int (iI E), .ref r1, .ref r2, .ref r3, .ref r4], zA cy r1 80 (rlF mm (uZ fu S (uF oo tp fm f q mm)) (S + 1) (bsc (mF oo tp fm f q mm) (p2 mm).toNat) fr N (nN d S N) (N - 1)), zA cy r2 32 (mF oo tp fm f q mm), zA cy r3 32 (cpZ (nmF oo tp fm f q mm) fn (p2 mm)), zA cy r4 80 (uZ fu S (uF oo tp fm f q mm)), zO a0 0 [.int (iI mm), .int (iI oo), .ref a1], zA cy a1 3 tp, zA cy a2 n f]) 1 rfl (by intro j _ _; first | (rw [show nN d S N = S + 1 - d + 1 by omega]; done) | (rw [rlF_0 (by omega)]; done)) rfl
        exact z_vret C hr hlk wd dX1_advance_207
      · skip
        refine lv_aload_n C.1 C.2.1 dX1_advance_189 rfl (lv_at hl 0 rfl) ?_
        refine lv_aload_n C.1 C.2.1 dX1_advance_190 rfl (lv_at hl 1 rfl) ?_
        refine lv_aload_n C.1 C.2.1 dX1_advance_191 rfl (lv_at hl 0 rfl) ?_
        refine lv_aload_n C.1 C.2.1 dX1_advance_192 rfl (lv_at hl 1 rfl) ?_
        refine z_cvi C wd hA (As := [.ref a0]) (rest := [.ref a0, .ref r0]) (ws2 := [zO r0 1 [.int (iI (S + 1)), .int (iI L), .int (iI N), .int (iI E), .ref r1, .ref r2, .ref r3, .ref r4], zA cy r1 80 fr, zA cy r2 32 (mF oo tp fm f q mm), zA cy r3 32 (cpZ (nmF oo tp fm f q mm) fn (p2 mm)), zA cy r4 80 (uZ fu S (uF oo tp fm f q mm)), zO a0 0 [.int (iI mm), .int (iI oo), .ref a1], zA cy a1 3 tp, zA cy a2 n f]) (c_X1_bestState l D cy cs r0 r1 r2 r3 r4 a0 a1 (S + 1) L N E mm oo (mF oo tp fm f q mm) (by omega) (by omega) hmF) (cwV 1 C.2.2.2.2 gX1_advance_X1_bestState rfl rfl rfl (by decide +kernel) ⟨Nat.le_of_ble_eq_true rfl, Nat.le_of_ble_eq_true rfl⟩) [0, 2, 5] rfl rfl rfl ⟨rfl, [1, 3, 4, 6, 7], [zA cy r1 80 fr, zA cy r3 32 (cpZ (nmF oo tp fm f q mm) fn (p2 mm)), zA cy r4 80 (uZ fu S (uF oo tp fm f q mm)), zA cy a1 3 tp, zA cy a2 n f], 8, rfl, rfl, rfl, by decide +kernel⟩ rfl rfl rfl rfl (Nat.le_of_ble_eq_true rfl) hl.1 dX1_advance_193 ⟨Nat.zero_le _, Nat.zero_le _⟩ (fun H locs wd => ?_)
        refine lv_aload_n C.1 C.2.1 dX1_advance_196 rfl (lv_at hl 0 rfl) ?_
        refine z_get C wd (Cn := RX1) (TT := TX1) (N := 8) (ci := 1) iX1 0 rfl rfl 0 (by decide) L27 (fun _ h => h) rfl dX1_advance_197 ?_
        refine lv_iload_n C.1 C.2.1 dX1_advance_200 rfl (lv_at hl 2 rfl) ?_
        refine z_isub C dX1_advance_201 ?_
        refine z_iconst C dX1_advance_202 ?_
        refine z_iadd C dX1_advance_203 ?_
        refine z_cvv C wd hA (As := [.ref a0, .int (iI (bsc (mF oo tp fm f q mm) (p2 mm).toNat)), .int (iI (((S + 1) - d) + 1))]) (rest := []) (ws2 := [zO r0 1 [.int (iI (S + 1)), .int (iI L), .int (iI (((S + 1) - d) + 1)), .int (iI E), .ref r1, .ref r2, .ref r3, .ref r4], zA cy r1 80 (rlF mm (uZ fu S (uF oo tp fm f q mm)) (S + 1) (bsc (mF oo tp fm f q mm) (p2 mm).toNat) fr N (((S + 1) - d) + 1) (N - 1)), zA cy r2 32 (mF oo tp fm f q mm), zA cy r3 32 (cpZ (nmF oo tp fm f q mm) fn (p2 mm)), zA cy r4 80 (uZ fu S (uF oo tp fm f q mm)), zO a0 0 [.int (iI mm), .int (iI oo), .ref a1], zA cy a1 3 tp, zA cy a2 n f]) (c_X1_releaseUpTo l D cy cs r0 r1 r2 r3 r4 a0 a1 (S + 1) L N E mm oo fr (uZ fu S (uF oo tp fm f q mm)) (bsc (mF oo tp fm f q mm) (p2 mm).toNat) (((S + 1) - d) + 1) (by omega) (by omega) (uOk hu huF) (by omega) (by omega) (by omega)) (cwV 3 C.2.2.2.2 gX1_advance_X1_releaseUpTo rfl rfl rfl (by decide +kernel) ⟨Nat.le_of_ble_eq_true rfl, Nat.le_of_ble_eq_true rfl⟩) [0, 1, 4, 5] rfl rfl rfl ⟨rfl, [2, 3, 6, 7], [zA cy r2 32 (mF oo tp fm f q mm), zA cy r3 32 (cpZ (nmF oo tp fm f q mm) fn (p2 mm)), zA cy a1 3 tp, zA cy a2 n f], 8, rfl, rfl, rfl, by decide +kernel⟩ rfl rfl rfl rfl (Nat.le_of_ble_eq_true rfl) hl.1 dX1_advance_204 ⟨Nat.zero_le _, Nat.zero_le _⟩ (fun H locs wd => ?_)
        have wd := z_fld wd (ws2 := [zO r0 1 [.int (iI (S + 1)), .int (iI L), .int (iI (((S + 1) - d) + 1)), .int (iI E), .ref r1, .ref r2, .ref r3, .ref r4], zA cy r1 80 (rlF mm (uZ fu S (uF oo tp fm f q mm)) (S + 1) (bsc (mF oo tp fm f q mm) (p2 mm).toNat) fr N (((S + 1) - d) + 1) (N - 1)), zA cy r2 32 (mF oo tp fm f q mm), zA cy r3 32 (cpZ (nmF oo tp fm f q mm) fn (p2 mm)), zA cy r4 80 (uZ fu S (uF oo tp fm f q mm)), zO a0 0 [.int (iI mm), .int (iI oo), .ref a1], zA cy a1 3 tp, zA cy a2 n f]) 0 rfl (congrArg (fun z0 => zO r0 1 [.int (iI z0), .int (iI L), .int (iI (((S + 1) - d) + 1)), .int (iI E), .ref r1, .ref r2, .ref r3, .ref r4]) (show ((S + 1) : Int) = S + 1 from (by omega))) rfl
        have wd := z_fld wd (ws2 := [zO r0 1 [.int (iI (S + 1)), .int (iI L), .int (iI (nN d S N)), .int (iI E), .ref r1, .ref r2, .ref r3, .ref r4], zA cy r1 80 (rlF mm (uZ fu S (uF oo tp fm f q mm)) (S + 1) (bsc (mF oo tp fm f q mm) (p2 mm).toNat) fr N (((S + 1) - d) + 1) (N - 1)), zA cy r2 32 (mF oo tp fm f q mm), zA cy r3 32 (cpZ (nmF oo tp fm f q mm) fn (p2 mm)), zA cy r4 80 (uZ fu S (uF oo tp fm f q mm)), zO a0 0 [.int (iI mm), .int (iI oo), .ref a1], zA cy a1 3 tp, zA cy a2 n f]) 0 rfl (congrArg (fun z0 => zO r0 1 [.int (iI (S + 1)), .int (iI L), .int (iI z0), .int (iI E), .ref r1, .ref r2, .ref r3, .ref r4]) (show ((((S + 1) - d) + 1) : Int) = nN d S N from (by omega))) rfl
        have wd := z_cell wd (ws2 := [zO r0 1 [.int (iI (S + 1)), .int (iI L), .int (iI (nN d S N)), .int (iI E), .ref r1, .ref r2, .ref r3, .ref r4], zA cy r1 80 (rlF mm (uZ fu S (uF oo tp fm f q mm)) (S + 1) (bsc (mF oo tp fm f q mm) (p2 mm).toNat) fr N (nN d S N) (N - 1)), zA cy r2 32 (mF oo tp fm f q mm), zA cy r3 32 (cpZ (nmF oo tp fm f q mm) fn (p2 mm)), zA cy r4 80 (uZ fu S (uF oo tp fm f q mm)), zO a0 0 [.int (iI mm), .int (iI oo), .ref a1], zA cy a1 3 tp, zA cy a2 n f]) 1 rfl (by intro j _ _; first | (rw [show nN d S N = S + 1 - d + 1 by omega]; done) | (rw [rlF_0 (by omega)]; done)) rfl
        have wd := z_cell wd (ws2 := [zO r0 1 [.int (iI (S + 1)), .int (iI L), .int (iI (nN d S N)), .int (iI E), .ref r1, .ref r2, .ref r3, .ref r4], zA cy r1 80 (rlF mm (uZ fu S (uF oo tp fm f q mm)) (S + 1) (bsc (mF oo tp fm f q mm) (p2 mm).toNat) fr N (nN d S N) (N - 1)), zA cy r2 32 (mF oo tp fm f q mm), zA cy r3 32 (cpZ (nmF oo tp fm f q mm) fn (p2 mm)), zA cy r4 80 (uZ fu S (uF oo tp fm f q mm)), zO a0 0 [.int (iI mm), .int (iI oo), .ref a1], zA cy a1 3 tp, zA cy a2 n f]) 2 rfl (by intro k hk0 hk1; first | rfl | omega) rfl
        have wd := z_cell wd (ws2 := [zO r0 1 [.int (iI (S + 1)), .int (iI L), .int (iI (nN d S N)), .int (iI E), .ref r1, .ref r2, .ref r3, .ref r4], zA cy r1 80 (rlF mm (uZ fu S (uF oo tp fm f q mm)) (S + 1) (bsc (mF oo tp fm f q mm) (p2 mm).toNat) fr N (nN d S N) (N - 1)), zA cy r2 32 (mF oo tp fm f q mm), zA cy r3 32 (cpZ (nmF oo tp fm f q mm) fn (p2 mm)), zA cy r4 80 (uZ fu S (uF oo tp fm f q mm)), zO a0 0 [.int (iI mm), .int (iI oo), .ref a1], zA cy a1 3 tp, zA cy a2 n f]) 4 rfl (by intro k hk0 hk1; first | rfl | omega) rfl
        exact z_vret C hr hlk wd dX1_advance_207
    · skip
      have hbi := bi_le (t := k) hm.1 hm.2 h22_0.1 (by omega)
      have hlo := lo_le (t := k) hm.1 hm.2
      have hvL : _ ∧ _ := mo_le (tp := tp) (f := f) (q := q) (mm := mm) (b := k / p2 (mm - 1)) ho hme (x := 2 * k % p2 mm) (by omega) (by omega)
      have hvU : _ ∧ _ := mo_le (tp := tp) (f := f) (q := q) (mm := mm) (b := k / p2 (mm - 1)) ho hme (x := 2 * k % p2 mm + 1) (by omega) (by omega)
      have eL : vL oo tp fm f q mm k = mo oo tp fm f q mm (2 * k % p2 mm) (k / p2 (mm - 1)) := rfl
      have eU : vU oo tp fm f q mm k = mo oo tp fm f q mm (2 * k % p2 mm + 1) (k / p2 (mm - 1)) := rfl
      rw [← eL] at hvL
      rw [← eU] at hvU
      refine lv_aload_n C.1 C.2.1 dX1_advance_29 rfl (lv_at hl 1 rfl) ?_
      refine lv_iload C.1 C.2.1 dX1_advance_30 (lv_at hl 7 rfl) ?_
      refine z_cvi C wd hA (As := [.int (iI k)]) (rest := []) (ws2 := [zO r0 1 [.int (iI S), .int (iI L), .int (iI N), .int (iI E), .ref r1, .ref r2, .ref r3, .ref r4], zA cy r1 80 fr, zA cy r2 32 fm, zA cy r3 32 g, zA cy r4 80 fu, zO a0 0 [.int (iI mm), .int (iI oo), .ref a1], zA cy a1 3 tp, zA cy a2 n f]) (c_X0_lowerBefore l D cy cs a0 a1 mm oo k (by omega) (by omega)) (cwV 1 C.2.2.2.2 gX1_advance_X0_lowerBefore rfl rfl rfl (by decide +kernel) ⟨Nat.le_of_ble_eq_true rfl, Nat.le_of_ble_eq_true rfl⟩) [5] rfl rfl rfl ⟨rfl, [0, 1, 2, 3, 4, 6, 7], [zO r0 1 [.int (iI S), .int (iI L), .int (iI N), .int (iI E), .ref r1, .ref r2, .ref r3, .ref r4], zA cy r1 80 fr, zA cy r2 32 fm, zA cy r3 32 g, zA cy r4 80 fu, zA cy a1 3 tp, zA cy a2 n f], 8, rfl, rfl, rfl, by decide +kernel⟩ rfl rfl rfl rfl (Nat.le_of_ble_eq_true rfl) hl.1 dX1_advance_32 ⟨Nat.zero_le _, Nat.zero_le _⟩ (fun H locs wd => ?_)
      refine lv_istore (lv' := [(8, .int (iI (2 * k % p2 mm))), (0, .ref r0), (1, .ref a0), (2, .int (iI d)), (3, .ref a2), (4, .int (iI q)), (5, .int (iI (p2 mm))), (6, .int (iI x)), (7, .int (iI k))]) C.1 C.2.1 dX1_advance_35 hl (by decide) rfl (fun ls hl => ?_)
      refine lv_aload_n C.1 C.2.1 dX1_advance_37 rfl (lv_at hl 2 rfl) ?_
      refine lv_iload C.1 C.2.1 dX1_advance_38 (lv_at hl 8 rfl) ?_
      refine z_cvi C wd hA (As := [.int (iI k)]) (rest := []) (ws2 := [zO r0 1 [.int (iI S), .int (iI L), .int (iI N), .int (iI E), .ref r1, .ref r2, .ref r3, .ref r4], zA cy r1 80 fr, zA cy r2 32 fm, zA cy r3 32 g, zA cy r4 80 fu, zO a0 0 [.int (iI mm), .int (iI oo), .ref a1], zA cy a1 3 tp, zA cy a2 n f]) (c_X0_bitInto l D cy cs a0 a1 mm oo k (by omega) (by omega)) (cwV 1 C.2.2.2.2 gX1_advance_X0_bitInto rfl rfl rfl (by decide +kernel) ⟨Nat.le_of_ble_eq_true rfl, Nat.le_of_ble_eq_true rfl⟩) [5] rfl rfl rfl ⟨rfl, [0, 1, 2, 3, 4, 6, 7], [zO r0 1 [.int (iI S), .int (iI L), .int (iI N), .int (iI E), .ref r1, .ref r2, .ref r3, .ref r4], zA cy r1 80 fr, zA cy r2 32 fm, zA cy r3 32 g, zA cy r4 80 fu, zA cy a1 3 tp, zA cy a2 n f], 8, rfl, rfl, rfl, by decide +kernel⟩ rfl rfl rfl rfl (Nat.le_of_ble_eq_true rfl) hl.1 dX1_advance_40 ⟨Nat.zero_le _, Nat.zero_le _⟩ (fun H locs wd => ?_)
      refine lv_istore (lv' := [(9, .int (iI (k / p2 (mm - 1)))), (8, .int (iI (2 * k % p2 mm))), (0, .ref r0), (1, .ref a0), (2, .int (iI d)), (3, .ref a2), (4, .int (iI q)), (5, .int (iI (p2 mm))), (6, .int (iI x)), (7, .int (iI k))]) C.1 C.2.1 dX1_advance_43 hl (by decide) rfl (fun ls hl => ?_)
      refine lv_aload_n C.1 C.2.1 dX1_advance_45 rfl (lv_at hl 2 rfl) ?_
      refine lv_aload_n C.1 C.2.1 dX1_advance_46 rfl (lv_at hl 3 rfl) ?_
      refine lv_iload C.1 C.2.1 dX1_advance_47 (lv_at hl 1 rfl) ?_
      refine lv_iload C.1 C.2.1 dX1_advance_49 (lv_at hl 0 rfl) ?_
      refine lv_aload_n C.1 C.2.1 dX1_advance_51 rfl (lv_at hl 5 rfl) ?_
      refine lv_iload C.1 C.2.1 dX1_advance_52 (lv_at hl 6 rfl) ?_
      refine z_cvi C wd hA (As := [.ref a0, .int (iI (2 * k % p2 mm)), .int (iI (k / p2 (mm - 1))), .ref a2, .int (iI q)]) (rest := []) (ws2 := [zO r0 1 [.int (iI S), .int (iI L), .int (iI N), .int (iI E), .ref r1, .ref r2, .ref r3, .ref r4], zA cy r1 80 fr, zA cy r2 32 fm, zA cy r3 32 g, zA cy r4 80 fu, zO a0 0 [.int (iI mm), .int (iI oo), .ref a1], zA cy a1 3 tp, zA cy a2 n f]) (c_X1_metricOver l D cy cs r0 r1 r2 r3 r4 a0 a1 a2 n S L N E mm oo tp fm f (2 * k % p2 mm) (k / p2 (mm - 1)) q (by omega) (by omega) (by omega) (by omega) (by omega) (by omega) (by omega) (by omega) (by omega) (by omega)) (cwV 5 C.2.2.2.2 gX1_advance_X1_metricOver rfl rfl rfl (by decide +kernel) ⟨Nat.le_of_ble_eq_true rfl, Nat.le_of_ble_eq_true rfl⟩) [0, 2, 5, 6, 7] rfl rfl rfl ⟨rfl, [1, 3, 4], [zA cy r1 80 fr, zA cy r3 32 g, zA cy r4 80 fu], 8, rfl, rfl, rfl, by decide +kernel⟩ rfl rfl rfl rfl (Nat.le_of_ble_eq_true rfl) hl.1 dX1_advance_54 ⟨Nat.zero_le _, Nat.zero_le _⟩ (fun H locs wd => ?_)
      refine z_top (b := vL oo tp fm f q mm k) rfl ?_
      refine lv_istore (lv' := [(10, .int (iI (vL oo tp fm f q mm k))), (9, .int (iI (k / p2 (mm - 1)))), (8, .int (iI (2 * k % p2 mm))), (0, .ref r0), (1, .ref a0), (2, .int (iI d)), (3, .ref a2), (4, .int (iI q)), (5, .int (iI (p2 mm))), (6, .int (iI x)), (7, .int (iI k))]) C.1 C.2.1 dX1_advance_57 hl (by decide) rfl (fun ls hl => ?_)
      refine lv_aload_n C.1 C.2.1 dX1_advance_59 rfl (lv_at hl 3 rfl) ?_
      refine lv_aload_n C.1 C.2.1 dX1_advance_60 rfl (lv_at hl 4 rfl) ?_
      refine lv_iload C.1 C.2.1 dX1_advance_61 (lv_at hl 2 rfl) ?_
      refine z_iconst C dX1_advance_63 ?_
      refine z_iadd C dX1_advance_64 ?_
      refine lv_iload C.1 C.2.1 dX1_advance_65 (lv_at hl 1 rfl) ?_
      refine lv_aload_n C.1 C.2.1 dX1_advance_67 rfl (lv_at hl 6 rfl) ?_
      refine lv_iload C.1 C.2.1 dX1_advance_68 (lv_at hl 7 rfl) ?_
      refine z_cvi C wd hA (As := [.ref a0, .int (iI ((2 * k % p2 mm) + 1)), .int (iI (k / p2 (mm - 1))), .ref a2, .int (iI q)]) (rest := []) (ws2 := [zO r0 1 [.int (iI S), .int (iI L), .int (iI N), .int (iI E), .ref r1, .ref r2, .ref r3, .ref r4], zA cy r1 80 fr, zA cy r2 32 fm, zA cy r3 32 g, zA cy r4 80 fu, zO a0 0 [.int (iI mm), .int (iI oo), .ref a1], zA cy a1 3 tp, zA cy a2 n f]) (c_X1_metricOver l D cy cs r0 r1 r2 r3 r4 a0 a1 a2 n S L N E mm oo tp fm f ((2 * k % p2 mm) + 1) (k / p2 (mm - 1)) q (by omega) (by omega) (by omega) (by omega) (by omega) (by omega) (by omega) (by omega) (by omega) (by omega)) (cwV 5 C.2.2.2.2 gX1_advance_X1_metricOver rfl rfl rfl (by decide +kernel) ⟨Nat.le_of_ble_eq_true rfl, Nat.le_of_ble_eq_true rfl⟩) [0, 2, 5, 6, 7] rfl rfl rfl ⟨rfl, [1, 3, 4], [zA cy r1 80 fr, zA cy r3 32 g, zA cy r4 80 fu], 8, rfl, rfl, rfl, by decide +kernel⟩ rfl rfl rfl rfl (Nat.le_of_ble_eq_true rfl) hl.1 dX1_advance_70 ⟨Nat.zero_le _, Nat.zero_le _⟩ (fun H locs wd => ?_)
      refine z_top (b := vU oo tp fm f q mm k) rfl ?_
      refine lv_istore (lv' := [(11, .int (iI (vU oo tp fm f q mm k))), (10, .int (iI (vL oo tp fm f q mm k))), (9, .int (iI (k / p2 (mm - 1)))), (8, .int (iI (2 * k % p2 mm))), (0, .ref r0), (1, .ref a0), (2, .int (iI d)), (3, .ref a2), (4, .int (iI q)), (5, .int (iI (p2 mm))), (6, .int (iI x)), (7, .int (iI k))]) C.1 C.2.1 dX1_advance_73 hl (by decide) rfl (fun ls hl => ?_)
      refine z_join1 (nL := 13) (D := D) (T := zT cy cs) (A := va_A [zO r0 1 [.int (iI S), .int (iI L), .int (iI N), .int (iI E), .ref r1, .ref r2, .ref r3, .ref r4], zA cy r1 80 fr, zA cy r2 32 fm, zA cy r3 32 fn, zA cy r4 80 fu, zO a0 0 [.int (iI mm), .int (iI oo), .ref a1], zA cy a1 3 tp, zA cy a2 n f] s.heap.size) (H0 := s.heap) (P := fun (u : Int) => (u = uB oo tp fm f q mm k)) (ws := fun (u : Int) => [zO r0 1 [.int (iI S), .int (iI L), .int (iI N), .int (iI E), .ref r1, .ref r2, .ref r3, .ref r4], zA cy r1 80 fr, zA cy r2 32 fm, zA cy r3 32 g, zA cy r4 80 fu, zO a0 0 [.int (iI mm), .int (iI oo), .ref a1], zA cy a1 3 tp, zA cy a2 n f]) (lv := fun (u : Int) => [(0, .ref r0), (1, .ref a0), (2, .int (iI d)), (3, .ref a2), (4, .int (iI q)), (5, .int (iI (p2 mm))), (6, .int (iI x)), (7, .int (iI k)), (8, .int (iI (2 * k % p2 mm))), (9, .int (iI (k / p2 (mm - 1)))), (10, .int (iI (vL oo tp fm f q mm k))), (11, .int (iI (vU oo tp fm f q mm k)))]) (stj := fun (u : Int) => [.int (iI u)]) 99 ?_ (fun jn99 => ?_)
      · skip
        intro u hP99 H locs ls wd hl
        have h99_0 := hP99
        try dsimp only at h99_0
        have wd : Wd D (zT cy cs) _ s.heap s [zO r0 1 [.int (iI S), .int (iI L), .int (iI N), .int (iI E), .ref r1, .ref r2, .ref r3, .ref r4], zA cy r1 80 fr, zA cy r2 32 fm, zA cy r3 32 g, zA cy r4 80 fu, zO a0 0 [.int (iI mm), .int (iI oo), .ref a1], zA cy a1 3 tp, zA cy a2 n f] H locs := wd
        have hl : lv_has ls 13 [(0, .ref r0), (1, .ref a0), (2, .int (iI d)), (3, .ref a2), (4, .int (iI q)), (5, .int (iI (p2 mm))), (6, .int (iI x)), (7, .int (iI k)), (8, .int (iI (2 * k % p2 mm))), (9, .int (iI (k / p2 (mm - 1)))), (10, .int (iI (vL oo tp fm f q mm k))), (11, .int (iI (vU oo tp fm f q mm k)))] := hl
        have hu := uB_or oo tp fm f q mm k
        refine lv_istore (lv' := [(12, .int (iI u)), (0, .ref r0), (1, .ref a0), (2, .int (iI d)), (3, .ref a2), (4, .int (iI q)), (5, .int (iI (p2 mm))), (6, .int (iI x)), (7, .int (iI k)), (8, .int (iI (2 * k % p2 mm))), (9, .int (iI (k / p2 (mm - 1)))), (10, .int (iI (vL oo tp fm f q mm k))), (11, .int (iI (vU oo tp fm f q mm k)))]) C.1 C.2.1 dX1_advance_99 hl (by decide) rfl (fun ls hl => ?_)
        refine z_join1 (nL := 13) (D := D) (T := zT cy cs) (A := va_A [zO r0 1 [.int (iI S), .int (iI L), .int (iI N), .int (iI E), .ref r1, .ref r2, .ref r3, .ref r4], zA cy r1 80 fr, zA cy r2 32 fm, zA cy r3 32 fn, zA cy r4 80 fu, zO a0 0 [.int (iI mm), .int (iI oo), .ref a1], zA cy a1 3 tp, zA cy a2 n f] s.heap.size) (H0 := s.heap) (P := fun (y : Int) => (-1 ≤ y ∧ y ≤ 243) ∧ (y = nmF oo tp fm f q mm k)) (ws := fun (y : Int) => [zO r0 1 [.int (iI S), .int (iI L), .int (iI N), .int (iI E), .ref r1, .ref r2, .ref r3, .ref r4], zA cy r1 80 fr, zA cy r2 32 fm, zA cy r3 32 g, zA cy r4 80 fu, zO a0 0 [.int (iI mm), .int (iI oo), .ref a1], zA cy a1 3 tp, zA cy a2 n f]) (lv := fun (y : Int) => [(0, .ref r0), (1, .ref a0), (2, .int (iI d)), (3, .ref a2), (4, .int (iI q)), (5, .int (iI (p2 mm))), (6, .int (iI x)), (7, .int (iI k)), (12, .int (iI u))]) (stj := fun (y : Int) => [.int (iI y), .int (iI k), .ref r3]) 119 ?_ (fun jn119 => ?_)
        · skip
          intro y hP119 H locs ls wd hl
          obtain ⟨h119_0, h119_1⟩ := hP119
          try dsimp only at h119_0 h119_1
          have wd : Wd D (zT cy cs) _ s.heap s [zO r0 1 [.int (iI S), .int (iI L), .int (iI N), .int (iI E), .ref r1, .ref r2, .ref r3, .ref r4], zA cy r1 80 fr, zA cy r2 32 fm, zA cy r3 32 g, zA cy r4 80 fu, zO a0 0 [.int (iI mm), .int (iI oo), .ref a1], zA cy a1 3 tp, zA cy a2 n f] H locs := wd
          have hl : lv_has ls 13 [(0, .ref r0), (1, .ref a0), (2, .int (iI d)), (3, .ref a2), (4, .int (iI q)), (5, .int (iI (p2 mm))), (6, .int (iI x)), (7, .int (iI k)), (12, .int (iI u))] := hl
          refine z_iast C wd (ws2 := [zO r0 1 [.int (iI S), .int (iI L), .int (iI N), .int (iI E), .ref r1, .ref r2, .ref r3, .ref r4], zA cy r1 80 fr, zA cy r2 32 fm, zA cy r3 32 (uZ g k y), zA cy r4 80 fu, zO a0 0 [.int (iI mm), .int (iI oo), .ref a1], zA cy a1 3 tp, zA cy a2 n f]) 3 rfl (by omega) (by decide) rfl dX1_advance_119 (fun H locs wd => ?_)
          refine lv_iload C.1 C.2.1 dX1_advance_120 (lv_at hl 8 rfl) ?_
          refine z_if_eq C (tgt := 134) dX1_advance_122 (by decide) (by omega) (fun c_4 => ?_) (fun c_4 => ?_)
          · skip
            refine z_iinc C (lv' := [(7, .int (iI (k + 1))), (0, .ref r0), (1, .ref a0), (2, .int (iI d)), (3, .ref a2), (4, .int (iI q)), (5, .int (iI (p2 mm))), (6, .int (iI x)), (12, .int (iI u))]) hl 7 dX1_advance_134 rfl (by decide) rfl (fun ls hl => ?_)
            refine z_goto C (tgt := 22) dX1_advance_137 (by decide) ?_
            exact ih22 x (k + 1) (uZ g k y) ⟨(by omega), (by have e := csum_at (uB oo tp fm f q mm) h22_0.1; rcases hu with hu | hu <;> rw [hu.1] at e <;> omega), (by rw [h22_2, h119_1]; exact cpZ_step (nmF oo tp fm f q mm) fn k h22_0.1)⟩ (by omega) H locs _ wd (lv_sub hl [1, 2, 3, 4, 5, 6, 7, 0] rfl)
          · skip
            refine lv_iload C.1 C.2.1 dX1_advance_125 (lv_at hl 6 rfl) ?_
            refine z_iconst C dX1_advance_127 ?_
            refine lv_iload C.1 C.2.1 dX1_advance_128 (lv_at hl 7 rfl) ?_
            refine z_ishl C (p2 k) dX1_advance_130 (iI_1k h22_0.1 (by omega)) ?_
            refine z_ior C (x + p2 k) dX1_advance_131 (iI_orb hxc.1 hxc.2 h22_0.1) ?_
            refine lv_istore (lv' := [(6, .int (iI (x + p2 k))), (0, .ref r0), (1, .ref a0), (2, .int (iI d)), (3, .ref a2), (4, .int (iI q)), (5, .int (iI (p2 mm))), (7, .int (iI k)), (12, .int (iI u))]) C.1 C.2.1 dX1_advance_132 hl (by decide) rfl (fun ls hl => ?_)
            refine z_iinc C (lv' := [(7, .int (iI (k + 1))), (6, .int (iI (x + p2 k))), (0, .ref r0), (1, .ref a0), (2, .int (iI d)), (3, .ref a2), (4, .int (iI q)), (5, .int (iI (p2 mm))), (12, .int (iI u))]) hl 7 dX1_advance_134 rfl (by decide) rfl (fun ls hl => ?_)
            refine z_goto C (tgt := 22) dX1_advance_137 (by decide) ?_
            exact ih22 (x + p2 k) (k + 1) (uZ g k y) ⟨(by omega), (by have e := csum_at (uB oo tp fm f q mm) h22_0.1; rcases hu with hu | hu <;> rw [hu.1] at e <;> omega), (by rw [h22_2, h119_1]; exact cpZ_step (nmF oo tp fm f q mm) fn k h22_0.1)⟩ (by omega) H locs _ wd (lv_sub hl [2, 3, 4, 5, 6, 7, 1, 0] rfl)
        refine lv_aload_n C.1 C.2.1 dX1_advance_101 rfl (lv_at hl 1 rfl) ?_
        refine z_get C wd (Cn := RX1) (TT := TX1) (N := 8) (ci := 1) iX1 0 rfl rfl 6 (by decide) L18 (fun _ h => h) rfl dX1_advance_102 ?_
        refine lv_iload C.1 C.2.1 dX1_advance_105 (lv_at hl 8 rfl) ?_
        refine lv_iload C.1 C.2.1 dX1_advance_107 (lv_at hl 0 rfl) ?_
        refine z_if_eq C (tgt := 117) dX1_advance_109 (by decide) (by omega) (fun c_5 => ?_) (fun c_5 => ?_)
        · skip
          refine lv_iload C.1 C.2.1 dX1_advance_117 (lv_at hl 11 rfl) ?_
          exact jn119 (vL oo tp fm f q mm k) ⟨(by omega), (by omega)⟩ H locs _ wd (lv_sub hl [1, 2, 3, 4, 5, 6, 7, 8, 0] rfl)
        · skip
          refine lv_iload C.1 C.2.1 dX1_advance_112 (lv_at hl 12 rfl) ?_
          refine z_goto C (tgt := 119) dX1_advance_114 (by decide) ?_
          exact jn119 (vU oo tp fm f q mm k) ⟨(by omega), (by omega)⟩ H locs _ wd (lv_sub hl [1, 2, 3, 4, 5, 6, 7, 8, 0] rfl)
      refine lv_iload C.1 C.2.1 dX1_advance_75 (lv_at hl 0 rfl) ?_
      refine z_iconst C dX1_advance_77 ?_
      refine z_icmp_eq C (tgt := 98) dX1_advance_78 (by decide) (by omega) (fun c_6 => ?_) (fun c_6 => ?_)
      · skip
        refine z_iconst C dX1_advance_98 ?_
        exact jn99 0 (by have hu := uB_or oo tp fm f q mm k; omega) H locs _ wd (lv_sub hl [4, 5, 6, 7, 8, 9, 10, 11, 3, 2, 1, 0] rfl)
      · skip
        refine lv_iload C.1 C.2.1 dX1_advance_81 (lv_at hl 1 rfl) ?_
        refine z_iconst C dX1_advance_83 ?_
        refine z_icmp_eq C (tgt := 94) dX1_advance_84 (by decide) (by omega) (fun c_7 => ?_) (fun c_7 => ?_)
        · skip
          refine z_iconst C dX1_advance_94 ?_
          refine z_goto C (tgt := 99) dX1_advance_95 (by decide) ?_
          exact jn99 1 (by have hu := uB_or oo tp fm f q mm k; omega) H locs _ wd (lv_sub hl [4, 5, 6, 7, 8, 9, 10, 11, 3, 2, 1, 0] rfl)
        · skip
          refine lv_iload C.1 C.2.1 dX1_advance_87 (lv_at hl 0 rfl) ?_
          refine lv_iload C.1 C.2.1 dX1_advance_89 (lv_at hl 1 rfl) ?_
          refine z_icmp_ge C (tgt := 98) dX1_advance_91 (by decide) (by omega) (fun c_8 => ?_) (fun c_8 => ?_)
          · skip
            refine z_iconst C dX1_advance_98 ?_
            exact jn99 0 (by have hu := uB_or oo tp fm f q mm k; omega) H locs _ wd (lv_sub hl [4, 5, 6, 7, 8, 9, 10, 11, 3, 2, 1, 0] rfl)
          · skip
            refine z_iconst C dX1_advance_94 ?_
            refine z_goto C (tgt := 99) dX1_advance_95 (by decide) ?_
            exact jn99 1 (by have hu := uB_or oo tp fm f q mm k; omega) H locs _ wd (lv_sub hl [4, 5, 6, 7, 8, 9, 10, 11, 3, 2, 1, 0] rfl)
  · skip
    exact False.elim (by omega)
set_option maxRecDepth 100000 in
set_option maxHeartbeats 4000000 in
theorem c_X1_reached (l : Launch) (D : va_G) (cy cs : ClassId) (r0 r1 r2 r3 r4 a0 a1 : Nat) (S L N E mm oo : Int) (fm : Int → Int) (hm : 1 ≤ mm ∧ mm ≤ 5) (hS : 0 ≤ S ∧ S ≤ 80) (hme : mtOk fm S) : zCl l D (zT cy cs) yX1_reached wsX1_reached ({ frames := 1, cells := 0, slots := 0, locals := 20 } : Room) [.ref r0, .ref a0] [zO r0 1 [.int (iI S), .int (iI L), .int (iI N), .int (iI E), .ref r1, .ref r2, .ref r3, .ref r4], zA cy r2 32 fm, zO a0 0 [.int (iI mm), .int (iI oo), .ref a1]] (csum (rB fm) (p2 mm).toNat) [zO r0 1 [.int (iI S), .int (iI L), .int (iI N), .int (iI E), .ref r1, .ref r2, .ref r3, .ref r4], zA cy r2 32 fm, zO a0 0 [.int (iI mm), .int (iI oo), .ref a1]] := by
  intro sz
  refine zM_mk (cc := cX1_reached) (maxL := 6) (ret := (some .long)) (own := RX1) (Qc := fun sz => va_Ql (fun r (_ : Unit) => r = lI (csum (rB fm) (p2 mm).toNat)) (fun _ t => zQ D (zT cy cs) (va_A [zO r0 1 [.int (iI S), .int (iI L), .int (iI N), .int (iI E), .ref r1, .ref r2, .ref r3, .ref r4], zA cy r2 32 fm, zO a0 0 [.int (iI mm), .int (iI oo), .ref a1]] sz) [zO r0 1 [.int (iI S), .int (iI L), .int (iI N), .int (iI E), .ref r1, .ref r2, .ref r3, .ref r4], zA cy r2 32 fm, zO a0 0 [.int (iI mm), .int (iI oo), .ref a1]] t) (va_A [zO r0 1 [.int (iI S), .int (iI L), .int (iI N), .int (iI E), .ref r1, .ref r2, .ref r3, .ref r4], zA cy r2 32 fm, zO a0 0 [.int (iI mm), .int (iI oo), .ref a1]] sz)) (by decide) rfl rfl (Nat.le_of_ble_eq_true rfl) rfl sz ?_
  intro p e s m args below meth c ls C hr hlk hnm hl hsz hA wd
  subst hsz
  have hl : lv_has ls 6 [(0, .ref r0), (1, .ref a0)] := hl
  have iX1 : ∀ w ∈ u_ws RX1 TX1 8, w ∈ wsX1_reached := by decide +kernel
  have L15 := C.2.2.2.2 (.fieldLink RX1 15 "LikelyWalks$Reader" "metrics" "[I") (by decide +kernel)
  have hp := p2_all hm.1 hm.2
  refine lv_aload_n C.1 C.2.1 dX1_reached_0 rfl (lv_at hl 1 rfl) ?_
  refine z_cvi C wd hA (As := []) (rest := []) (ws2 := [zO r0 1 [.int (iI S), .int (iI L), .int (iI N), .int (iI E), .ref r1, .ref r2, .ref r3, .ref r4], zA cy r2 32 fm, zO a0 0 [.int (iI mm), .int (iI oo), .ref a1]]) (c_X0_states l D cy cs a0 a1 mm oo (by omega)) (cwV 0 C.2.2.2.2 gX1_reached_X0_states rfl rfl rfl (by decide +kernel) ⟨Nat.le_of_ble_eq_true rfl, Nat.le_of_ble_eq_true rfl⟩) [2] rfl rfl rfl ⟨rfl, [0, 1], [zO r0 1 [.int (iI S), .int (iI L), .int (iI N), .int (iI E), .ref r1, .ref r2, .ref r3, .ref r4], zA cy r2 32 fm], 3, rfl, rfl, rfl, by decide +kernel⟩ rfl rfl rfl rfl (Nat.le_of_ble_eq_true rfl) hl.1 dX1_reached_1 ⟨Nat.zero_le _, Nat.zero_le _⟩ (fun H locs wd => ?_)
  refine lv_istore_n (lv' := [(2, .int (iI (p2 mm))), (0, .ref r0), (1, .ref a0)]) C.1 C.2.1 dX1_reached_4 rfl hl (by decide) rfl (fun ls hl => ?_)
  refine lv_lconst (v := lI 0) C.1 C.2.1 dX1_reached_5 (by decide +kernel) ?_
  refine lv_lstore_n (lv' := [(3, .long (lI 0)), (2, .int (iI (p2 mm))), (0, .ref r0), (1, .ref a0)]) C.1 C.2.1 dX1_reached_6 rfl hl (by decide) rfl (fun ls hl => ?_)
  refine z_iconst C dX1_reached_7 ?_
  refine lv_istore (lv' := [(5, .int (iI 0)), (3, .long (lI 0)), (2, .int (iI (p2 mm))), (0, .ref r0), (1, .ref a0)]) C.1 C.2.1 dX1_reached_8 hl (by decide) rfl (fun ls hl => ?_)
  refine z_loop2 (P := fun (x : Int) (k : Int) => (0 ≤ k ∧ k ≤ p2 mm) ∧ (x = csum (rB fm) k.toNat)) (mu := fun (x : Int) (k : Int) => (p2 mm - k).toNat) (ws := fun (x : Int) (k : Int) => [zO r0 1 [.int (iI S), .int (iI L), .int (iI N), .int (iI E), .ref r1, .ref r2, .ref r3, .ref r4], zA cy r2 32 fm, zO a0 0 [.int (iI mm), .int (iI oo), .ref a1]]) (lv := fun (x : Int) (k : Int) => [(0, .ref r0), (1, .ref a0), (2, .int (iI (p2 mm))), (3, .long (lI x)), (5, .int (iI k))]) 0 0 C ⟨(by omega), rfl⟩ wd (lv_sub hl [3, 4, 2, 1, 0] rfl) ?_
  intro x k hP10 ih10 H locs ls wd hl
  obtain ⟨h10_0, h10_1⟩ := hP10
  try dsimp only at h10_0 h10_1
  have wd : Wd D (zT cy cs) _ s.heap s [zO r0 1 [.int (iI S), .int (iI L), .int (iI N), .int (iI E), .ref r1, .ref r2, .ref r3, .ref r4], zA cy r2 32 fm, zO a0 0 [.int (iI mm), .int (iI oo), .ref a1]] H locs := wd
  have hl : lv_has ls 6 [(0, .ref r0), (1, .ref a0), (2, .int (iI (p2 mm))), (3, .long (lI x)), (5, .int (iI k))] := hl
  have hxc := csum_le (rB_le fm) k.toNat
  rw [← h10_1, Int.toNat_of_nonneg h10_0.1] at hxc
  refine lv_iload C.1 C.2.1 dX1_reached_10 (lv_at hl 4 rfl) ?_
  refine lv_iload_n C.1 C.2.1 dX1_reached_12 rfl (lv_at hl 2 rfl) ?_
  refine z_icmp_ge C (tgt := 40) dX1_reached_13 (by decide) (by omega) (fun c_1 => ?_) (fun c_1 => ?_)
  · skip
    refine lv_lload_n C.1 C.2.1 dX1_reached_40 rfl (lv_at hl 3 rfl) ?_
    exact z_lret C hr hlk wd (by rw [h10_1, show k = p2 mm by omega]) dX1_reached_41
  · skip
    refine lv_aload_n C.1 C.2.1 dX1_reached_16 rfl (lv_at hl 0 rfl) ?_
    refine z_get C wd (Cn := RX1) (TT := TX1) (N := 8) (ci := 1) iX1 0 rfl rfl 5 (by decide) L15 (fun _ h => h) rfl dX1_reached_17 ?_
    refine lv_iload C.1 C.2.1 dX1_reached_20 (lv_at hl 4 rfl) ?_
    refine z_iald C wd 1 rfl (by omega) (by decide) dX1_reached_22 ?_
    have hfk := hme k h10_0.1 (by omega)
    refine z_iconst C dX1_reached_23 ?_
    refine z_icmp_eq C (tgt := 34) dX1_reached_24 (by decide) (by omega) (fun c_2 => ?_) (fun c_2 => ?_)
    · skip
      refine z_iinc C (lv' := [(5, .int (iI (k + 1))), (0, .ref r0), (1, .ref a0), (2, .int (iI (p2 mm))), (3, .long (lI x))]) hl 4 dX1_reached_34 rfl (by decide) rfl (fun ls hl => ?_)
      refine z_goto C (tgt := 10) dX1_reached_37 (by decide) ?_
      exact ih10 x (k + 1) ⟨(by omega), (by have e := csum_at (rB fm) h10_0.1; have e2 : rB fm k = if fm k = -1 then 0 else 1 := rfl; first | (rw [if_pos (by omega)] at e2; rw [e2] at e; omega) | (rw [if_neg (by omega)] at e2; rw [e2] at e; omega))⟩ (by omega) H locs _ wd (lv_sub hl [1, 2, 3, 4, 0] rfl)
    · skip
      refine lv_lload_n C.1 C.2.1 dX1_reached_27 rfl (lv_at hl 3 rfl) ?_
      refine lv_lconst (v := lI 1) C.1 C.2.1 dX1_reached_28 (by decide +kernel) ?_
      refine lv_iload C.1 C.2.1 dX1_reached_29 (lv_at hl 4 rfl) ?_
      refine lv_lshl (v := lI (p2 k)) C.1 C.2.1 dX1_reached_31 (lI_1k h10_0.1 (by omega)) ?_
      refine z_lor C (x + p2 k) dX1_reached_32 (lI_orb hxc.1 hxc.2 h10_0.1) ?_
      refine lv_lstore_n (lv' := [(3, .long (lI (x + p2 k))), (0, .ref r0), (1, .ref a0), (2, .int (iI (p2 mm))), (5, .int (iI k))]) C.1 C.2.1 dX1_reached_33 rfl hl (by decide) rfl (fun ls hl => ?_)
      refine z_iinc C (lv' := [(5, .int (iI (k + 1))), (3, .long (lI (x + p2 k))), (0, .ref r0), (1, .ref a0), (2, .int (iI (p2 mm)))]) hl 4 dX1_reached_34 rfl (by decide) rfl (fun ls hl => ?_)
      refine z_goto C (tgt := 10) dX1_reached_37 (by decide) ?_
      exact ih10 (x + p2 k) (k + 1) ⟨(by omega), (by have e := csum_at (rB fm) h10_0.1; have e2 : rB fm k = if fm k = -1 then 0 else 1 := rfl; first | (rw [if_pos (by omega)] at e2; rw [e2] at e; omega) | (rw [if_neg (by omega)] at e2; rw [e2] at e; omega))⟩ (by omega) H locs _ wd (lv_sub hl [2, 3, 4, 1, 0] rfl)
end
section
section ZY
variable {p : Program} {l : Launch} {e : Env} {R : Room} {s : State} {m : MethodId} {args : Array Value} {below : List Frame} {meth : Method} {c : Code} {H : Heap} {locs : List Loc} {cells slots : Nat} {Q : State → Prop} {cc : ByteArray} {nL : Nat} {Ts : List Cond} {own : String}
variable {pc : Nat} {ls : Array Slot} {rest st : List Value} {D : va_G} {A : Nat → Prop} {H0 : Heap} {ws ws2 : va_W} {cy cs : ClassId}
def zU (f : Nat → Option Nat) (i : Int) (v : Nat) : Nat → Option Nat := fun j => if (j : Int) = i then some v else f j
theorem z_aald (C : CallFix p m c cc nL s args Ts own) (wd : Wd D (zT cy cs) A H0 s ws H locs) (q0 : Nat) {a n v : Nat} {f : Nat → Option Nat} (he : ws[q0]? = some (zR cs a n f)) {i : Int} (hi : 0 ≤ i ∧ i < (n : Int)) (hn : n < 2147483648) (hv : f i.toNat = some v) (hdg : decode cc pc = .ok (.aaload, 1))
    (k : W p l e R s m args below meth c H locs cells slots Q (F0 m (pc + 1) ls (.ref v :: rest))) : W p l e R s m args below meth c H locs cells slots Q (F0 m pc ls (.int (iI i) :: .ref a :: rest)) := by
  refine va_aldq (f := f) (C := "LikelyWalks$State") C.1 C.2.1 wd.2.2.2 wd.1 q0 1 he rfl (iI_idx hi.1 hi.2 hn).1 hdg ?_
  rw [(iI_idx hi.1 hi.2 hn).2, hv]
  exact k
theorem z_aast (C : CallFix p m c cc nL s args Ts own) (wd : Wd D (zT cy cs) A H0 s ws H locs) (q0 qk : Nat) {a n v : Nat} {vs : List Value} {f : Nat → Option Nat} (he : ws[q0]? = some (zR cs a n f)) (hv : ws[qk]? = some (zO v 3 vs)) {i : Int} (hi : 0 ≤ i ∧ i < (n : Int)) (hn : n < 2147483648) (hs : ws.set q0 (zR cs a n (zU f i v)) = ws2) (hdg : decode cc pc = .ok (.aastore, 1))
    (k : ∀ (H : Heap) (locs : List Loc), Wd D (zT cy cs) A H0 s ws2 H locs → W p l e R s m args below meth c H locs cells slots Q (F0 m (pc + 1) ls rest)) : W p l e R s m args below meth c H locs cells slots Q (F0 m pc ls (.ref v :: .int (iI i) :: .ref a :: rest)) := by
  have e0 : ((a, .inl (cs, n, .inr (.inr (.inr (.inr (va_up f (iI i).toNatClampNeg (some v))))))) : Nat × va_E) = zR cs a n (zU f i v) := by
    have e9 : va_up f i.toNat (some v) = zU f i v := by
      funext j
      unfold va_up zU
      by_cases h : j = i.toNat
      · rw [if_pos h, if_pos (by omega)]
      · rw [if_neg h, if_neg (by omega)]
    unfold zR
    rw [(iI_idx hi.1 hi.2 hn).2, e9]
  refine va_astq (f := f) (r := (RX3, TX3, 4)) C.1 C.2.1 wd.2.2.2 wd.1 wd.2.1 wd.2.2.1 q0 1 qk 3 he rfl hv rfl (iI_idx hi.1 hi.2 hn).1 hdg (fun H1 locs1 hP hD hS => k H1 locs1 ⟨?_, ?_, hS, wd.2.2.2⟩)
  · rw [e0, hs] at hP
    exact hP
  · rw [e0, hs] at hD
    exact hD
theorem zR_at {D : va_G} {cl : List vw_C} {cy : ClassId} {a n : Nat} {f g : Nat → Option Nat} {H : Heap} (h : va_at D cl (zR cy a n f) H) (e : ∀ k : Nat, k < n → f k = g k) : va_at D cl (zR cy a n g) H := by
  have h1 : H[a]? = some (vp_cell cy (n, .inr (.inr (.inr (.inr f))))) := h
  show H[a]? = some (vp_cell cy (n, .inr (.inr (.inr (.inr g)))))
  rw [h1]
  simp only [vp_cell, arrV]
  congr 3
  funext j
  rw [e j.val j.isLt]
theorem z_cellR (wd : Wd D (zT cy cs) A H0 s ws H locs) (q0 : Nat) {a n : Nat} {f g : Nat → Option Nat} (he : ws[q0]? = some (zR cs a n f)) (e : ∀ k : Nat, k < n → f k = g k) (hs : ws.set q0 (zR cs a n g) = ws2) : Wd D (zT cy cs) A H0 s ws2 H locs := by
  have h1 : (a, (zR cs a n g).2) = zR cs a n g := rfl
  have h2 := wd.1.set (e := (zR cs a n g).2) wd.2.1 he (zR_at (wd.1 q0 _ he) e) (fun _ _ => rfl)
  have h3 := wd.2.1.set (e := (zR cs a n g).2) he
  rw [h1, hs] at h2 h3
  exact ⟨h2, h3, wd.2.2.1, wd.2.2.2⟩
end ZY
/-- a row of a state, as a slice of the row of all its numbers -/
def sl (M : Int → Int) (a : Int) : Int → Int := fun k => M (a + k)
/-- the array of the past: the place that is taken next holds x, the others u, v, w in their order -/
def afF (t : Int) (x u v w : Nat) : Nat → Option Nat := fun j =>
  if (j : Int) = t then some x else if (if (j : Int) < t then (j : Int) else (j : Int) - 1) = 0 then some u else if (if (j : Int) < t then (j : Int) else (j : Int) - 1) = 1 then some v else some w
theorem afF_t (t : Int) (x u v w : Nat) (h : 0 ≤ t) : afF t x u v w t.toNat = some x := by
  unfold afF
  rw [if_pos (by omega)]
theorem afF_0 (x u v w : Nat) : afF 0 x u v w 0 = some x ∧ afF 0 x u v w 1 = some u ∧ afF 0 x u v w 2 = some v ∧ afF 0 x u v w 3 = some w := ⟨rfl, rfl, rfl, rfl⟩
theorem afF_3 (x u v w : Nat) : afF 3 x u v w 0 = some u ∧ afF 3 x u v w 1 = some v ∧ afF 3 x u v w 2 = some w ∧ afF 3 x u v w 3 = some x := ⟨rfl, rfl, rfl, rfl⟩
theorem afF_r (x u v w : Nat) (f : Nat → Option Nat) (h0 : f 0 = some u) (h1 : f 1 = some v) (h2 : f 2 = some w) (h3 : f 3 = some x) : ∀ k : Nat, k < 4 → f k = afF 3 x u v w k
  | 0, _ => h0
  | 1, _ => h1
  | 2, _ => h2
  | 3, _ => h3
/-- the place that a record takes; where it lies behind it; how many are kept then -/
def tg (n : Int) : Int := if n < 4 then n else 0
def tg2 (n : Int) : Int := if n < 4 then n else 3
def pn (n : Int) : Int := if n < 4 then n + 1 else 4
def mn (a b : Int) : Int := if b < a then b else a
section ZY2
variable {p : Program} {l : Launch} {e : Env} {R : Room} {s : State} {m : MethodId} {args : Array Value} {below : List Frame} {meth : Method} {c : Code} {H : Heap} {locs : List Loc} {cells slots : Nat} {Q : State → Prop} {cc : ByteArray} {nL : Nat} {Ts : List Cond} {own : String}
variable {pc : Nat} {ls : Array Slot} {rest st : List Value}
theorem z_mmin (C : CallFix p m c cc nL s args Ts own) (hsz : ls.size = nL) {index : Nat} (hlink : (Cond.methodLink own index Lib.Math.min.name).before args s = true) (hstat : (Cond.static Lib.Math.min.name).before args s = true) (hini : (Cond.initialized "java/lang/Math").before args s = true) (hcode : (Cond.code Lib.Math.min.name Lib.Math.min.code 2 (some .int)).before args s = true) (hfr : 1 ≤ R.frames) (hlo : (rest.map fun v => v.category).sum + 13 ≤ R.locals) (hc : cells ≤ R.cells ∧ slots ≤ R.slots) {a b : Int} (r : (-2147483648 ≤ a ∧ a < 2147483648) ∧ -2147483648 ≤ b ∧ b < 2147483648) (hdg : decode cc pc = .ok (.invokestatic index, 3))
    (k : W p l e R s m args below meth c H locs cells slots Q (F0 m (pc + 3) ls (.int (iI (mn a b)) :: rest))) : W p l e R s m args below meth c H locs cells slots Q (F0 m pc ls (.int (iI b) :: .int (iI a) :: rest)) := by
  refine va_mmin C.1 C.2.1 (by rw [C.2.2.1, hsz]) C.2.2.2.1 hlink hstat hini hcode hfr hlo hc.1 hc.2 hdg ?_
  have e0 : (if iI b < iI a then iI b else iI a) = iI (mn a b) := by
    have h := iI_lt r.2 r.1
    unfold mn
    by_cases hlt : b < a
    · rw [if_pos hlt, if_pos (h.mpr hlt)]
    · rw [if_neg hlt, if_neg (fun q => hlt (h.mp q))]
  rw [e0]
  exact k
end ZY2
theorem mn_le (a b : Int) : mn a b ≤ a ∧ mn a b ≤ b ∧ (mn a b = a ∨ mn a b = b) := by unfold mn; split <;> omega
end
section
set_option maxRecDepth 100000 in
set_option maxHeartbeats 4000000 in
theorem c_X3_copyFrom (l : Launch) (D : va_G) (cy cs : ClassId) (d0x a0x a1x s0x s1x s2x s3x r0x r1x r2x r3x r4x : Nat) (Lx : Int) (Mx ux nx : Int → Int) (d0 a0 a1 s0 s1 s2 s3 r0 r1 r2 r3 r4 : Nat) (L : Int) (M fu fn : Int → Int) (ht : tpOk (sl M 2)) (hoT : M 1 = oT (M 4)) (hE : M 11 = 0 ∨ M 11 = 1) : zCv l D (zT cy cs) yX3_copyFrom wsX3_copyFrom ({ frames := 2, cells := 0, slots := 0, locals := 45 } : Room) [.ref d0x, .ref d0] [zO d0x 3 [.int (iI (Mx 5)), .ref a0x, .ref s0x, .ref r0x], zO a0x 0 [.int (iI (Mx 0)), .int (iI (Mx 1)), .ref a1x], zA cy a1x 3 (sl Mx 2), zO s0x 2 [.int (iI (Mx 6)), .int (iI (Mx 7)), .ref s1x, .ref s2x, .ref s3x], zA cy s1x 80 (sl Mx 12), zA cy s2x 240 (sl Mx 92), zA cy s3x 240 (sl Mx 332), zO r0x 1 [.int (iI (Mx 9)), .int (iI Lx), .int (iI (Mx 10)), .int (iI (Mx 11)), .ref r1x, .ref r2x, .ref r3x, .ref r4x], zA cy r1x 80 (sl Mx 604), zA cy r2x 32 (sl Mx 572), zA cy r3x 32 nx, zA cy r4x 80 ux, zO d0 3 [.int (iI (M 5)), .ref a0, .ref s0, .ref r0], zO a0 0 [.int (iI (M 0)), .int (iI (M 1)), .ref a1], zA cy a1 3 (sl M 2), zO s0 2 [.int (iI (M 6)), .int (iI (M 7)), .ref s1, .ref s2, .ref s3], zA cy s1 80 (sl M 12), zA cy s2 240 (sl M 92), zA cy s3 240 (sl M 332), zO r0 1 [.int (iI (M 9)), .int (iI L), .int (iI (M 10)), .int (iI (M 11)), .ref r1, .ref r2, .ref r3, .ref r4], zA cy r1 80 (sl M 604), zA cy r2 32 (sl M 572), zA cy r3 32 fn, zA cy r4 80 fu] [zO d0x 3 [.int (iI (M 5)), .ref a0x, .ref s0x, .ref r0x], zO a0x 0 [.int (iI (M 0)), .int (iI (M 1)), .ref a1x], zA cy a1x 3 (sl M 2), zO s0x 2 [.int (iI (M 6)), .int (iI (M 7)), .ref s1x, .ref s2x, .ref s3x], zA cy s1x 80 (sl M 12), zA cy s2x 240 (sl M 92), zA cy s3x 240 (sl M 332), zO r0x 1 [.int (iI (M 9)), .int (iI L), .int (iI (M 10)), .int (iI (M 11)), .ref r1x, .ref r2x, .ref r3x, .ref r4x], zA cy r1x 80 (sl M 604), zA cy r2x 32 (sl M 572), zA cy r3x 32 nx, zA cy r4x 80 fu, zO d0 3 [.int (iI (M 5)), .ref a0, .ref s0, .ref r0], zO a0 0 [.int (iI (M 0)), .int (iI (M 1)), .ref a1], zA cy a1 3 (sl M 2), zO s0 2 [.int (iI (M 6)), .int (iI (M 7)), .ref s1, .ref s2, .ref s3], zA cy s1 80 (sl M 12), zA cy s2 240 (sl M 92), zA cy s3 240 (sl M 332), zO r0 1 [.int (iI (M 9)), .int (iI L), .int (iI (M 10)), .int (iI (M 11)), .ref r1, .ref r2, .ref r3, .ref r4], zA cy r1 80 (sl M 604), zA cy r2 32 (sl M 572), zA cy r3 32 fn, zA cy r4 80 fu] := by
  intro sz
  refine zM_mk (cc := cX3_copyFrom) (maxL := 2) (ret := none) (own := RX3) (Qc := fun sz => va_Qv (fun (_ : Unit) => True) (fun _ t => zQ D (zT cy cs) (va_A [zO d0x 3 [.int (iI (Mx 5)), .ref a0x, .ref s0x, .ref r0x], zO a0x 0 [.int (iI (Mx 0)), .int (iI (Mx 1)), .ref a1x], zA cy a1x 3 (sl Mx 2), zO s0x 2 [.int (iI (Mx 6)), .int (iI (Mx 7)), .ref s1x, .ref s2x, .ref s3x], zA cy s1x 80 (sl Mx 12), zA cy s2x 240 (sl Mx 92), zA cy s3x 240 (sl Mx 332), zO r0x 1 [.int (iI (Mx 9)), .int (iI Lx), .int (iI (Mx 10)), .int (iI (Mx 11)), .ref r1x, .ref r2x, .ref r3x, .ref r4x], zA cy r1x 80 (sl Mx 604), zA cy r2x 32 (sl Mx 572), zA cy r3x 32 nx, zA cy r4x 80 ux, zO d0 3 [.int (iI (M 5)), .ref a0, .ref s0, .ref r0], zO a0 0 [.int (iI (M 0)), .int (iI (M 1)), .ref a1], zA cy a1 3 (sl M 2), zO s0 2 [.int (iI (M 6)), .int (iI (M 7)), .ref s1, .ref s2, .ref s3], zA cy s1 80 (sl M 12), zA cy s2 240 (sl M 92), zA cy s3 240 (sl M 332), zO r0 1 [.int (iI (M 9)), .int (iI L), .int (iI (M 10)), .int (iI (M 11)), .ref r1, .ref r2, .ref r3, .ref r4], zA cy r1 80 (sl M 604), zA cy r2 32 (sl M 572), zA cy r3 32 fn, zA cy r4 80 fu] sz) [zO d0x 3 [.int (iI (M 5)), .ref a0x, .ref s0x, .ref r0x], zO a0x 0 [.int (iI (M 0)), .int (iI (M 1)), .ref a1x], zA cy a1x 3 (sl M 2), zO s0x 2 [.int (iI (M 6)), .int (iI (M 7)), .ref s1x, .ref s2x, .ref s3x], zA cy s1x 80 (sl M 12), zA cy s2x 240 (sl M 92), zA cy s3x 240 (sl M 332), zO r0x 1 [.int (iI (M 9)), .int (iI L), .int (iI (M 10)), .int (iI (M 11)), .ref r1x, .ref r2x, .ref r3x, .ref r4x], zA cy r1x 80 (sl M 604), zA cy r2x 32 (sl M 572), zA cy r3x 32 nx, zA cy r4x 80 fu, zO d0 3 [.int (iI (M 5)), .ref a0, .ref s0, .ref r0], zO a0 0 [.int (iI (M 0)), .int (iI (M 1)), .ref a1], zA cy a1 3 (sl M 2), zO s0 2 [.int (iI (M 6)), .int (iI (M 7)), .ref s1, .ref s2, .ref s3], zA cy s1 80 (sl M 12), zA cy s2 240 (sl M 92), zA cy s3 240 (sl M 332), zO r0 1 [.int (iI (M 9)), .int (iI L), .int (iI (M 10)), .int (iI (M 11)), .ref r1, .ref r2, .ref r3, .ref r4], zA cy r1 80 (sl M 604), zA cy r2 32 (sl M 572), zA cy r3 32 fn, zA cy r4 80 fu] t) (va_A [zO d0x 3 [.int (iI (Mx 5)), .ref a0x, .ref s0x, .ref r0x], zO a0x 0 [.int (iI (Mx 0)), .int (iI (Mx 1)), .ref a1x], zA cy a1x 3 (sl Mx 2), zO s0x 2 [.int (iI (Mx 6)), .int (iI (Mx 7)), .ref s1x, .ref s2x, .ref s3x], zA cy s1x 80 (sl Mx 12), zA cy s2x 240 (sl Mx 92), zA cy s3x 240 (sl Mx 332), zO r0x 1 [.int (iI (Mx 9)), .int (iI Lx), .int (iI (Mx 10)), .int (iI (Mx 11)), .ref r1x, .ref r2x, .ref r3x, .ref r4x], zA cy r1x 80 (sl Mx 604), zA cy r2x 32 (sl Mx 572), zA cy r3x 32 nx, zA cy r4x 80 ux, zO d0 3 [.int (iI (M 5)), .ref a0, .ref s0, .ref r0], zO a0 0 [.int (iI (M 0)), .int (iI (M 1)), .ref a1], zA cy a1 3 (sl M 2), zO s0 2 [.int (iI (M 6)), .int (iI (M 7)), .ref s1, .ref s2, .ref s3], zA cy s1 80 (sl M 12), zA cy s2 240 (sl M 92), zA cy s3 240 (sl M 332), zO r0 1 [.int (iI (M 9)), .int (iI L), .int (iI (M 10)), .int (iI (M 11)), .ref r1, .ref r2, .ref r3, .ref r4], zA cy r1 80 (sl M 604), zA cy r2 32 (sl M 572), zA cy r3 32 fn, zA cy r4 80 fu] sz)) (by decide) rfl rfl (Nat.le_of_ble_eq_true rfl) rfl sz ?_
  intro p e s m args below meth c ls C hr hlk hnm hl hsz hA wd
  subst hsz
  have hl : lv_has ls 2 [(0, .ref d0x), (1, .ref d0)] := hl
  have iX3 : ∀ w ∈ u_ws RX3 TX3 4, w ∈ wsX3_copyFrom := by decide +kernel
  have L7 := C.2.2.2.2 (.fieldLink RX3 7 "LikelyWalks$State" "depth" "I") (by decide +kernel)
  have L16 := C.2.2.2.2 (.fieldLink RX3 16 "LikelyWalks$State" "code" "LLikelyWalks$Code;") (by decide +kernel)
  have L23 := C.2.2.2.2 (.fieldLink RX3 23 "LikelyWalks$State" "sender" "LLikelyWalks$Sender;") (by decide +kernel)
  have L30 := C.2.2.2.2 (.fieldLink RX3 30 "LikelyWalks$State" "reader" "LLikelyWalks$Reader;") (by decide +kernel)
  refine lv_aload_n C.1 C.2.1 dX3_copyFrom_0 rfl (lv_at hl 0 rfl) ?_
  refine lv_aload_n C.1 C.2.1 dX3_copyFrom_1 rfl (lv_at hl 1 rfl) ?_
  refine z_get C wd (Cn := RX3) (TT := TX3) (N := 4) (ci := 3) iX3 12 rfl rfl 0 (by decide) L7 (fun _ h => h) rfl dX3_copyFrom_2 ?_
  refine z_put C wd (Cn := RX3) (TT := TX3) (N := 4) (ci := 3) (ws2 := [zO d0x 3 [.int (iI (M 5)), .ref a0x, .ref s0x, .ref r0x], zO a0x 0 [.int (iI (Mx 0)), .int (iI (Mx 1)), .ref a1x], zA cy a1x 3 (sl Mx 2), zO s0x 2 [.int (iI (Mx 6)), .int (iI (Mx 7)), .ref s1x, .ref s2x, .ref s3x], zA cy s1x 80 (sl Mx 12), zA cy s2x 240 (sl Mx 92), zA cy s3x 240 (sl Mx 332), zO r0x 1 [.int (iI (Mx 9)), .int (iI Lx), .int (iI (Mx 10)), .int (iI (Mx 11)), .ref r1x, .ref r2x, .ref r3x, .ref r4x], zA cy r1x 80 (sl Mx 604), zA cy r2x 32 (sl Mx 572), zA cy r3x 32 nx, zA cy r4x 80 ux, zO d0 3 [.int (iI (M 5)), .ref a0, .ref s0, .ref r0], zO a0 0 [.int (iI (M 0)), .int (iI (M 1)), .ref a1], zA cy a1 3 (sl M 2), zO s0 2 [.int (iI (M 6)), .int (iI (M 7)), .ref s1, .ref s2, .ref s3], zA cy s1 80 (sl M 12), zA cy s2 240 (sl M 92), zA cy s3 240 (sl M 332), zO r0 1 [.int (iI (M 9)), .int (iI L), .int (iI (M 10)), .int (iI (M 11)), .ref r1, .ref r2, .ref r3, .ref r4], zA cy r1 80 (sl M 604), zA cy r2 32 (sl M 572), zA cy r3 32 fn, zA cy r4 80 fu]) iX3 tyX3 tyX3_ok nmX3 0 rfl rfl 0 (by decide) L7 (fun _ h => h) rfl (ty := .int) (by decide +kernel) rfl rfl (Nat.le_of_ble_eq_true rfl) rfl dX3_copyFrom_5 (fun H locs wd => ?_)
  refine lv_aload_n C.1 C.2.1 dX3_copyFrom_8 rfl (lv_at hl 0 rfl) ?_
  refine z_get C wd (Cn := RX3) (TT := TX3) (N := 4) (ci := 3) iX3 0 rfl rfl 1 (by decide) L16 (fun _ h => h) rfl dX3_copyFrom_9 ?_
  refine lv_aload_n C.1 C.2.1 dX3_copyFrom_12 rfl (lv_at hl 1 rfl) ?_
  refine z_get C wd (Cn := RX3) (TT := TX3) (N := 4) (ci := 3) iX3 12 rfl rfl 1 (by decide) L16 (fun _ h => h) rfl dX3_copyFrom_13 ?_
  refine z_cvv C wd hA (As := [.ref a0]) (rest := []) (ws2 := [zO d0x 3 [.int (iI (M 5)), .ref a0x, .ref s0x, .ref r0x], zO a0x 0 [.int (iI (M 0)), .int (iI (M 1)), .ref a1x], zA cy a1x 3 (sl M 2), zO s0x 2 [.int (iI (Mx 6)), .int (iI (Mx 7)), .ref s1x, .ref s2x, .ref s3x], zA cy s1x 80 (sl Mx 12), zA cy s2x 240 (sl Mx 92), zA cy s3x 240 (sl Mx 332), zO r0x 1 [.int (iI (Mx 9)), .int (iI Lx), .int (iI (Mx 10)), .int (iI (Mx 11)), .ref r1x, .ref r2x, .ref r3x, .ref r4x], zA cy r1x 80 (sl Mx 604), zA cy r2x 32 (sl Mx 572), zA cy r3x 32 nx, zA cy r4x 80 ux, zO d0 3 [.int (iI (M 5)), .ref a0, .ref s0, .ref r0], zO a0 0 [.int (iI (M 0)), .int (iI (M 1)), .ref a1], zA cy a1 3 (sl M 2), zO s0 2 [.int (iI (M 6)), .int (iI (M 7)), .ref s1, .ref s2, .ref s3], zA cy s1 80 (sl M 12), zA cy s2 240 (sl M 92), zA cy s3 240 (sl M 332), zO r0 1 [.int (iI (M 9)), .int (iI L), .int (iI (M 10)), .int (iI (M 11)), .ref r1, .ref r2, .ref r3, .ref r4], zA cy r1 80 (sl M 604), zA cy r2 32 (sl M 572), zA cy r3 32 fn, zA cy r4 80 fu]) (c_X0_copyFrom l D cy cs a0x a1x a0 a1 (Mx 0) (Mx 1) (M 0) (M 1) (sl Mx 2) (sl M 2) ht hoT) (cwV 1 C.2.2.2.2 gX3_copyFrom_X0_copyFrom rfl rfl rfl (by decide +kernel) ⟨Nat.le_of_ble_eq_true rfl, Nat.le_of_ble_eq_true rfl⟩) [1, 2, 13, 14] rfl rfl rfl ⟨rfl, [0, 3, 4, 5, 6, 7, 8, 9, 10, 11, 12, 15, 16, 17, 18, 19, 20, 21, 22, 23], [zO d0x 3 [.int (iI (M 5)), .ref a0x, .ref s0x, .ref r0x], zO s0x 2 [.int (iI (Mx 6)), .int (iI (Mx 7)), .ref s1x, .ref s2x, .ref s3x], zA cy s1x 80 (sl Mx 12), zA cy s2x 240 (sl Mx 92), zA cy s3x 240 (sl Mx 332), zO r0x 1 [.int (iI (Mx 9)), .int (iI Lx), .int (iI (Mx 10)), .int (iI (Mx 11)), .ref r1x, .ref r2x, .ref r3x, .ref r4x], zA cy r1x 80 (sl Mx 604), zA cy r2x 32 (sl Mx 572), zA cy r3x 32 nx, zA cy r4x 80 ux, zO d0 3 [.int (iI (M 5)), .ref a0, .ref s0, .ref r0], zO s0 2 [.int (iI (M 6)), .int (iI (M 7)), .ref s1, .ref s2, .ref s3], zA cy s1 80 (sl M 12), zA cy s2 240 (sl M 92), zA cy s3 240 (sl M 332), zO r0 1 [.int (iI (M 9)), .int (iI L), .int (iI (M 10)), .int (iI (M 11)), .ref r1, .ref r2, .ref r3, .ref r4], zA cy r1 80 (sl M 604), zA cy r2 32 (sl M 572), zA cy r3 32 fn, zA cy r4 80 fu], 24, rfl, rfl, rfl, by decide +kernel⟩ rfl rfl rfl rfl (Nat.le_of_ble_eq_true rfl) hl.1 dX3_copyFrom_16 ⟨Nat.zero_le _, Nat.zero_le _⟩ (fun H locs wd => ?_)
  refine lv_aload_n C.1 C.2.1 dX3_copyFrom_19 rfl (lv_at hl 0 rfl) ?_
  refine z_get C wd (Cn := RX3) (TT := TX3) (N := 4) (ci := 3) iX3 0 rfl rfl 2 (by decide) L23 (fun _ h => h) rfl dX3_copyFrom_20 ?_
  refine lv_aload_n C.1 C.2.1 dX3_copyFrom_23 rfl (lv_at hl 1 rfl) ?_
  refine z_get C wd (Cn := RX3) (TT := TX3) (N := 4) (ci := 3) iX3 12 rfl rfl 2 (by decide) L23 (fun _ h => h) rfl dX3_copyFrom_24 ?_
  refine z_cvv C wd hA (As := [.ref s0]) (rest := []) (ws2 := [zO d0x 3 [.int (iI (M 5)), .ref a0x, .ref s0x, .ref r0x], zO a0x 0 [.int (iI (M 0)), .int (iI (M 1)), .ref a1x], zA cy a1x 3 (sl M 2), zO s0x 2 [.int (iI (M 6)), .int (iI (M 7)), .ref s1x, .ref s2x, .ref s3x], zA cy s1x 80 (sl M 12), zA cy s2x 240 (sl M 92), zA cy s3x 240 (sl M 332), zO r0x 1 [.int (iI (Mx 9)), .int (iI Lx), .int (iI (Mx 10)), .int (iI (Mx 11)), .ref r1x, .ref r2x, .ref r3x, .ref r4x], zA cy r1x 80 (sl Mx 604), zA cy r2x 32 (sl Mx 572), zA cy r3x 32 nx, zA cy r4x 80 ux, zO d0 3 [.int (iI (M 5)), .ref a0, .ref s0, .ref r0], zO a0 0 [.int (iI (M 0)), .int (iI (M 1)), .ref a1], zA cy a1 3 (sl M 2), zO s0 2 [.int (iI (M 6)), .int (iI (M 7)), .ref s1, .ref s2, .ref s3], zA cy s1 80 (sl M 12), zA cy s2 240 (sl M 92), zA cy s3 240 (sl M 332), zO r0 1 [.int (iI (M 9)), .int (iI L), .int (iI (M 10)), .int (iI (M 11)), .ref r1, .ref r2, .ref r3, .ref r4], zA cy r1 80 (sl M 604), zA cy r2 32 (sl M 572), zA cy r3 32 fn, zA cy r4 80 fu]) (c_X2_copyFrom l D cy cs s0x s1x s2x s3x s0 s1 s2 s3 (Mx 6) (Mx 7) (M 6) (M 7) (sl Mx 12) (sl Mx 92) (sl Mx 332) (sl M 12) (sl M 92) (sl M 332) ) (cwV 1 C.2.2.2.2 gX3_copyFrom_X2_copyFrom rfl rfl rfl (by decide +kernel) ⟨Nat.le_of_ble_eq_true rfl, Nat.le_of_ble_eq_true rfl⟩) [3, 4, 5, 6, 15, 16, 17, 18] rfl rfl rfl ⟨rfl, [0, 1, 2, 7, 8, 9, 10, 11, 12, 13, 14, 19, 20, 21, 22, 23], [zO d0x 3 [.int (iI (M 5)), .ref a0x, .ref s0x, .ref r0x], zO a0x 0 [.int (iI (M 0)), .int (iI (M 1)), .ref a1x], zA cy a1x 3 (sl M 2), zO r0x 1 [.int (iI (Mx 9)), .int (iI Lx), .int (iI (Mx 10)), .int (iI (Mx 11)), .ref r1x, .ref r2x, .ref r3x, .ref r4x], zA cy r1x 80 (sl Mx 604), zA cy r2x 32 (sl Mx 572), zA cy r3x 32 nx, zA cy r4x 80 ux, zO d0 3 [.int (iI (M 5)), .ref a0, .ref s0, .ref r0], zO a0 0 [.int (iI (M 0)), .int (iI (M 1)), .ref a1], zA cy a1 3 (sl M 2), zO r0 1 [.int (iI (M 9)), .int (iI L), .int (iI (M 10)), .int (iI (M 11)), .ref r1, .ref r2, .ref r3, .ref r4], zA cy r1 80 (sl M 604), zA cy r2 32 (sl M 572), zA cy r3 32 fn, zA cy r4 80 fu], 24, rfl, rfl, rfl, by decide +kernel⟩ rfl rfl rfl rfl (Nat.le_of_ble_eq_true rfl) hl.1 dX3_copyFrom_27 ⟨Nat.zero_le _, Nat.zero_le _⟩ (fun H locs wd => ?_)
  refine lv_aload_n C.1 C.2.1 dX3_copyFrom_30 rfl (lv_at hl 0 rfl) ?_
  refine z_get C wd (Cn := RX3) (TT := TX3) (N := 4) (ci := 3) iX3 0 rfl rfl 3 (by decide) L30 (fun _ h => h) rfl dX3_copyFrom_31 ?_
  refine lv_aload_n C.1 C.2.1 dX3_copyFrom_34 rfl (lv_at hl 1 rfl) ?_
  refine z_get C wd (Cn := RX3) (TT := TX3) (N := 4) (ci := 3) iX3 12 rfl rfl 3 (by decide) L30 (fun _ h => h) rfl dX3_copyFrom_35 ?_
  refine z_cvv C wd hA (As := [.ref r0]) (rest := []) (ws2 := [zO d0x 3 [.int (iI (M 5)), .ref a0x, .ref s0x, .ref r0x], zO a0x 0 [.int (iI (M 0)), .int (iI (M 1)), .ref a1x], zA cy a1x 3 (sl M 2), zO s0x 2 [.int (iI (M 6)), .int (iI (M 7)), .ref s1x, .ref s2x, .ref s3x], zA cy s1x 80 (sl M 12), zA cy s2x 240 (sl M 92), zA cy s3x 240 (sl M 332), zO r0x 1 [.int (iI (M 9)), .int (iI L), .int (iI (M 10)), .int (iI (M 11)), .ref r1x, .ref r2x, .ref r3x, .ref r4x], zA cy r1x 80 (sl M 604), zA cy r2x 32 (sl M 572), zA cy r3x 32 nx, zA cy r4x 80 fu, zO d0 3 [.int (iI (M 5)), .ref a0, .ref s0, .ref r0], zO a0 0 [.int (iI (M 0)), .int (iI (M 1)), .ref a1], zA cy a1 3 (sl M 2), zO s0 2 [.int (iI (M 6)), .int (iI (M 7)), .ref s1, .ref s2, .ref s3], zA cy s1 80 (sl M 12), zA cy s2 240 (sl M 92), zA cy s3 240 (sl M 332), zO r0 1 [.int (iI (M 9)), .int (iI L), .int (iI (M 10)), .int (iI (M 11)), .ref r1, .ref r2, .ref r3, .ref r4], zA cy r1 80 (sl M 604), zA cy r2 32 (sl M 572), zA cy r3 32 fn, zA cy r4 80 fu]) (c_X1_copyFrom l D cy cs r0x r1x r2x r3x r4x (Mx 9) Lx (Mx 10) (Mx 11) r0 r1 r2 r3 r4 (M 9) L (M 10) (M 11) (sl Mx 604) (sl Mx 572) ux (sl M 604) (sl M 572) fu hE) (cwV 1 C.2.2.2.2 gX3_copyFrom_X1_copyFrom rfl rfl rfl (by decide +kernel) ⟨Nat.le_of_ble_eq_true rfl, Nat.le_of_ble_eq_true rfl⟩) [7, 8, 9, 11, 19, 20, 21, 23] rfl rfl rfl ⟨rfl, [0, 1, 2, 3, 4, 5, 6, 10, 12, 13, 14, 15, 16, 17, 18, 22], [zO d0x 3 [.int (iI (M 5)), .ref a0x, .ref s0x, .ref r0x], zO a0x 0 [.int (iI (M 0)), .int (iI (M 1)), .ref a1x], zA cy a1x 3 (sl M 2), zO s0x 2 [.int (iI (M 6)), .int (iI (M 7)), .ref s1x, .ref s2x, .ref s3x], zA cy s1x 80 (sl M 12), zA cy s2x 240 (sl M 92), zA cy s3x 240 (sl M 332), zA cy r3x 32 nx, zO d0 3 [.int (iI (M 5)), .ref a0, .ref s0, .ref r0], zO a0 0 [.int (iI (M 0)), .int (iI (M 1)), .ref a1], zA cy a1 3 (sl M 2), zO s0 2 [.int (iI (M 6)), .int (iI (M 7)), .ref s1, .ref s2, .ref s3], zA cy s1 80 (sl M 12), zA cy s2 240 (sl M 92), zA cy s3 240 (sl M 332), zA cy r3 32 fn], 24, rfl, rfl, rfl, by decide +kernel⟩ rfl rfl rfl rfl (Nat.le_of_ble_eq_true rfl) hl.1 dX3_copyFrom_38 ⟨Nat.zero_le _, Nat.zero_le _⟩ (fun H locs wd => ?_)
  have wd := z_fld wd (ws2 := [zO d0x 3 [.int (iI (M 5)), .ref a0x, .ref s0x, .ref r0x], zO a0x 0 [.int (iI (M 0)), .int (iI (M 1)), .ref a1x], zA cy a1x 3 (sl M 2), zO s0x 2 [.int (iI (M 6)), .int (iI (M 7)), .ref s1x, .ref s2x, .ref s3x], zA cy s1x 80 (sl M 12), zA cy s2x 240 (sl M 92), zA cy s3x 240 (sl M 332), zO r0x 1 [.int (iI (M 9)), .int (iI L), .int (iI (M 10)), .int (iI (M 11)), .ref r1x, .ref r2x, .ref r3x, .ref r4x], zA cy r1x 80 (sl M 604), zA cy r2x 32 (sl M 572), zA cy r3x 32 nx, zA cy r4x 80 fu, zO d0 3 [.int (iI (M 5)), .ref a0, .ref s0, .ref r0], zO a0 0 [.int (iI (M 0)), .int (iI (M 1)), .ref a1], zA cy a1 3 (sl M 2), zO s0 2 [.int (iI (M 6)), .int (iI (M 7)), .ref s1, .ref s2, .ref s3], zA cy s1 80 (sl M 12), zA cy s2 240 (sl M 92), zA cy s3 240 (sl M 332), zO r0 1 [.int (iI (M 9)), .int (iI L), .int (iI (M 10)), .int (iI (M 11)), .ref r1, .ref r2, .ref r3, .ref r4], zA cy r1 80 (sl M 604), zA cy r2 32 (sl M 572), zA cy r3 32 fn, zA cy r4 80 fu]) 1 rfl (congrArg (fun z0 => zO a0x 0 [.int (iI z0), .int (iI (M 1)), .ref a1x]) (show ((M 0) : Int) = M 0 from (by omega))) rfl
  have wd := z_fld wd (ws2 := [zO d0x 3 [.int (iI (M 5)), .ref a0x, .ref s0x, .ref r0x], zO a0x 0 [.int (iI (M 0)), .int (iI (M 1)), .ref a1x], zA cy a1x 3 (sl M 2), zO s0x 2 [.int (iI (M 6)), .int (iI (M 7)), .ref s1x, .ref s2x, .ref s3x], zA cy s1x 80 (sl M 12), zA cy s2x 240 (sl M 92), zA cy s3x 240 (sl M 332), zO r0x 1 [.int (iI (M 9)), .int (iI L), .int (iI (M 10)), .int (iI (M 11)), .ref r1x, .ref r2x, .ref r3x, .ref r4x], zA cy r1x 80 (sl M 604), zA cy r2x 32 (sl M 572), zA cy r3x 32 nx, zA cy r4x 80 fu, zO d0 3 [.int (iI (M 5)), .ref a0, .ref s0, .ref r0], zO a0 0 [.int (iI (M 0)), .int (iI (M 1)), .ref a1], zA cy a1 3 (sl M 2), zO s0 2 [.int (iI (M 6)), .int (iI (M 7)), .ref s1, .ref s2, .ref s3], zA cy s1 80 (sl M 12), zA cy s2 240 (sl M 92), zA cy s3 240 (sl M 332), zO r0 1 [.int (iI (M 9)), .int (iI L), .int (iI (M 10)), .int (iI (M 11)), .ref r1, .ref r2, .ref r3, .ref r4], zA cy r1 80 (sl M 604), zA cy r2 32 (sl M 572), zA cy r3 32 fn, zA cy r4 80 fu]) 1 rfl (congrArg (fun z0 => zO a0x 0 [.int (iI (M 0)), .int (iI z0), .ref a1x]) (show ((M 1) : Int) = M 1 from (by omega))) rfl
  have wd := z_cell wd (ws2 := [zO d0x 3 [.int (iI (M 5)), .ref a0x, .ref s0x, .ref r0x], zO a0x 0 [.int (iI (M 0)), .int (iI (M 1)), .ref a1x], zA cy a1x 3 (sl M 2), zO s0x 2 [.int (iI (M 6)), .int (iI (M 7)), .ref s1x, .ref s2x, .ref s3x], zA cy s1x 80 (sl M 12), zA cy s2x 240 (sl M 92), zA cy s3x 240 (sl M 332), zO r0x 1 [.int (iI (M 9)), .int (iI L), .int (iI (M 10)), .int (iI (M 11)), .ref r1x, .ref r2x, .ref r3x, .ref r4x], zA cy r1x 80 (sl M 604), zA cy r2x 32 (sl M 572), zA cy r3x 32 nx, zA cy r4x 80 fu, zO d0 3 [.int (iI (M 5)), .ref a0, .ref s0, .ref r0], zO a0 0 [.int (iI (M 0)), .int (iI (M 1)), .ref a1], zA cy a1 3 (sl M 2), zO s0 2 [.int (iI (M 6)), .int (iI (M 7)), .ref s1, .ref s2, .ref s3], zA cy s1 80 (sl M 12), zA cy s2 240 (sl M 92), zA cy s3 240 (sl M 332), zO r0 1 [.int (iI (M 9)), .int (iI L), .int (iI (M 10)), .int (iI (M 11)), .ref r1, .ref r2, .ref r3, .ref r4], zA cy r1 80 (sl M 604), zA cy r2 32 (sl M 572), zA cy r3 32 fn, zA cy r4 80 fu]) 2 rfl (by intro k hk0 hk1; first | rfl | omega) rfl
  have wd := z_fld wd (ws2 := [zO d0x 3 [.int (iI (M 5)), .ref a0x, .ref s0x, .ref r0x], zO a0x 0 [.int (iI (M 0)), .int (iI (M 1)), .ref a1x], zA cy a1x 3 (sl M 2), zO s0x 2 [.int (iI (M 6)), .int (iI (M 7)), .ref s1x, .ref s2x, .ref s3x], zA cy s1x 80 (sl M 12), zA cy s2x 240 (sl M 92), zA cy s3x 240 (sl M 332), zO r0x 1 [.int (iI (M 9)), .int (iI L), .int (iI (M 10)), .int (iI (M 11)), .ref r1x, .ref r2x, .ref r3x, .ref r4x], zA cy r1x 80 (sl M 604), zA cy r2x 32 (sl M 572), zA cy r3x 32 nx, zA cy r4x 80 fu, zO d0 3 [.int (iI (M 5)), .ref a0, .ref s0, .ref r0], zO a0 0 [.int (iI (M 0)), .int (iI (M 1)), .ref a1], zA cy a1 3 (sl M 2), zO s0 2 [.int (iI (M 6)), .int (iI (M 7)), .ref s1, .ref s2, .ref s3], zA cy s1 80 (sl M 12), zA cy s2 240 (sl M 92), zA cy s3 240 (sl M 332), zO r0 1 [.int (iI (M 9)), .int (iI L), .int (iI (M 10)), .int (iI (M 11)), .ref r1, .ref r2, .ref r3, .ref r4], zA cy r1 80 (sl M 604), zA cy r2 32 (sl M 572), zA cy r3 32 fn, zA cy r4 80 fu]) 3 rfl (congrArg (fun z0 => zO s0x 2 [.int (iI z0), .int (iI (M 7)), .ref s1x, .ref s2x, .ref s3x]) (show ((M 6) : Int) = M 6 from (by omega))) rfl
  have wd := z_fld wd (ws2 := [zO d0x 3 [.int (iI (M 5)), .ref a0x, .ref s0x, .ref r0x], zO a0x 0 [.int (iI (M 0)), .int (iI (M 1)), .ref a1x], zA cy a1x 3 (sl M 2), zO s0x 2 [.int (iI (M 6)), .int (iI (M 7)), .ref s1x, .ref s2x, .ref s3x], zA cy s1x 80 (sl M 12), zA cy s2x 240 (sl M 92), zA cy s3x 240 (sl M 332), zO r0x 1 [.int (iI (M 9)), .int (iI L), .int (iI (M 10)), .int (iI (M 11)), .ref r1x, .ref r2x, .ref r3x, .ref r4x], zA cy r1x 80 (sl M 604), zA cy r2x 32 (sl M 572), zA cy r3x 32 nx, zA cy r4x 80 fu, zO d0 3 [.int (iI (M 5)), .ref a0, .ref s0, .ref r0], zO a0 0 [.int (iI (M 0)), .int (iI (M 1)), .ref a1], zA cy a1 3 (sl M 2), zO s0 2 [.int (iI (M 6)), .int (iI (M 7)), .ref s1, .ref s2, .ref s3], zA cy s1 80 (sl M 12), zA cy s2 240 (sl M 92), zA cy s3 240 (sl M 332), zO r0 1 [.int (iI (M 9)), .int (iI L), .int (iI (M 10)), .int (iI (M 11)), .ref r1, .ref r2, .ref r3, .ref r4], zA cy r1 80 (sl M 604), zA cy r2 32 (sl M 572), zA cy r3 32 fn, zA cy r4 80 fu]) 3 rfl (congrArg (fun z0 => zO s0x 2 [.int (iI (M 6)), .int (iI z0), .ref s1x, .ref s2x, .ref s3x]) (show ((M 7) : Int) = M 7 from (by omega))) rfl
  have wd := z_cell wd (ws2 := [zO d0x 3 [.int (iI (M 5)), .ref a0x, .ref s0x, .ref r0x], zO a0x 0 [.int (iI (M 0)), .int (iI (M 1)), .ref a1x], zA cy a1x 3 (sl M 2), zO s0x 2 [.int (iI (M 6)), .int (iI (M 7)), .ref s1x, .ref s2x, .ref s3x], zA cy s1x 80 (sl M 12), zA cy s2x 240 (sl M 92), zA cy s3x 240 (sl M 332), zO r0x 1 [.int (iI (M 9)), .int (iI L), .int (iI (M 10)), .int (iI (M 11)), .ref r1x, .ref r2x, .ref r3x, .ref r4x], zA cy r1x 80 (sl M 604), zA cy r2x 32 (sl M 572), zA cy r3x 32 nx, zA cy r4x 80 fu, zO d0 3 [.int (iI (M 5)), .ref a0, .ref s0, .ref r0], zO a0 0 [.int (iI (M 0)), .int (iI (M 1)), .ref a1], zA cy a1 3 (sl M 2), zO s0 2 [.int (iI (M 6)), .int (iI (M 7)), .ref s1, .ref s2, .ref s3], zA cy s1 80 (sl M 12), zA cy s2 240 (sl M 92), zA cy s3 240 (sl M 332), zO r0 1 [.int (iI (M 9)), .int (iI L), .int (iI (M 10)), .int (iI (M 11)), .ref r1, .ref r2, .ref r3, .ref r4], zA cy r1 80 (sl M 604), zA cy r2 32 (sl M 572), zA cy r3 32 fn, zA cy r4 80 fu]) 4 rfl (by intro k hk0 hk1; first | rfl | omega) rfl
  have wd := z_cell wd (ws2 := [zO d0x 3 [.int (iI (M 5)), .ref a0x, .ref s0x, .ref r0x], zO a0x 0 [.int (iI (M 0)), .int (iI (M 1)), .ref a1x], zA cy a1x 3 (sl M 2), zO s0x 2 [.int (iI (M 6)), .int (iI (M 7)), .ref s1x, .ref s2x, .ref s3x], zA cy s1x 80 (sl M 12), zA cy s2x 240 (sl M 92), zA cy s3x 240 (sl M 332), zO r0x 1 [.int (iI (M 9)), .int (iI L), .int (iI (M 10)), .int (iI (M 11)), .ref r1x, .ref r2x, .ref r3x, .ref r4x], zA cy r1x 80 (sl M 604), zA cy r2x 32 (sl M 572), zA cy r3x 32 nx, zA cy r4x 80 fu, zO d0 3 [.int (iI (M 5)), .ref a0, .ref s0, .ref r0], zO a0 0 [.int (iI (M 0)), .int (iI (M 1)), .ref a1], zA cy a1 3 (sl M 2), zO s0 2 [.int (iI (M 6)), .int (iI (M 7)), .ref s1, .ref s2, .ref s3], zA cy s1 80 (sl M 12), zA cy s2 240 (sl M 92), zA cy s3 240 (sl M 332), zO r0 1 [.int (iI (M 9)), .int (iI L), .int (iI (M 10)), .int (iI (M 11)), .ref r1, .ref r2, .ref r3, .ref r4], zA cy r1 80 (sl M 604), zA cy r2 32 (sl M 572), zA cy r3 32 fn, zA cy r4 80 fu]) 5 rfl (by intro k hk0 hk1; first | rfl | omega) rfl
  have wd := z_cell wd (ws2 := [zO d0x 3 [.int (iI (M 5)), .ref a0x, .ref s0x, .ref r0x], zO a0x 0 [.int (iI (M 0)), .int (iI (M 1)), .ref a1x], zA cy a1x 3 (sl M 2), zO s0x 2 [.int (iI (M 6)), .int (iI (M 7)), .ref s1x, .ref s2x, .ref s3x], zA cy s1x 80 (sl M 12), zA cy s2x 240 (sl M 92), zA cy s3x 240 (sl M 332), zO r0x 1 [.int (iI (M 9)), .int (iI L), .int (iI (M 10)), .int (iI (M 11)), .ref r1x, .ref r2x, .ref r3x, .ref r4x], zA cy r1x 80 (sl M 604), zA cy r2x 32 (sl M 572), zA cy r3x 32 nx, zA cy r4x 80 fu, zO d0 3 [.int (iI (M 5)), .ref a0, .ref s0, .ref r0], zO a0 0 [.int (iI (M 0)), .int (iI (M 1)), .ref a1], zA cy a1 3 (sl M 2), zO s0 2 [.int (iI (M 6)), .int (iI (M 7)), .ref s1, .ref s2, .ref s3], zA cy s1 80 (sl M 12), zA cy s2 240 (sl M 92), zA cy s3 240 (sl M 332), zO r0 1 [.int (iI (M 9)), .int (iI L), .int (iI (M 10)), .int (iI (M 11)), .ref r1, .ref r2, .ref r3, .ref r4], zA cy r1 80 (sl M 604), zA cy r2 32 (sl M 572), zA cy r3 32 fn, zA cy r4 80 fu]) 6 rfl (by intro k hk0 hk1; first | rfl | omega) rfl
  have wd := z_fld wd (ws2 := [zO d0x 3 [.int (iI (M 5)), .ref a0x, .ref s0x, .ref r0x], zO a0x 0 [.int (iI (M 0)), .int (iI (M 1)), .ref a1x], zA cy a1x 3 (sl M 2), zO s0x 2 [.int (iI (M 6)), .int (iI (M 7)), .ref s1x, .ref s2x, .ref s3x], zA cy s1x 80 (sl M 12), zA cy s2x 240 (sl M 92), zA cy s3x 240 (sl M 332), zO r0x 1 [.int (iI (M 9)), .int (iI L), .int (iI (M 10)), .int (iI (M 11)), .ref r1x, .ref r2x, .ref r3x, .ref r4x], zA cy r1x 80 (sl M 604), zA cy r2x 32 (sl M 572), zA cy r3x 32 nx, zA cy r4x 80 fu, zO d0 3 [.int (iI (M 5)), .ref a0, .ref s0, .ref r0], zO a0 0 [.int (iI (M 0)), .int (iI (M 1)), .ref a1], zA cy a1 3 (sl M 2), zO s0 2 [.int (iI (M 6)), .int (iI (M 7)), .ref s1, .ref s2, .ref s3], zA cy s1 80 (sl M 12), zA cy s2 240 (sl M 92), zA cy s3 240 (sl M 332), zO r0 1 [.int (iI (M 9)), .int (iI L), .int (iI (M 10)), .int (iI (M 11)), .ref r1, .ref r2, .ref r3, .ref r4], zA cy r1 80 (sl M 604), zA cy r2 32 (sl M 572), zA cy r3 32 fn, zA cy r4 80 fu]) 7 rfl (congrArg (fun z0 => zO r0x 1 [.int (iI z0), .int (iI L), .int (iI (M 10)), .int (iI (M 11)), .ref r1x, .ref r2x, .ref r3x, .ref r4x]) (show ((M 9) : Int) = M 9 from (by omega))) rfl
  have wd := z_fld wd (ws2 := [zO d0x 3 [.int (iI (M 5)), .ref a0x, .ref s0x, .ref r0x], zO a0x 0 [.int (iI (M 0)), .int (iI (M 1)), .ref a1x], zA cy a1x 3 (sl M 2), zO s0x 2 [.int (iI (M 6)), .int (iI (M 7)), .ref s1x, .ref s2x, .ref s3x], zA cy s1x 80 (sl M 12), zA cy s2x 240 (sl M 92), zA cy s3x 240 (sl M 332), zO r0x 1 [.int (iI (M 9)), .int (iI L), .int (iI (M 10)), .int (iI (M 11)), .ref r1x, .ref r2x, .ref r3x, .ref r4x], zA cy r1x 80 (sl M 604), zA cy r2x 32 (sl M 572), zA cy r3x 32 nx, zA cy r4x 80 fu, zO d0 3 [.int (iI (M 5)), .ref a0, .ref s0, .ref r0], zO a0 0 [.int (iI (M 0)), .int (iI (M 1)), .ref a1], zA cy a1 3 (sl M 2), zO s0 2 [.int (iI (M 6)), .int (iI (M 7)), .ref s1, .ref s2, .ref s3], zA cy s1 80 (sl M 12), zA cy s2 240 (sl M 92), zA cy s3 240 (sl M 332), zO r0 1 [.int (iI (M 9)), .int (iI L), .int (iI (M 10)), .int (iI (M 11)), .ref r1, .ref r2, .ref r3, .ref r4], zA cy r1 80 (sl M 604), zA cy r2 32 (sl M 572), zA cy r3 32 fn, zA cy r4 80 fu]) 7 rfl (congrArg (fun z0 => zO r0x 1 [.int (iI (M 9)), .int (iI L), .int (iI z0), .int (iI (M 11)), .ref r1x, .ref r2x, .ref r3x, .ref r4x]) (show ((M 10) : Int) = M 10 from (by omega))) rfl
  have wd := z_fld wd (ws2 := [zO d0x 3 [.int (iI (M 5)), .ref a0x, .ref s0x, .ref r0x], zO a0x 0 [.int (iI (M 0)), .int (iI (M 1)), .ref a1x], zA cy a1x 3 (sl M 2), zO s0x 2 [.int (iI (M 6)), .int (iI (M 7)), .ref s1x, .ref s2x, .ref s3x], zA cy s1x 80 (sl M 12), zA cy s2x 240 (sl M 92), zA cy s3x 240 (sl M 332), zO r0x 1 [.int (iI (M 9)), .int (iI L), .int (iI (M 10)), .int (iI (M 11)), .ref r1x, .ref r2x, .ref r3x, .ref r4x], zA cy r1x 80 (sl M 604), zA cy r2x 32 (sl M 572), zA cy r3x 32 nx, zA cy r4x 80 fu, zO d0 3 [.int (iI (M 5)), .ref a0, .ref s0, .ref r0], zO a0 0 [.int (iI (M 0)), .int (iI (M 1)), .ref a1], zA cy a1 3 (sl M 2), zO s0 2 [.int (iI (M 6)), .int (iI (M 7)), .ref s1, .ref s2, .ref s3], zA cy s1 80 (sl M 12), zA cy s2 240 (sl M 92), zA cy s3 240 (sl M 332), zO r0 1 [.int (iI (M 9)), .int (iI L), .int (iI (M 10)), .int (iI (M 11)), .ref r1, .ref r2, .ref r3, .ref r4], zA cy r1 80 (sl M 604), zA cy r2 32 (sl M 572), zA cy r3 32 fn, zA cy r4 80 fu]) 7 rfl (congrArg (fun z0 => zO r0x 1 [.int (iI (M 9)), .int (iI L), .int (iI (M 10)), .int (iI z0), .ref r1x, .ref r2x, .ref r3x, .ref r4x]) (show ((M 11) : Int) = M 11 from (by omega))) rfl
  have wd := z_cell wd (ws2 := [zO d0x 3 [.int (iI (M 5)), .ref a0x, .ref s0x, .ref r0x], zO a0x 0 [.int (iI (M 0)), .int (iI (M 1)), .ref a1x], zA cy a1x 3 (sl M 2), zO s0x 2 [.int (iI (M 6)), .int (iI (M 7)), .ref s1x, .ref s2x, .ref s3x], zA cy s1x 80 (sl M 12), zA cy s2x 240 (sl M 92), zA cy s3x 240 (sl M 332), zO r0x 1 [.int (iI (M 9)), .int (iI L), .int (iI (M 10)), .int (iI (M 11)), .ref r1x, .ref r2x, .ref r3x, .ref r4x], zA cy r1x 80 (sl M 604), zA cy r2x 32 (sl M 572), zA cy r3x 32 nx, zA cy r4x 80 fu, zO d0 3 [.int (iI (M 5)), .ref a0, .ref s0, .ref r0], zO a0 0 [.int (iI (M 0)), .int (iI (M 1)), .ref a1], zA cy a1 3 (sl M 2), zO s0 2 [.int (iI (M 6)), .int (iI (M 7)), .ref s1, .ref s2, .ref s3], zA cy s1 80 (sl M 12), zA cy s2 240 (sl M 92), zA cy s3 240 (sl M 332), zO r0 1 [.int (iI (M 9)), .int (iI L), .int (iI (M 10)), .int (iI (M 11)), .ref r1, .ref r2, .ref r3, .ref r4], zA cy r1 80 (sl M 604), zA cy r2 32 (sl M 572), zA cy r3 32 fn, zA cy r4 80 fu]) 8 rfl (by intro k hk0 hk1; first | rfl | omega) rfl
  have wd := z_cell wd (ws2 := [zO d0x 3 [.int (iI (M 5)), .ref a0x, .ref s0x, .ref r0x], zO a0x 0 [.int (iI (M 0)), .int (iI (M 1)), .ref a1x], zA cy a1x 3 (sl M 2), zO s0x 2 [.int (iI (M 6)), .int (iI (M 7)), .ref s1x, .ref s2x, .ref s3x], zA cy s1x 80 (sl M 12), zA cy s2x 240 (sl M 92), zA cy s3x 240 (sl M 332), zO r0x 1 [.int (iI (M 9)), .int (iI L), .int (iI (M 10)), .int (iI (M 11)), .ref r1x, .ref r2x, .ref r3x, .ref r4x], zA cy r1x 80 (sl M 604), zA cy r2x 32 (sl M 572), zA cy r3x 32 nx, zA cy r4x 80 fu, zO d0 3 [.int (iI (M 5)), .ref a0, .ref s0, .ref r0], zO a0 0 [.int (iI (M 0)), .int (iI (M 1)), .ref a1], zA cy a1 3 (sl M 2), zO s0 2 [.int (iI (M 6)), .int (iI (M 7)), .ref s1, .ref s2, .ref s3], zA cy s1 80 (sl M 12), zA cy s2 240 (sl M 92), zA cy s3 240 (sl M 332), zO r0 1 [.int (iI (M 9)), .int (iI L), .int (iI (M 10)), .int (iI (M 11)), .ref r1, .ref r2, .ref r3, .ref r4], zA cy r1 80 (sl M 604), zA cy r2 32 (sl M 572), zA cy r3 32 fn, zA cy r4 80 fu]) 9 rfl (by intro k hk0 hk1; first | rfl | omega) rfl
  have wd := z_fld wd (ws2 := [zO d0x 3 [.int (iI (M 5)), .ref a0x, .ref s0x, .ref r0x], zO a0x 0 [.int (iI (M 0)), .int (iI (M 1)), .ref a1x], zA cy a1x 3 (sl M 2), zO s0x 2 [.int (iI (M 6)), .int (iI (M 7)), .ref s1x, .ref s2x, .ref s3x], zA cy s1x 80 (sl M 12), zA cy s2x 240 (sl M 92), zA cy s3x 240 (sl M 332), zO r0x 1 [.int (iI (M 9)), .int (iI L), .int (iI (M 10)), .int (iI (M 11)), .ref r1x, .ref r2x, .ref r3x, .ref r4x], zA cy r1x 80 (sl M 604), zA cy r2x 32 (sl M 572), zA cy r3x 32 nx, zA cy r4x 80 fu, zO d0 3 [.int (iI (M 5)), .ref a0, .ref s0, .ref r0], zO a0 0 [.int (iI (M 0)), .int (iI (M 1)), .ref a1], zA cy a1 3 (sl M 2), zO s0 2 [.int (iI (M 6)), .int (iI (M 7)), .ref s1, .ref s2, .ref s3], zA cy s1 80 (sl M 12), zA cy s2 240 (sl M 92), zA cy s3 240 (sl M 332), zO r0 1 [.int (iI (M 9)), .int (iI L), .int (iI (M 10)), .int (iI (M 11)), .ref r1, .ref r2, .ref r3, .ref r4], zA cy r1 80 (sl M 604), zA cy r2 32 (sl M 572), zA cy r3 32 fn, zA cy r4 80 fu]) 13 rfl (congrArg (fun z0 => zO a0 0 [.int (iI z0), .int (iI (M 1)), .ref a1]) (show ((M 0) : Int) = M 0 from (by omega))) rfl
  have wd := z_fld wd (ws2 := [zO d0x 3 [.int (iI (M 5)), .ref a0x, .ref s0x, .ref r0x], zO a0x 0 [.int (iI (M 0)), .int (iI (M 1)), .ref a1x], zA cy a1x 3 (sl M 2), zO s0x 2 [.int (iI (M 6)), .int (iI (M 7)), .ref s1x, .ref s2x, .ref s3x], zA cy s1x 80 (sl M 12), zA cy s2x 240 (sl M 92), zA cy s3x 240 (sl M 332), zO r0x 1 [.int (iI (M 9)), .int (iI L), .int (iI (M 10)), .int (iI (M 11)), .ref r1x, .ref r2x, .ref r3x, .ref r4x], zA cy r1x 80 (sl M 604), zA cy r2x 32 (sl M 572), zA cy r3x 32 nx, zA cy r4x 80 fu, zO d0 3 [.int (iI (M 5)), .ref a0, .ref s0, .ref r0], zO a0 0 [.int (iI (M 0)), .int (iI (M 1)), .ref a1], zA cy a1 3 (sl M 2), zO s0 2 [.int (iI (M 6)), .int (iI (M 7)), .ref s1, .ref s2, .ref s3], zA cy s1 80 (sl M 12), zA cy s2 240 (sl M 92), zA cy s3 240 (sl M 332), zO r0 1 [.int (iI (M 9)), .int (iI L), .int (iI (M 10)), .int (iI (M 11)), .ref r1, .ref r2, .ref r3, .ref r4], zA cy r1 80 (sl M 604), zA cy r2 32 (sl M 572), zA cy r3 32 fn, zA cy r4 80 fu]) 13 rfl (congrArg (fun z0 => zO a0 0 [.int (iI (M 0)), .int (iI z0), .ref a1]) (show ((M 1) : Int) = M 1 from (by omega))) rfl
  have wd := z_cell wd (ws2 := [zO d0x 3 [.int (iI (M 5)), .ref a0x, .ref s0x, .ref r0x], zO a0x 0 [.int (iI (M 0)), .int (iI (M 1)), .ref a1x], zA cy a1x 3 (sl M 2), zO s0x 2 [.int (iI (M 6)), .int (iI (M 7)), .ref s1x, .ref s2x, .ref s3x], zA cy s1x 80 (sl M 12), zA cy s2x 240 (sl M 92), zA cy s3x 240 (sl M 332), zO r0x 1 [.int (iI (M 9)), .int (iI L), .int (iI (M 10)), .int (iI (M 11)), .ref r1x, .ref r2x, .ref r3x, .ref r4x], zA cy r1x 80 (sl M 604), zA cy r2x 32 (sl M 572), zA cy r3x 32 nx, zA cy r4x 80 fu, zO d0 3 [.int (iI (M 5)), .ref a0, .ref s0, .ref r0], zO a0 0 [.int (iI (M 0)), .int (iI (M 1)), .ref a1], zA cy a1 3 (sl M 2), zO s0 2 [.int (iI (M 6)), .int (iI (M 7)), .ref s1, .ref s2, .ref s3], zA cy s1 80 (sl M 12), zA cy s2 240 (sl M 92), zA cy s3 240 (sl M 332), zO r0 1 [.int (iI (M 9)), .int (iI L), .int (iI (M 10)), .int (iI (M 11)), .ref r1, .ref r2, .ref r3, .ref r4], zA cy r1 80 (sl M 604), zA cy r2 32 (sl M 572), zA cy r3 32 fn, zA cy r4 80 fu]) 14 rfl (by intro k hk0 hk1; first | rfl | omega) rfl
  have wd := z_fld wd (ws2 := [zO d0x 3 [.int (iI (M 5)), .ref a0x, .ref s0x, .ref r0x], zO a0x 0 [.int (iI (M 0)), .int (iI (M 1)), .ref a1x], zA cy a1x 3 (sl M 2), zO s0x 2 [.int (iI (M 6)), .int (iI (M 7)), .ref s1x, .ref s2x, .ref s3x], zA cy s1x 80 (sl M 12), zA cy s2x 240 (sl M 92), zA cy s3x 240 (sl M 332), zO r0x 1 [.int (iI (M 9)), .int (iI L), .int (iI (M 10)), .int (iI (M 11)), .ref r1x, .ref r2x, .ref r3x, .ref r4x], zA cy r1x 80 (sl M 604), zA cy r2x 32 (sl M 572), zA cy r3x 32 nx, zA cy r4x 80 fu, zO d0 3 [.int (iI (M 5)), .ref a0, .ref s0, .ref r0], zO a0 0 [.int (iI (M 0)), .int (iI (M 1)), .ref a1], zA cy a1 3 (sl M 2), zO s0 2 [.int (iI (M 6)), .int (iI (M 7)), .ref s1, .ref s2, .ref s3], zA cy s1 80 (sl M 12), zA cy s2 240 (sl M 92), zA cy s3 240 (sl M 332), zO r0 1 [.int (iI (M 9)), .int (iI L), .int (iI (M 10)), .int (iI (M 11)), .ref r1, .ref r2, .ref r3, .ref r4], zA cy r1 80 (sl M 604), zA cy r2 32 (sl M 572), zA cy r3 32 fn, zA cy r4 80 fu]) 15 rfl (congrArg (fun z0 => zO s0 2 [.int (iI z0), .int (iI (M 7)), .ref s1, .ref s2, .ref s3]) (show ((M 6) : Int) = M 6 from (by omega))) rfl
  have wd := z_fld wd (ws2 := [zO d0x 3 [.int (iI (M 5)), .ref a0x, .ref s0x, .ref r0x], zO a0x 0 [.int (iI (M 0)), .int (iI (M 1)), .ref a1x], zA cy a1x 3 (sl M 2), zO s0x 2 [.int (iI (M 6)), .int (iI (M 7)), .ref s1x, .ref s2x, .ref s3x], zA cy s1x 80 (sl M 12), zA cy s2x 240 (sl M 92), zA cy s3x 240 (sl M 332), zO r0x 1 [.int (iI (M 9)), .int (iI L), .int (iI (M 10)), .int (iI (M 11)), .ref r1x, .ref r2x, .ref r3x, .ref r4x], zA cy r1x 80 (sl M 604), zA cy r2x 32 (sl M 572), zA cy r3x 32 nx, zA cy r4x 80 fu, zO d0 3 [.int (iI (M 5)), .ref a0, .ref s0, .ref r0], zO a0 0 [.int (iI (M 0)), .int (iI (M 1)), .ref a1], zA cy a1 3 (sl M 2), zO s0 2 [.int (iI (M 6)), .int (iI (M 7)), .ref s1, .ref s2, .ref s3], zA cy s1 80 (sl M 12), zA cy s2 240 (sl M 92), zA cy s3 240 (sl M 332), zO r0 1 [.int (iI (M 9)), .int (iI L), .int (iI (M 10)), .int (iI (M 11)), .ref r1, .ref r2, .ref r3, .ref r4], zA cy r1 80 (sl M 604), zA cy r2 32 (sl M 572), zA cy r3 32 fn, zA cy r4 80 fu]) 15 rfl (congrArg (fun z0 => zO s0 2 [.int (iI (M 6)), .int (iI z0), .ref s1, .ref s2, .ref s3]) (show ((M 7) : Int) = M 7 from (by omega))) rfl
  have wd := z_cell wd (ws2 := [zO d0x 3 [.int (iI (M 5)), .ref a0x, .ref s0x, .ref r0x], zO a0x 0 [.int (iI (M 0)), .int (iI (M 1)), .ref a1x], zA cy a1x 3 (sl M 2), zO s0x 2 [.int (iI (M 6)), .int (iI (M 7)), .ref s1x, .ref s2x, .ref s3x], zA cy s1x 80 (sl M 12), zA cy s2x 240 (sl M 92), zA cy s3x 240 (sl M 332), zO r0x 1 [.int (iI (M 9)), .int (iI L), .int (iI (M 10)), .int (iI (M 11)), .ref r1x, .ref r2x, .ref r3x, .ref r4x], zA cy r1x 80 (sl M 604), zA cy r2x 32 (sl M 572), zA cy r3x 32 nx, zA cy r4x 80 fu, zO d0 3 [.int (iI (M 5)), .ref a0, .ref s0, .ref r0], zO a0 0 [.int (iI (M 0)), .int (iI (M 1)), .ref a1], zA cy a1 3 (sl M 2), zO s0 2 [.int (iI (M 6)), .int (iI (M 7)), .ref s1, .ref s2, .ref s3], zA cy s1 80 (sl M 12), zA cy s2 240 (sl M 92), zA cy s3 240 (sl M 332), zO r0 1 [.int (iI (M 9)), .int (iI L), .int (iI (M 10)), .int (iI (M 11)), .ref r1, .ref r2, .ref r3, .ref r4], zA cy r1 80 (sl M 604), zA cy r2 32 (sl M 572), zA cy r3 32 fn, zA cy r4 80 fu]) 16 rfl (by intro k hk0 hk1; first | rfl | omega) rfl
  have wd := z_cell wd (ws2 := [zO d0x 3 [.int (iI (M 5)), .ref a0x, .ref s0x, .ref r0x], zO a0x 0 [.int (iI (M 0)), .int (iI (M 1)), .ref a1x], zA cy a1x 3 (sl M 2), zO s0x 2 [.int (iI (M 6)), .int (iI (M 7)), .ref s1x, .ref s2x, .ref s3x], zA cy s1x 80 (sl M 12), zA cy s2x 240 (sl M 92), zA cy s3x 240 (sl M 332), zO r0x 1 [.int (iI (M 9)), .int (iI L), .int (iI (M 10)), .int (iI (M 11)), .ref r1x, .ref r2x, .ref r3x, .ref r4x], zA cy r1x 80 (sl M 604), zA cy r2x 32 (sl M 572), zA cy r3x 32 nx, zA cy r4x 80 fu, zO d0 3 [.int (iI (M 5)), .ref a0, .ref s0, .ref r0], zO a0 0 [.int (iI (M 0)), .int (iI (M 1)), .ref a1], zA cy a1 3 (sl M 2), zO s0 2 [.int (iI (M 6)), .int (iI (M 7)), .ref s1, .ref s2, .ref s3], zA cy s1 80 (sl M 12), zA cy s2 240 (sl M 92), zA cy s3 240 (sl M 332), zO r0 1 [.int (iI (M 9)), .int (iI L), .int (iI (M 10)), .int (iI (M 11)), .ref r1, .ref r2, .ref r3, .ref r4], zA cy r1 80 (sl M 604), zA cy r2 32 (sl M 572), zA cy r3 32 fn, zA cy r4 80 fu]) 17 rfl (by intro k hk0 hk1; first | rfl | omega) rfl
  have wd := z_cell wd (ws2 := [zO d0x 3 [.int (iI (M 5)), .ref a0x, .ref s0x, .ref r0x], zO a0x 0 [.int (iI (M 0)), .int (iI (M 1)), .ref a1x], zA cy a1x 3 (sl M 2), zO s0x 2 [.int (iI (M 6)), .int (iI (M 7)), .ref s1x, .ref s2x, .ref s3x], zA cy s1x 80 (sl M 12), zA cy s2x 240 (sl M 92), zA cy s3x 240 (sl M 332), zO r0x 1 [.int (iI (M 9)), .int (iI L), .int (iI (M 10)), .int (iI (M 11)), .ref r1x, .ref r2x, .ref r3x, .ref r4x], zA cy r1x 80 (sl M 604), zA cy r2x 32 (sl M 572), zA cy r3x 32 nx, zA cy r4x 80 fu, zO d0 3 [.int (iI (M 5)), .ref a0, .ref s0, .ref r0], zO a0 0 [.int (iI (M 0)), .int (iI (M 1)), .ref a1], zA cy a1 3 (sl M 2), zO s0 2 [.int (iI (M 6)), .int (iI (M 7)), .ref s1, .ref s2, .ref s3], zA cy s1 80 (sl M 12), zA cy s2 240 (sl M 92), zA cy s3 240 (sl M 332), zO r0 1 [.int (iI (M 9)), .int (iI L), .int (iI (M 10)), .int (iI (M 11)), .ref r1, .ref r2, .ref r3, .ref r4], zA cy r1 80 (sl M 604), zA cy r2 32 (sl M 572), zA cy r3 32 fn, zA cy r4 80 fu]) 18 rfl (by intro k hk0 hk1; first | rfl | omega) rfl
  have wd := z_fld wd (ws2 := [zO d0x 3 [.int (iI (M 5)), .ref a0x, .ref s0x, .ref r0x], zO a0x 0 [.int (iI (M 0)), .int (iI (M 1)), .ref a1x], zA cy a1x 3 (sl M 2), zO s0x 2 [.int (iI (M 6)), .int (iI (M 7)), .ref s1x, .ref s2x, .ref s3x], zA cy s1x 80 (sl M 12), zA cy s2x 240 (sl M 92), zA cy s3x 240 (sl M 332), zO r0x 1 [.int (iI (M 9)), .int (iI L), .int (iI (M 10)), .int (iI (M 11)), .ref r1x, .ref r2x, .ref r3x, .ref r4x], zA cy r1x 80 (sl M 604), zA cy r2x 32 (sl M 572), zA cy r3x 32 nx, zA cy r4x 80 fu, zO d0 3 [.int (iI (M 5)), .ref a0, .ref s0, .ref r0], zO a0 0 [.int (iI (M 0)), .int (iI (M 1)), .ref a1], zA cy a1 3 (sl M 2), zO s0 2 [.int (iI (M 6)), .int (iI (M 7)), .ref s1, .ref s2, .ref s3], zA cy s1 80 (sl M 12), zA cy s2 240 (sl M 92), zA cy s3 240 (sl M 332), zO r0 1 [.int (iI (M 9)), .int (iI L), .int (iI (M 10)), .int (iI (M 11)), .ref r1, .ref r2, .ref r3, .ref r4], zA cy r1 80 (sl M 604), zA cy r2 32 (sl M 572), zA cy r3 32 fn, zA cy r4 80 fu]) 19 rfl (congrArg (fun z0 => zO r0 1 [.int (iI z0), .int (iI L), .int (iI (M 10)), .int (iI (M 11)), .ref r1, .ref r2, .ref r3, .ref r4]) (show ((M 9) : Int) = M 9 from (by omega))) rfl
  have wd := z_fld wd (ws2 := [zO d0x 3 [.int (iI (M 5)), .ref a0x, .ref s0x, .ref r0x], zO a0x 0 [.int (iI (M 0)), .int (iI (M 1)), .ref a1x], zA cy a1x 3 (sl M 2), zO s0x 2 [.int (iI (M 6)), .int (iI (M 7)), .ref s1x, .ref s2x, .ref s3x], zA cy s1x 80 (sl M 12), zA cy s2x 240 (sl M 92), zA cy s3x 240 (sl M 332), zO r0x 1 [.int (iI (M 9)), .int (iI L), .int (iI (M 10)), .int (iI (M 11)), .ref r1x, .ref r2x, .ref r3x, .ref r4x], zA cy r1x 80 (sl M 604), zA cy r2x 32 (sl M 572), zA cy r3x 32 nx, zA cy r4x 80 fu, zO d0 3 [.int (iI (M 5)), .ref a0, .ref s0, .ref r0], zO a0 0 [.int (iI (M 0)), .int (iI (M 1)), .ref a1], zA cy a1 3 (sl M 2), zO s0 2 [.int (iI (M 6)), .int (iI (M 7)), .ref s1, .ref s2, .ref s3], zA cy s1 80 (sl M 12), zA cy s2 240 (sl M 92), zA cy s3 240 (sl M 332), zO r0 1 [.int (iI (M 9)), .int (iI L), .int (iI (M 10)), .int (iI (M 11)), .ref r1, .ref r2, .ref r3, .ref r4], zA cy r1 80 (sl M 604), zA cy r2 32 (sl M 572), zA cy r3 32 fn, zA cy r4 80 fu]) 19 rfl (congrArg (fun z0 => zO r0 1 [.int (iI (M 9)), .int (iI L), .int (iI z0), .int (iI (M 11)), .ref r1, .ref r2, .ref r3, .ref r4]) (show ((M 10) : Int) = M 10 from (by omega))) rfl
  have wd := z_fld wd (ws2 := [zO d0x 3 [.int (iI (M 5)), .ref a0x, .ref s0x, .ref r0x], zO a0x 0 [.int (iI (M 0)), .int (iI (M 1)), .ref a1x], zA cy a1x 3 (sl M 2), zO s0x 2 [.int (iI (M 6)), .int (iI (M 7)), .ref s1x, .ref s2x, .ref s3x], zA cy s1x 80 (sl M 12), zA cy s2x 240 (sl M 92), zA cy s3x 240 (sl M 332), zO r0x 1 [.int (iI (M 9)), .int (iI L), .int (iI (M 10)), .int (iI (M 11)), .ref r1x, .ref r2x, .ref r3x, .ref r4x], zA cy r1x 80 (sl M 604), zA cy r2x 32 (sl M 572), zA cy r3x 32 nx, zA cy r4x 80 fu, zO d0 3 [.int (iI (M 5)), .ref a0, .ref s0, .ref r0], zO a0 0 [.int (iI (M 0)), .int (iI (M 1)), .ref a1], zA cy a1 3 (sl M 2), zO s0 2 [.int (iI (M 6)), .int (iI (M 7)), .ref s1, .ref s2, .ref s3], zA cy s1 80 (sl M 12), zA cy s2 240 (sl M 92), zA cy s3 240 (sl M 332), zO r0 1 [.int (iI (M 9)), .int (iI L), .int (iI (M 10)), .int (iI (M 11)), .ref r1, .ref r2, .ref r3, .ref r4], zA cy r1 80 (sl M 604), zA cy r2 32 (sl M 572), zA cy r3 32 fn, zA cy r4 80 fu]) 19 rfl (congrArg (fun z0 => zO r0 1 [.int (iI (M 9)), .int (iI L), .int (iI (M 10)), .int (iI z0), .ref r1, .ref r2, .ref r3, .ref r4]) (show ((M 11) : Int) = M 11 from (by omega))) rfl
  have wd := z_cell wd (ws2 := [zO d0x 3 [.int (iI (M 5)), .ref a0x, .ref s0x, .ref r0x], zO a0x 0 [.int (iI (M 0)), .int (iI (M 1)), .ref a1x], zA cy a1x 3 (sl M 2), zO s0x 2 [.int (iI (M 6)), .int (iI (M 7)), .ref s1x, .ref s2x, .ref s3x], zA cy s1x 80 (sl M 12), zA cy s2x 240 (sl M 92), zA cy s3x 240 (sl M 332), zO r0x 1 [.int (iI (M 9)), .int (iI L), .int (iI (M 10)), .int (iI (M 11)), .ref r1x, .ref r2x, .ref r3x, .ref r4x], zA cy r1x 80 (sl M 604), zA cy r2x 32 (sl M 572), zA cy r3x 32 nx, zA cy r4x 80 fu, zO d0 3 [.int (iI (M 5)), .ref a0, .ref s0, .ref r0], zO a0 0 [.int (iI (M 0)), .int (iI (M 1)), .ref a1], zA cy a1 3 (sl M 2), zO s0 2 [.int (iI (M 6)), .int (iI (M 7)), .ref s1, .ref s2, .ref s3], zA cy s1 80 (sl M 12), zA cy s2 240 (sl M 92), zA cy s3 240 (sl M 332), zO r0 1 [.int (iI (M 9)), .int (iI L), .int (iI (M 10)), .int (iI (M 11)), .ref r1, .ref r2, .ref r3, .ref r4], zA cy r1 80 (sl M 604), zA cy r2 32 (sl M 572), zA cy r3 32 fn, zA cy r4 80 fu]) 20 rfl (by intro k hk0 hk1; first | rfl | omega) rfl
  have wd := z_cell wd (ws2 := [zO d0x 3 [.int (iI (M 5)), .ref a0x, .ref s0x, .ref r0x], zO a0x 0 [.int (iI (M 0)), .int (iI (M 1)), .ref a1x], zA cy a1x 3 (sl M 2), zO s0x 2 [.int (iI (M 6)), .int (iI (M 7)), .ref s1x, .ref s2x, .ref s3x], zA cy s1x 80 (sl M 12), zA cy s2x 240 (sl M 92), zA cy s3x 240 (sl M 332), zO r0x 1 [.int (iI (M 9)), .int (iI L), .int (iI (M 10)), .int (iI (M 11)), .ref r1x, .ref r2x, .ref r3x, .ref r4x], zA cy r1x 80 (sl M 604), zA cy r2x 32 (sl M 572), zA cy r3x 32 nx, zA cy r4x 80 fu, zO d0 3 [.int (iI (M 5)), .ref a0, .ref s0, .ref r0], zO a0 0 [.int (iI (M 0)), .int (iI (M 1)), .ref a1], zA cy a1 3 (sl M 2), zO s0 2 [.int (iI (M 6)), .int (iI (M 7)), .ref s1, .ref s2, .ref s3], zA cy s1 80 (sl M 12), zA cy s2 240 (sl M 92), zA cy s3 240 (sl M 332), zO r0 1 [.int (iI (M 9)), .int (iI L), .int (iI (M 10)), .int (iI (M 11)), .ref r1, .ref r2, .ref r3, .ref r4], zA cy r1 80 (sl M 604), zA cy r2 32 (sl M 572), zA cy r3 32 fn, zA cy r4 80 fu]) 21 rfl (by intro k hk0 hk1; first | rfl | omega) rfl
  exact z_vret C hr hlk wd dX3_copyFrom_41
set_option maxRecDepth 100000 in
set_option maxHeartbeats 4000000 in
theorem c_X5_dropOldest (l : Launch) (D : va_G) (cy cs : ClassId) (w0 w1 w2 t0 : Nat) (d0 d0k d0x a0x s0x r0x : Nat) (iK ex5 : Int) (d0f a0f s0f r0f d0g a0g s0g r0g d0h a0h s0h r0h : Nat) (ef5 eg5 eh5 : Int)  : zCv l D (zT cy cs) yX5_dropOldest wsX5_dropOldest ({ frames := 0, cells := 0, slots := 0, locals := 0 } : Room) [.ref w0] [zO w0 5 [.ref d0, .ref d0k, .int (iI iK), .ref w1, .int (iI 4), .ref t0, .ref w2], zR cs w1 4 (afF 0 d0x d0f d0g d0h), zO d0x 3 [.int (iI ex5), .ref a0x, .ref s0x, .ref r0x], zO d0f 3 [.int (iI ef5), .ref a0f, .ref s0f, .ref r0f], zO d0g 3 [.int (iI eg5), .ref a0g, .ref s0g, .ref r0g], zO d0h 3 [.int (iI eh5), .ref a0h, .ref s0h, .ref r0h]] [zO w0 5 [.ref d0, .ref d0k, .int (iI iK), .ref w1, .int (iI 3), .ref t0, .ref w2], zR cs w1 4 (afF 3 d0x d0f d0g d0h), zO d0x 3 [.int (iI ex5), .ref a0x, .ref s0x, .ref r0x], zO d0f 3 [.int (iI ef5), .ref a0f, .ref s0f, .ref r0f], zO d0g 3 [.int (iI eg5), .ref a0g, .ref s0g, .ref r0g], zO d0h 3 [.int (iI eh5), .ref a0h, .ref s0h, .ref r0h]] := by
  intro sz
  refine zM_mk (cc := cX5_dropOldest) (maxL := 3) (ret := none) (own := RX5) (Qc := fun sz => va_Qv (fun (_ : Unit) => True) (fun _ t => zQ D (zT cy cs) (va_A [zO w0 5 [.ref d0, .ref d0k, .int (iI iK), .ref w1, .int (iI 4), .ref t0, .ref w2], zR cs w1 4 (afF 0 d0x d0f d0g d0h), zO d0x 3 [.int (iI ex5), .ref a0x, .ref s0x, .ref r0x], zO d0f 3 [.int (iI ef5), .ref a0f, .ref s0f, .ref r0f], zO d0g 3 [.int (iI eg5), .ref a0g, .ref s0g, .ref r0g], zO d0h 3 [.int (iI eh5), .ref a0h, .ref s0h, .ref r0h]] sz) [zO w0 5 [.ref d0, .ref d0k, .int (iI iK), .ref w1, .int (iI 3), .ref t0, .ref w2], zR cs w1 4 (afF 3 d0x d0f d0g d0h), zO d0x 3 [.int (iI ex5), .ref a0x, .ref s0x, .ref r0x], zO d0f 3 [.int (iI ef5), .ref a0f, .ref s0f, .ref r0f], zO d0g 3 [.int (iI eg5), .ref a0g, .ref s0g, .ref r0g], zO d0h 3 [.int (iI eh5), .ref a0h, .ref s0h, .ref r0h]] t) (va_A [zO w0 5 [.ref d0, .ref d0k, .int (iI iK), .ref w1, .int (iI 4), .ref t0, .ref w2], zR cs w1 4 (afF 0 d0x d0f d0g d0h), zO d0x 3 [.int (iI ex5), .ref a0x, .ref s0x, .ref r0x], zO d0f 3 [.int (iI ef5), .ref a0f, .ref s0f, .ref r0f], zO d0g 3 [.int (iI eg5), .ref a0g, .ref s0g, .ref r0g], zO d0h 3 [.int (iI eh5), .ref a0h, .ref s0h, .ref r0h]] sz)) (by decide) rfl rfl (Nat.le_of_ble_eq_true rfl) rfl sz ?_
  intro p e s m args below meth c ls C hr hlk hnm hl hsz hA wd
  subst hsz
  have hl : lv_has ls 3 [(0, .ref w0)] := hl
  have iX5 : ∀ w ∈ u_ws RX5 TX5 7, w ∈ wsX5_dropOldest := by decide +kernel
  have L23 := C.2.2.2.2 (.fieldLink RX5 23 "LikelyWalks" "past" "[LLikelyWalks$State;") (by decide +kernel)
  have L27 := C.2.2.2.2 (.fieldLink RX5 27 "LikelyWalks" "pastCount" "I") (by decide +kernel)
  refine lv_aload_n C.1 C.2.1 dX5_dropOldest_0 rfl (lv_at hl 0 rfl) ?_
  refine z_get C wd (Cn := RX5) (TT := TX5) (N := 7) (ci := 5) iX5 0 rfl rfl 3 (by decide) L23 (fun _ h => h) rfl dX5_dropOldest_1 ?_
  refine z_iconst C dX5_dropOldest_4 ?_
  refine z_aald C wd (v := d0x) 1 rfl (by omega) (by decide) rfl dX5_dropOldest_5 ?_
  refine lv_astore_n (lv' := [(1, .ref d0x), (0, .ref w0)]) C.1 C.2.1 dX5_dropOldest_6 rfl hl (by decide) rfl (fun ls hl => ?_)
  refine z_iconst C dX5_dropOldest_7 ?_
  refine lv_istore_n (lv' := [(2, .int (iI 1)), (1, .ref d0x), (0, .ref w0)]) C.1 C.2.1 dX5_dropOldest_8 rfl hl (by decide) rfl (fun ls hl => ?_)
  refine lv_iload_n C.1 C.2.1 dX5_dropOldest_9 rfl (lv_at hl 0 rfl) ?_
  refine z_iconst C dX5_dropOldest_10 ?_
  refine z_icmp_ge C (tgt := 34) dX5_dropOldest_11 (by decide) (by omega) (fun c_1 => ?_) (fun c_1 => ?_)
  · skip
    exact False.elim (by omega)
  · skip
    refine lv_aload_n C.1 C.2.1 dX5_dropOldest_14 rfl (lv_at hl 2 rfl) ?_
    refine z_get C wd (Cn := RX5) (TT := TX5) (N := 7) (ci := 5) iX5 0 rfl rfl 3 (by decide) L23 (fun _ h => h) rfl dX5_dropOldest_15 ?_
    refine lv_iload_n C.1 C.2.1 dX5_dropOldest_18 rfl (lv_at hl 0 rfl) ?_
    refine z_iconst C dX5_dropOldest_19 ?_
    refine z_isub C dX5_dropOldest_20 ?_
    refine lv_aload_n C.1 C.2.1 dX5_dropOldest_21 rfl (lv_at hl 2 rfl) ?_
    refine z_get C wd (Cn := RX5) (TT := TX5) (N := 7) (ci := 5) iX5 0 rfl rfl 3 (by decide) L23 (fun _ h => h) rfl dX5_dropOldest_22 ?_
    refine lv_iload_n C.1 C.2.1 dX5_dropOldest_25 rfl (lv_at hl 0 rfl) ?_
    refine z_aald C wd (v := d0f) 1 rfl (by omega) (by decide) rfl dX5_dropOldest_26 ?_
    refine z_aast C wd (ws2 := [zO w0 5 [.ref d0, .ref d0k, .int (iI iK), .ref w1, .int (iI 4), .ref t0, .ref w2], zR cs w1 4 (zU (afF 0 d0x d0f d0g d0h) (1 - 1) d0f), zO d0x 3 [.int (iI ex5), .ref a0x, .ref s0x, .ref r0x], zO d0f 3 [.int (iI ef5), .ref a0f, .ref s0f, .ref r0f], zO d0g 3 [.int (iI eg5), .ref a0g, .ref s0g, .ref r0g], zO d0h 3 [.int (iI eh5), .ref a0h, .ref s0h, .ref r0h]]) 1 3 rfl rfl (by omega) (by decide) rfl dX5_dropOldest_27 (fun H locs wd => ?_)
    refine z_iinc C (lv' := [(2, .int (iI (1 + 1))), (1, .ref d0x), (0, .ref w0)]) hl 0 dX5_dropOldest_28 rfl (by decide) rfl (fun ls hl => ?_)
    refine z_goto C (tgt := 9) dX5_dropOldest_31 (by decide) ?_
    refine lv_iload_n C.1 C.2.1 dX5_dropOldest_9 rfl (lv_at hl 0 rfl) ?_
    refine z_iconst C dX5_dropOldest_10 ?_
    refine z_icmp_ge C (tgt := 34) dX5_dropOldest_11 (by decide) (by omega) (fun c_2 => ?_) (fun c_2 => ?_)
    · skip
      exact False.elim (by omega)
    · skip
      refine lv_aload_n C.1 C.2.1 dX5_dropOldest_14 rfl (lv_at hl 2 rfl) ?_
      refine z_get C wd (Cn := RX5) (TT := TX5) (N := 7) (ci := 5) iX5 0 rfl rfl 3 (by decide) L23 (fun _ h => h) rfl dX5_dropOldest_15 ?_
      refine lv_iload_n C.1 C.2.1 dX5_dropOldest_18 rfl (lv_at hl 0 rfl) ?_
      refine z_iconst C dX5_dropOldest_19 ?_
      refine z_isub C dX5_dropOldest_20 ?_
      refine lv_aload_n C.1 C.2.1 dX5_dropOldest_21 rfl (lv_at hl 2 rfl) ?_
      refine z_get C wd (Cn := RX5) (TT := TX5) (N := 7) (ci := 5) iX5 0 rfl rfl 3 (by decide) L23 (fun _ h => h) rfl dX5_dropOldest_22 ?_
      refine lv_iload_n C.1 C.2.1 dX5_dropOldest_25 rfl (lv_at hl 0 rfl) ?_
      refine z_aald C wd (v := d0g) 1 rfl (by omega) (by decide) rfl dX5_dropOldest_26 ?_
      refine z_aast C wd (ws2 := [zO w0 5 [.ref d0, .ref d0k, .int (iI iK), .ref w1, .int (iI 4), .ref t0, .ref w2], zR cs w1 4 (zU (zU (afF 0 d0x d0f d0g d0h) (1 - 1) d0f) ((1 + 1) - 1) d0g), zO d0x 3 [.int (iI ex5), .ref a0x, .ref s0x, .ref r0x], zO d0f 3 [.int (iI ef5), .ref a0f, .ref s0f, .ref r0f], zO d0g 3 [.int (iI eg5), .ref a0g, .ref s0g, .ref r0g], zO d0h 3 [.int (iI eh5), .ref a0h, .ref s0h, .ref r0h]]) 1 4 rfl rfl (by omega) (by decide) rfl dX5_dropOldest_27 (fun H locs wd => ?_)
      refine z_iinc C (lv' := [(2, .int (iI ((1 + 1) + 1))), (1, .ref d0x), (0, .ref w0)]) hl 0 dX5_dropOldest_28 rfl (by decide) rfl (fun ls hl => ?_)
      refine z_goto C (tgt := 9) dX5_dropOldest_31 (by decide) ?_
      refine lv_iload_n C.1 C.2.1 dX5_dropOldest_9 rfl (lv_at hl 0 rfl) ?_
      refine z_iconst C dX5_dropOldest_10 ?_
      refine z_icmp_ge C (tgt := 34) dX5_dropOldest_11 (by decide) (by omega) (fun c_3 => ?_) (fun c_3 => ?_)
      · skip
        exact False.elim (by omega)
      · skip
        refine lv_aload_n C.1 C.2.1 dX5_dropOldest_14 rfl (lv_at hl 2 rfl) ?_
        refine z_get C wd (Cn := RX5) (TT := TX5) (N := 7) (ci := 5) iX5 0 rfl rfl 3 (by decide) L23 (fun _ h => h) rfl dX5_dropOldest_15 ?_
        refine lv_iload_n C.1 C.2.1 dX5_dropOldest_18 rfl (lv_at hl 0 rfl) ?_
        refine z_iconst C dX5_dropOldest_19 ?_
        refine z_isub C dX5_dropOldest_20 ?_
        refine lv_aload_n C.1 C.2.1 dX5_dropOldest_21 rfl (lv_at hl 2 rfl) ?_
        refine z_get C wd (Cn := RX5) (TT := TX5) (N := 7) (ci := 5) iX5 0 rfl rfl 3 (by decide) L23 (fun _ h => h) rfl dX5_dropOldest_22 ?_
        refine lv_iload_n C.1 C.2.1 dX5_dropOldest_25 rfl (lv_at hl 0 rfl) ?_
        refine z_aald C wd (v := d0h) 1 rfl (by omega) (by decide) rfl dX5_dropOldest_26 ?_
        refine z_aast C wd (ws2 := [zO w0 5 [.ref d0, .ref d0k, .int (iI iK), .ref w1, .int (iI 4), .ref t0, .ref w2], zR cs w1 4 (zU (zU (zU (afF 0 d0x d0f d0g d0h) (1 - 1) d0f) ((1 + 1) - 1) d0g) (((1 + 1) + 1) - 1) d0h), zO d0x 3 [.int (iI ex5), .ref a0x, .ref s0x, .ref r0x], zO d0f 3 [.int (iI ef5), .ref a0f, .ref s0f, .ref r0f], zO d0g 3 [.int (iI eg5), .ref a0g, .ref s0g, .ref r0g], zO d0h 3 [.int (iI eh5), .ref a0h, .ref s0h, .ref r0h]]) 1 5 rfl rfl (by omega) (by decide) rfl dX5_dropOldest_27 (fun H locs wd => ?_)
        refine z_iinc C (lv' := [(2, .int (iI (((1 + 1) + 1) + 1))), (1, .ref d0x), (0, .ref w0)]) hl 0 dX5_dropOldest_28 rfl (by decide) rfl (fun ls hl => ?_)
        refine z_goto C (tgt := 9) dX5_dropOldest_31 (by decide) ?_
        refine lv_iload_n C.1 C.2.1 dX5_dropOldest_9 rfl (lv_at hl 0 rfl) ?_
        refine z_iconst C dX5_dropOldest_10 ?_
        refine z_icmp_ge C (tgt := 34) dX5_dropOldest_11 (by decide) (by omega) (fun c_4 => ?_) (fun c_4 => ?_)
        · skip
          refine lv_aload_n C.1 C.2.1 dX5_dropOldest_34 rfl (lv_at hl 2 rfl) ?_
          refine z_get C wd (Cn := RX5) (TT := TX5) (N := 7) (ci := 5) iX5 0 rfl rfl 3 (by decide) L23 (fun _ h => h) rfl dX5_dropOldest_35 ?_
          refine z_iconst C dX5_dropOldest_38 ?_
          refine lv_aload_n C.1 C.2.1 dX5_dropOldest_39 rfl (lv_at hl 1 rfl) ?_
          refine z_aast C wd (ws2 := [zO w0 5 [.ref d0, .ref d0k, .int (iI iK), .ref w1, .int (iI 4), .ref t0, .ref w2], zR cs w1 4 (zU (zU (zU (zU (afF 0 d0x d0f d0g d0h) (1 - 1) d0f) ((1 + 1) - 1) d0g) (((1 + 1) + 1) - 1) d0h) 3 d0x), zO d0x 3 [.int (iI ex5), .ref a0x, .ref s0x, .ref r0x], zO d0f 3 [.int (iI ef5), .ref a0f, .ref s0f, .ref r0f], zO d0g 3 [.int (iI eg5), .ref a0g, .ref s0g, .ref r0g], zO d0h 3 [.int (iI eh5), .ref a0h, .ref s0h, .ref r0h]]) 1 2 rfl rfl (by omega) (by decide) rfl dX5_dropOldest_40 (fun H locs wd => ?_)
          refine lv_aload_n C.1 C.2.1 dX5_dropOldest_41 rfl (lv_at hl 2 rfl) ?_
          refine z_iconst C dX5_dropOldest_42 ?_
          refine z_put C wd (Cn := RX5) (TT := TX5) (N := 7) (ci := 5) (ws2 := [zO w0 5 [.ref d0, .ref d0k, .int (iI iK), .ref w1, .int (iI 3), .ref t0, .ref w2], zR cs w1 4 (zU (zU (zU (zU (afF 0 d0x d0f d0g d0h) (1 - 1) d0f) ((1 + 1) - 1) d0g) (((1 + 1) + 1) - 1) d0h) 3 d0x), zO d0x 3 [.int (iI ex5), .ref a0x, .ref s0x, .ref r0x], zO d0f 3 [.int (iI ef5), .ref a0f, .ref s0f, .ref r0f], zO d0g 3 [.int (iI eg5), .ref a0g, .ref s0g, .ref r0g], zO d0h 3 [.int (iI eh5), .ref a0h, .ref s0h, .ref r0h]]) iX5 tyX5 tyX5_ok nmX5 0 rfl rfl 4 (by decide) L27 (fun _ h => h) rfl (ty := .int) (by decide +kernel) rfl rfl (Nat.le_of_ble_eq_true rfl) rfl dX5_dropOldest_43 (fun H locs wd => ?_)
          have wd := z_cellR wd (ws2 := [zO w0 5 [.ref d0, .ref d0k, .int (iI iK), .ref w1, .int (iI 3), .ref t0, .ref w2], zR cs w1 4 (afF 3 d0x d0f d0g d0h), zO d0x 3 [.int (iI ex5), .ref a0x, .ref s0x, .ref r0x], zO d0f 3 [.int (iI ef5), .ref a0f, .ref s0f, .ref r0f], zO d0g 3 [.int (iI eg5), .ref a0g, .ref s0g, .ref r0g], zO d0h 3 [.int (iI eh5), .ref a0h, .ref s0h, .ref r0h]]) 1 rfl (afF_r _ _ _ _ _ rfl rfl rfl rfl) rfl
          exact z_vret C hr hlk wd dX5_dropOldest_46
        · skip
          exact False.elim (by omega)
set_option maxRecDepth 100000 in
set_option maxHeartbeats 4000000 in
theorem c_recA (l : Launch) (D : va_G) (cy cs : ClassId) (w0 w1 w2 t0 : Nat) (d0k : Nat) (iK n : Int) (d0 a0 a1 s0 s1 s2 s3 r0 r1 r2 r3 r4 : Nat) (L : Int) (M fu fn : Int → Int) (d0x a0x a1x s0x s1x s2x s3x r0x r1x r2x r3x r4x : Nat) (Lx : Int) (Mx ux nx : Int → Int) (d0f a0f s0f r0f d0g a0g s0g r0g d0h a0h s0h r0h : Nat) (ef5 eg5 eh5 : Int) (ht : tpOk (sl M 2)) (hoT : M 1 = oT (M 4)) (hE : M 11 = 0 ∨ M 11 = 1) (hn : 0 ≤ n ∧ n < 4) : zCv l D (zT cy cs) yX5_recordNow wsX5_recordNow ({ frames := 3, cells := 0, slots := 0, locals := 66 } : Room) [.ref w0] [zO w0 5 [.ref d0, .ref d0k, .int (iI iK), .ref w1, .int (iI n), .ref t0, .ref w2], zR cs w1 4 (afF n d0x d0f d0g d0h), zO d0 3 [.int (iI (M 5)), .ref a0, .ref s0, .ref r0], zO a0 0 [.int (iI (M 0)), .int (iI (M 1)), .ref a1], zA cy a1 3 (sl M 2), zO s0 2 [.int (iI (M 6)), .int (iI (M 7)), .ref s1, .ref s2, .ref s3], zA cy s1 80 (sl M 12), zA cy s2 240 (sl M 92), zA cy s3 240 (sl M 332), zO r0 1 [.int (iI (M 9)), .int (iI L), .int (iI (M 10)), .int (iI (M 11)), .ref r1, .ref r2, .ref r3, .ref r4], zA cy r1 80 (sl M 604), zA cy r2 32 (sl M 572), zA cy r3 32 fn, zA cy r4 80 fu, zO d0x 3 [.int (iI (Mx 5)), .ref a0x, .ref s0x, .ref r0x], zO a0x 0 [.int (iI (Mx 0)), .int (iI (Mx 1)), .ref a1x], zA cy a1x 3 (sl Mx 2), zO s0x 2 [.int (iI (Mx 6)), .int (iI (Mx 7)), .ref s1x, .ref s2x, .ref s3x], zA cy s1x 80 (sl Mx 12), zA cy s2x 240 (sl Mx 92), zA cy s3x 240 (sl Mx 332), zO r0x 1 [.int (iI (Mx 9)), .int (iI Lx), .int (iI (Mx 10)), .int (iI (Mx 11)), .ref r1x, .ref r2x, .ref r3x, .ref r4x], zA cy r1x 80 (sl Mx 604), zA cy r2x 32 (sl Mx 572), zA cy r3x 32 nx, zA cy r4x 80 ux, zO d0f 3 [.int (iI ef5), .ref a0f, .ref s0f, .ref r0f], zO d0g 3 [.int (iI eg5), .ref a0g, .ref s0g, .ref r0g], zO d0h 3 [.int (iI eh5), .ref a0h, .ref s0h, .ref r0h]] [zO w0 5 [.ref d0, .ref d0k, .int (iI iK), .ref w1, .int (iI (n + 1)), .ref t0, .ref w2], zR cs w1 4 (afF n d0x d0f d0g d0h), zO d0 3 [.int (iI (M 5)), .ref a0, .ref s0, .ref r0], zO a0 0 [.int (iI (M 0)), .int (iI (M 1)), .ref a1], zA cy a1 3 (sl M 2), zO s0 2 [.int (iI (M 6)), .int (iI (M 7)), .ref s1, .ref s2, .ref s3], zA cy s1 80 (sl M 12), zA cy s2 240 (sl M 92), zA cy s3 240 (sl M 332), zO r0 1 [.int (iI (M 9)), .int (iI L), .int (iI (M 10)), .int (iI (M 11)), .ref r1, .ref r2, .ref r3, .ref r4], zA cy r1 80 (sl M 604), zA cy r2 32 (sl M 572), zA cy r3 32 fn, zA cy r4 80 fu, zO d0x 3 [.int (iI (M 5)), .ref a0x, .ref s0x, .ref r0x], zO a0x 0 [.int (iI (M 0)), .int (iI (M 1)), .ref a1x], zA cy a1x 3 (sl M 2), zO s0x 2 [.int (iI (M 6)), .int (iI (M 7)), .ref s1x, .ref s2x, .ref s3x], zA cy s1x 80 (sl M 12), zA cy s2x 240 (sl M 92), zA cy s3x 240 (sl M 332), zO r0x 1 [.int (iI (M 9)), .int (iI L), .int (iI (M 10)), .int (iI (M 11)), .ref r1x, .ref r2x, .ref r3x, .ref r4x], zA cy r1x 80 (sl M 604), zA cy r2x 32 (sl M 572), zA cy r3x 32 nx, zA cy r4x 80 fu, zO d0f 3 [.int (iI ef5), .ref a0f, .ref s0f, .ref r0f], zO d0g 3 [.int (iI eg5), .ref a0g, .ref s0g, .ref r0g], zO d0h 3 [.int (iI eh5), .ref a0h, .ref s0h, .ref r0h]] := by
  intro sz
  refine zM_mk (cc := cX5_recordNow) (maxL := 1) (ret := none) (own := RX5) (Qc := fun sz => va_Qv (fun (_ : Unit) => True) (fun _ t => zQ D (zT cy cs) (va_A [zO w0 5 [.ref d0, .ref d0k, .int (iI iK), .ref w1, .int (iI n), .ref t0, .ref w2], zR cs w1 4 (afF n d0x d0f d0g d0h), zO d0 3 [.int (iI (M 5)), .ref a0, .ref s0, .ref r0], zO a0 0 [.int (iI (M 0)), .int (iI (M 1)), .ref a1], zA cy a1 3 (sl M 2), zO s0 2 [.int (iI (M 6)), .int (iI (M 7)), .ref s1, .ref s2, .ref s3], zA cy s1 80 (sl M 12), zA cy s2 240 (sl M 92), zA cy s3 240 (sl M 332), zO r0 1 [.int (iI (M 9)), .int (iI L), .int (iI (M 10)), .int (iI (M 11)), .ref r1, .ref r2, .ref r3, .ref r4], zA cy r1 80 (sl M 604), zA cy r2 32 (sl M 572), zA cy r3 32 fn, zA cy r4 80 fu, zO d0x 3 [.int (iI (Mx 5)), .ref a0x, .ref s0x, .ref r0x], zO a0x 0 [.int (iI (Mx 0)), .int (iI (Mx 1)), .ref a1x], zA cy a1x 3 (sl Mx 2), zO s0x 2 [.int (iI (Mx 6)), .int (iI (Mx 7)), .ref s1x, .ref s2x, .ref s3x], zA cy s1x 80 (sl Mx 12), zA cy s2x 240 (sl Mx 92), zA cy s3x 240 (sl Mx 332), zO r0x 1 [.int (iI (Mx 9)), .int (iI Lx), .int (iI (Mx 10)), .int (iI (Mx 11)), .ref r1x, .ref r2x, .ref r3x, .ref r4x], zA cy r1x 80 (sl Mx 604), zA cy r2x 32 (sl Mx 572), zA cy r3x 32 nx, zA cy r4x 80 ux, zO d0f 3 [.int (iI ef5), .ref a0f, .ref s0f, .ref r0f], zO d0g 3 [.int (iI eg5), .ref a0g, .ref s0g, .ref r0g], zO d0h 3 [.int (iI eh5), .ref a0h, .ref s0h, .ref r0h]] sz) [zO w0 5 [.ref d0, .ref d0k, .int (iI iK), .ref w1, .int (iI (n + 1)), .ref t0, .ref w2], zR cs w1 4 (afF n d0x d0f d0g d0h), zO d0 3 [.int (iI (M 5)), .ref a0, .ref s0, .ref r0], zO a0 0 [.int (iI (M 0)), .int (iI (M 1)), .ref a1], zA cy a1 3 (sl M 2), zO s0 2 [.int (iI (M 6)), .int (iI (M 7)), .ref s1, .ref s2, .ref s3], zA cy s1 80 (sl M 12), zA cy s2 240 (sl M 92), zA cy s3 240 (sl M 332), zO r0 1 [.int (iI (M 9)), .int (iI L), .int (iI (M 10)), .int (iI (M 11)), .ref r1, .ref r2, .ref r3, .ref r4], zA cy r1 80 (sl M 604), zA cy r2 32 (sl M 572), zA cy r3 32 fn, zA cy r4 80 fu, zO d0x 3 [.int (iI (M 5)), .ref a0x, .ref s0x, .ref r0x], zO a0x 0 [.int (iI (M 0)), .int (iI (M 1)), .ref a1x], zA cy a1x 3 (sl M 2), zO s0x 2 [.int (iI (M 6)), .int (iI (M 7)), .ref s1x, .ref s2x, .ref s3x], zA cy s1x 80 (sl M 12), zA cy s2x 240 (sl M 92), zA cy s3x 240 (sl M 332), zO r0x 1 [.int (iI (M 9)), .int (iI L), .int (iI (M 10)), .int (iI (M 11)), .ref r1x, .ref r2x, .ref r3x, .ref r4x], zA cy r1x 80 (sl M 604), zA cy r2x 32 (sl M 572), zA cy r3x 32 nx, zA cy r4x 80 fu, zO d0f 3 [.int (iI ef5), .ref a0f, .ref s0f, .ref r0f], zO d0g 3 [.int (iI eg5), .ref a0g, .ref s0g, .ref r0g], zO d0h 3 [.int (iI eh5), .ref a0h, .ref s0h, .ref r0h]] t) (va_A [zO w0 5 [.ref d0, .ref d0k, .int (iI iK), .ref w1, .int (iI n), .ref t0, .ref w2], zR cs w1 4 (afF n d0x d0f d0g d0h), zO d0 3 [.int (iI (M 5)), .ref a0, .ref s0, .ref r0], zO a0 0 [.int (iI (M 0)), .int (iI (M 1)), .ref a1], zA cy a1 3 (sl M 2), zO s0 2 [.int (iI (M 6)), .int (iI (M 7)), .ref s1, .ref s2, .ref s3], zA cy s1 80 (sl M 12), zA cy s2 240 (sl M 92), zA cy s3 240 (sl M 332), zO r0 1 [.int (iI (M 9)), .int (iI L), .int (iI (M 10)), .int (iI (M 11)), .ref r1, .ref r2, .ref r3, .ref r4], zA cy r1 80 (sl M 604), zA cy r2 32 (sl M 572), zA cy r3 32 fn, zA cy r4 80 fu, zO d0x 3 [.int (iI (Mx 5)), .ref a0x, .ref s0x, .ref r0x], zO a0x 0 [.int (iI (Mx 0)), .int (iI (Mx 1)), .ref a1x], zA cy a1x 3 (sl Mx 2), zO s0x 2 [.int (iI (Mx 6)), .int (iI (Mx 7)), .ref s1x, .ref s2x, .ref s3x], zA cy s1x 80 (sl Mx 12), zA cy s2x 240 (sl Mx 92), zA cy s3x 240 (sl Mx 332), zO r0x 1 [.int (iI (Mx 9)), .int (iI Lx), .int (iI (Mx 10)), .int (iI (Mx 11)), .ref r1x, .ref r2x, .ref r3x, .ref r4x], zA cy r1x 80 (sl Mx 604), zA cy r2x 32 (sl Mx 572), zA cy r3x 32 nx, zA cy r4x 80 ux, zO d0f 3 [.int (iI ef5), .ref a0f, .ref s0f, .ref r0f], zO d0g 3 [.int (iI eg5), .ref a0g, .ref s0g, .ref r0g], zO d0h 3 [.int (iI eh5), .ref a0h, .ref s0h, .ref r0h]] sz)) (by decide) rfl rfl (Nat.le_of_ble_eq_true rfl) rfl sz ?_
  intro p e s m args below meth c ls C hr hlk hnm hl hsz hA wd
  subst hsz
  have hl : lv_has ls 1 [(0, .ref w0)] := hl
  have iX5 : ∀ w ∈ u_ws RX5 TX5 7, w ∈ wsX5_recordNow := by decide +kernel
  have L12 := C.2.2.2.2 (.fieldLink RX5 12 "LikelyWalks" "now" "LLikelyWalks$State;") (by decide +kernel)
  have L23 := C.2.2.2.2 (.fieldLink RX5 23 "LikelyWalks" "past" "[LLikelyWalks$State;") (by decide +kernel)
  have L27 := C.2.2.2.2 (.fieldLink RX5 27 "LikelyWalks" "pastCount" "I") (by decide +kernel)
  refine lv_aload_n C.1 C.2.1 dX5_recordNow_0 rfl (lv_at hl 0 rfl) ?_
  refine z_get C wd (Cn := RX5) (TT := TX5) (N := 7) (ci := 5) iX5 0 rfl rfl 4 (by decide) L27 (fun _ h => h) rfl dX5_recordNow_1 ?_
  refine z_iconst C dX5_recordNow_4 ?_
  refine z_icmp_lt C (tgt := 12) dX5_recordNow_5 (by decide) (by omega) (fun c_1 => ?_) (fun c_1 => ?_)
  · skip
    refine lv_aload_n C.1 C.2.1 dX5_recordNow_12 rfl (lv_at hl 0 rfl) ?_
    refine z_get C wd (Cn := RX5) (TT := TX5) (N := 7) (ci := 5) iX5 0 rfl rfl 3 (by decide) L23 (fun _ h => h) rfl dX5_recordNow_13 ?_
    refine lv_aload_n C.1 C.2.1 dX5_recordNow_16 rfl (lv_at hl 0 rfl) ?_
    refine z_get C wd (Cn := RX5) (TT := TX5) (N := 7) (ci := 5) iX5 0 rfl rfl 4 (by decide) L27 (fun _ h => h) rfl dX5_recordNow_17 ?_
    refine z_aald C wd (v := d0x) 1 rfl (by omega) (by decide) (afF_t _ _ _ _ _ hn.1) dX5_recordNow_20 ?_
    refine lv_aload_n C.1 C.2.1 dX5_recordNow_21 rfl (lv_at hl 0 rfl) ?_
    refine z_get C wd (Cn := RX5) (TT := TX5) (N := 7) (ci := 5) iX5 0 rfl rfl 0 (by decide) L12 (fun _ h => h) rfl dX5_recordNow_22 ?_
    refine z_cvv C wd hA (As := [.ref d0]) (rest := []) (ws2 := [zO w0 5 [.ref d0, .ref d0k, .int (iI iK), .ref w1, .int (iI n), .ref t0, .ref w2], zR cs w1 4 (afF n d0x d0f d0g d0h), zO d0 3 [.int (iI (M 5)), .ref a0, .ref s0, .ref r0], zO a0 0 [.int (iI (M 0)), .int (iI (M 1)), .ref a1], zA cy a1 3 (sl M 2), zO s0 2 [.int (iI (M 6)), .int (iI (M 7)), .ref s1, .ref s2, .ref s3], zA cy s1 80 (sl M 12), zA cy s2 240 (sl M 92), zA cy s3 240 (sl M 332), zO r0 1 [.int (iI (M 9)), .int (iI L), .int (iI (M 10)), .int (iI (M 11)), .ref r1, .ref r2, .ref r3, .ref r4], zA cy r1 80 (sl M 604), zA cy r2 32 (sl M 572), zA cy r3 32 fn, zA cy r4 80 fu, zO d0x 3 [.int (iI (M 5)), .ref a0x, .ref s0x, .ref r0x], zO a0x 0 [.int (iI (M 0)), .int (iI (M 1)), .ref a1x], zA cy a1x 3 (sl M 2), zO s0x 2 [.int (iI (M 6)), .int (iI (M 7)), .ref s1x, .ref s2x, .ref s3x], zA cy s1x 80 (sl M 12), zA cy s2x 240 (sl M 92), zA cy s3x 240 (sl M 332), zO r0x 1 [.int (iI (M 9)), .int (iI L), .int (iI (M 10)), .int (iI (M 11)), .ref r1x, .ref r2x, .ref r3x, .ref r4x], zA cy r1x 80 (sl M 604), zA cy r2x 32 (sl M 572), zA cy r3x 32 nx, zA cy r4x 80 fu, zO d0f 3 [.int (iI ef5), .ref a0f, .ref s0f, .ref r0f], zO d0g 3 [.int (iI eg5), .ref a0g, .ref s0g, .ref r0g], zO d0h 3 [.int (iI eh5), .ref a0h, .ref s0h, .ref r0h]]) (c_X3_copyFrom l D cy cs d0x a0x a1x s0x s1x s2x s3x r0x r1x r2x r3x r4x Lx Mx ux nx d0 a0 a1 s0 s1 s2 s3 r0 r1 r2 r3 r4 L M fu fn ht hoT hE) (cwV 1 C.2.2.2.2 gX5_recordNow_X3_copyFrom rfl rfl rfl (by decide +kernel) ⟨Nat.le_of_ble_eq_true rfl, Nat.le_of_ble_eq_true rfl⟩) [14, 15, 16, 17, 18, 19, 20, 21, 22, 23, 24, 25, 2, 3, 4, 5, 6, 7, 8, 9, 10, 11, 12, 13] rfl rfl rfl ⟨rfl, [0, 1, 26, 27, 28], [zO w0 5 [.ref d0, .ref d0k, .int (iI iK), .ref w1, .int (iI n), .ref t0, .ref w2], zR cs w1 4 (afF n d0x d0f d0g d0h), zO d0f 3 [.int (iI ef5), .ref a0f, .ref s0f, .ref r0f], zO d0g 3 [.int (iI eg5), .ref a0g, .ref s0g, .ref r0g], zO d0h 3 [.int (iI eh5), .ref a0h, .ref s0h, .ref r0h]], 29, rfl, rfl, rfl, by decide +kernel⟩ rfl rfl rfl rfl (Nat.le_of_ble_eq_true rfl) hl.1 dX5_recordNow_25 ⟨Nat.zero_le _, Nat.zero_le _⟩ (fun H locs wd => ?_)
    refine lv_aload_n C.1 C.2.1 dX5_recordNow_28 rfl (lv_at hl 0 rfl) ?_
    refine lv_dup C.1 C.2.1 dX5_recordNow_29 rfl ?_
    refine z_get C wd (Cn := RX5) (TT := TX5) (N := 7) (ci := 5) iX5 0 rfl rfl 4 (by decide) L27 (fun _ h => h) rfl dX5_recordNow_30 ?_
    refine z_iconst C dX5_recordNow_33 ?_
    refine z_iadd C dX5_recordNow_34 ?_
    refine z_put C wd (Cn := RX5) (TT := TX5) (N := 7) (ci := 5) (ws2 := [zO w0 5 [.ref d0, .ref d0k, .int (iI iK), .ref w1, .int (iI (n + 1)), .ref t0, .ref w2], zR cs w1 4 (afF n d0x d0f d0g d0h), zO d0 3 [.int (iI (M 5)), .ref a0, .ref s0, .ref r0], zO a0 0 [.int (iI (M 0)), .int (iI (M 1)), .ref a1], zA cy a1 3 (sl M 2), zO s0 2 [.int (iI (M 6)), .int (iI (M 7)), .ref s1, .ref s2, .ref s3], zA cy s1 80 (sl M 12), zA cy s2 240 (sl M 92), zA cy s3 240 (sl M 332), zO r0 1 [.int (iI (M 9)), .int (iI L), .int (iI (M 10)), .int (iI (M 11)), .ref r1, .ref r2, .ref r3, .ref r4], zA cy r1 80 (sl M 604), zA cy r2 32 (sl M 572), zA cy r3 32 fn, zA cy r4 80 fu, zO d0x 3 [.int (iI (M 5)), .ref a0x, .ref s0x, .ref r0x], zO a0x 0 [.int (iI (M 0)), .int (iI (M 1)), .ref a1x], zA cy a1x 3 (sl M 2), zO s0x 2 [.int (iI (M 6)), .int (iI (M 7)), .ref s1x, .ref s2x, .ref s3x], zA cy s1x 80 (sl M 12), zA cy s2x 240 (sl M 92), zA cy s3x 240 (sl M 332), zO r0x 1 [.int (iI (M 9)), .int (iI L), .int (iI (M 10)), .int (iI (M 11)), .ref r1x, .ref r2x, .ref r3x, .ref r4x], zA cy r1x 80 (sl M 604), zA cy r2x 32 (sl M 572), zA cy r3x 32 nx, zA cy r4x 80 fu, zO d0f 3 [.int (iI ef5), .ref a0f, .ref s0f, .ref r0f], zO d0g 3 [.int (iI eg5), .ref a0g, .ref s0g, .ref r0g], zO d0h 3 [.int (iI eh5), .ref a0h, .ref s0h, .ref r0h]]) iX5 tyX5 tyX5_ok nmX5 0 rfl rfl 4 (by decide) L27 (fun _ h => h) rfl (ty := .int) (by decide +kernel) rfl rfl (Nat.le_of_ble_eq_true rfl) rfl dX5_recordNow_35 (fun H locs wd => ?_)
    exact z_vret C hr hlk wd dX5_recordNow_38
  · skip
    exact False.elim (by omega)
set_option maxRecDepth 100000 in
set_option maxHeartbeats 4000000 in
theorem c_recB (l : Launch) (D : va_G) (cy cs : ClassId) (w0 w1 w2 t0 : Nat) (d0k : Nat) (iK : Int) (d0 a0 a1 s0 s1 s2 s3 r0 r1 r2 r3 r4 : Nat) (L : Int) (M fu fn : Int → Int) (d0x a0x a1x s0x s1x s2x s3x r0x r1x r2x r3x r4x : Nat) (Lx : Int) (Mx ux nx : Int → Int) (d0f a0f s0f r0f d0g a0g s0g r0g d0h a0h s0h r0h : Nat) (ef5 eg5 eh5 : Int) (ht : tpOk (sl M 2)) (hoT : M 1 = oT (M 4)) (hE : M 11 = 0 ∨ M 11 = 1) : zCv l D (zT cy cs) yX5_recordNow wsX5_recordNow ({ frames := 3, cells := 0, slots := 0, locals := 66 } : Room) [.ref w0] [zO w0 5 [.ref d0, .ref d0k, .int (iI iK), .ref w1, .int (iI 4), .ref t0, .ref w2], zR cs w1 4 (afF 0 d0x d0f d0g d0h), zO d0 3 [.int (iI (M 5)), .ref a0, .ref s0, .ref r0], zO a0 0 [.int (iI (M 0)), .int (iI (M 1)), .ref a1], zA cy a1 3 (sl M 2), zO s0 2 [.int (iI (M 6)), .int (iI (M 7)), .ref s1, .ref s2, .ref s3], zA cy s1 80 (sl M 12), zA cy s2 240 (sl M 92), zA cy s3 240 (sl M 332), zO r0 1 [.int (iI (M 9)), .int (iI L), .int (iI (M 10)), .int (iI (M 11)), .ref r1, .ref r2, .ref r3, .ref r4], zA cy r1 80 (sl M 604), zA cy r2 32 (sl M 572), zA cy r3 32 fn, zA cy r4 80 fu, zO d0x 3 [.int (iI (Mx 5)), .ref a0x, .ref s0x, .ref r0x], zO a0x 0 [.int (iI (Mx 0)), .int (iI (Mx 1)), .ref a1x], zA cy a1x 3 (sl Mx 2), zO s0x 2 [.int (iI (Mx 6)), .int (iI (Mx 7)), .ref s1x, .ref s2x, .ref s3x], zA cy s1x 80 (sl Mx 12), zA cy s2x 240 (sl Mx 92), zA cy s3x 240 (sl Mx 332), zO r0x 1 [.int (iI (Mx 9)), .int (iI Lx), .int (iI (Mx 10)), .int (iI (Mx 11)), .ref r1x, .ref r2x, .ref r3x, .ref r4x], zA cy r1x 80 (sl Mx 604), zA cy r2x 32 (sl Mx 572), zA cy r3x 32 nx, zA cy r4x 80 ux, zO d0f 3 [.int (iI ef5), .ref a0f, .ref s0f, .ref r0f], zO d0g 3 [.int (iI eg5), .ref a0g, .ref s0g, .ref r0g], zO d0h 3 [.int (iI eh5), .ref a0h, .ref s0h, .ref r0h]] [zO w0 5 [.ref d0, .ref d0k, .int (iI iK), .ref w1, .int (iI 4), .ref t0, .ref w2], zR cs w1 4 (afF 3 d0x d0f d0g d0h), zO d0 3 [.int (iI (M 5)), .ref a0, .ref s0, .ref r0], zO a0 0 [.int (iI (M 0)), .int (iI (M 1)), .ref a1], zA cy a1 3 (sl M 2), zO s0 2 [.int (iI (M 6)), .int (iI (M 7)), .ref s1, .ref s2, .ref s3], zA cy s1 80 (sl M 12), zA cy s2 240 (sl M 92), zA cy s3 240 (sl M 332), zO r0 1 [.int (iI (M 9)), .int (iI L), .int (iI (M 10)), .int (iI (M 11)), .ref r1, .ref r2, .ref r3, .ref r4], zA cy r1 80 (sl M 604), zA cy r2 32 (sl M 572), zA cy r3 32 fn, zA cy r4 80 fu, zO d0x 3 [.int (iI (M 5)), .ref a0x, .ref s0x, .ref r0x], zO a0x 0 [.int (iI (M 0)), .int (iI (M 1)), .ref a1x], zA cy a1x 3 (sl M 2), zO s0x 2 [.int (iI (M 6)), .int (iI (M 7)), .ref s1x, .ref s2x, .ref s3x], zA cy s1x 80 (sl M 12), zA cy s2x 240 (sl M 92), zA cy s3x 240 (sl M 332), zO r0x 1 [.int (iI (M 9)), .int (iI L), .int (iI (M 10)), .int (iI (M 11)), .ref r1x, .ref r2x, .ref r3x, .ref r4x], zA cy r1x 80 (sl M 604), zA cy r2x 32 (sl M 572), zA cy r3x 32 nx, zA cy r4x 80 fu, zO d0f 3 [.int (iI ef5), .ref a0f, .ref s0f, .ref r0f], zO d0g 3 [.int (iI eg5), .ref a0g, .ref s0g, .ref r0g], zO d0h 3 [.int (iI eh5), .ref a0h, .ref s0h, .ref r0h]] := by
  intro sz
  refine zM_mk (cc := cX5_recordNow) (maxL := 1) (ret := none) (own := RX5) (Qc := fun sz => va_Qv (fun (_ : Unit) => True) (fun _ t => zQ D (zT cy cs) (va_A [zO w0 5 [.ref d0, .ref d0k, .int (iI iK), .ref w1, .int (iI 4), .ref t0, .ref w2], zR cs w1 4 (afF 0 d0x d0f d0g d0h), zO d0 3 [.int (iI (M 5)), .ref a0, .ref s0, .ref r0], zO a0 0 [.int (iI (M 0)), .int (iI (M 1)), .ref a1], zA cy a1 3 (sl M 2), zO s0 2 [.int (iI (M 6)), .int (iI (M 7)), .ref s1, .ref s2, .ref s3], zA cy s1 80 (sl M 12), zA cy s2 240 (sl M 92), zA cy s3 240 (sl M 332), zO r0 1 [.int (iI (M 9)), .int (iI L), .int (iI (M 10)), .int (iI (M 11)), .ref r1, .ref r2, .ref r3, .ref r4], zA cy r1 80 (sl M 604), zA cy r2 32 (sl M 572), zA cy r3 32 fn, zA cy r4 80 fu, zO d0x 3 [.int (iI (Mx 5)), .ref a0x, .ref s0x, .ref r0x], zO a0x 0 [.int (iI (Mx 0)), .int (iI (Mx 1)), .ref a1x], zA cy a1x 3 (sl Mx 2), zO s0x 2 [.int (iI (Mx 6)), .int (iI (Mx 7)), .ref s1x, .ref s2x, .ref s3x], zA cy s1x 80 (sl Mx 12), zA cy s2x 240 (sl Mx 92), zA cy s3x 240 (sl Mx 332), zO r0x 1 [.int (iI (Mx 9)), .int (iI Lx), .int (iI (Mx 10)), .int (iI (Mx 11)), .ref r1x, .ref r2x, .ref r3x, .ref r4x], zA cy r1x 80 (sl Mx 604), zA cy r2x 32 (sl Mx 572), zA cy r3x 32 nx, zA cy r4x 80 ux, zO d0f 3 [.int (iI ef5), .ref a0f, .ref s0f, .ref r0f], zO d0g 3 [.int (iI eg5), .ref a0g, .ref s0g, .ref r0g], zO d0h 3 [.int (iI eh5), .ref a0h, .ref s0h, .ref r0h]] sz) [zO w0 5 [.ref d0, .ref d0k, .int (iI iK), .ref w1, .int (iI 4), .ref t0, .ref w2], zR cs w1 4 (afF 3 d0x d0f d0g d0h), zO d0 3 [.int (iI (M 5)), .ref a0, .ref s0, .ref r0], zO a0 0 [.int (iI (M 0)), .int (iI (M 1)), .ref a1], zA cy a1 3 (sl M 2), zO s0 2 [.int (iI (M 6)), .int (iI (M 7)), .ref s1, .ref s2, .ref s3], zA cy s1 80 (sl M 12), zA cy s2 240 (sl M 92), zA cy s3 240 (sl M 332), zO r0 1 [.int (iI (M 9)), .int (iI L), .int (iI (M 10)), .int (iI (M 11)), .ref r1, .ref r2, .ref r3, .ref r4], zA cy r1 80 (sl M 604), zA cy r2 32 (sl M 572), zA cy r3 32 fn, zA cy r4 80 fu, zO d0x 3 [.int (iI (M 5)), .ref a0x, .ref s0x, .ref r0x], zO a0x 0 [.int (iI (M 0)), .int (iI (M 1)), .ref a1x], zA cy a1x 3 (sl M 2), zO s0x 2 [.int (iI (M 6)), .int (iI (M 7)), .ref s1x, .ref s2x, .ref s3x], zA cy s1x 80 (sl M 12), zA cy s2x 240 (sl M 92), zA cy s3x 240 (sl M 332), zO r0x 1 [.int (iI (M 9)), .int (iI L), .int (iI (M 10)), .int (iI (M 11)), .ref r1x, .ref r2x, .ref r3x, .ref r4x], zA cy r1x 80 (sl M 604), zA cy r2x 32 (sl M 572), zA cy r3x 32 nx, zA cy r4x 80 fu, zO d0f 3 [.int (iI ef5), .ref a0f, .ref s0f, .ref r0f], zO d0g 3 [.int (iI eg5), .ref a0g, .ref s0g, .ref r0g], zO d0h 3 [.int (iI eh5), .ref a0h, .ref s0h, .ref r0h]] t) (va_A [zO w0 5 [.ref d0, .ref d0k, .int (iI iK), .ref w1, .int (iI 4), .ref t0, .ref w2], zR cs w1 4 (afF 0 d0x d0f d0g d0h), zO d0 3 [.int (iI (M 5)), .ref a0, .ref s0, .ref r0], zO a0 0 [.int (iI (M 0)), .int (iI (M 1)), .ref a1], zA cy a1 3 (sl M 2), zO s0 2 [.int (iI (M 6)), .int (iI (M 7)), .ref s1, .ref s2, .ref s3], zA cy s1 80 (sl M 12), zA cy s2 240 (sl M 92), zA cy s3 240 (sl M 332), zO r0 1 [.int (iI (M 9)), .int (iI L), .int (iI (M 10)), .int (iI (M 11)), .ref r1, .ref r2, .ref r3, .ref r4], zA cy r1 80 (sl M 604), zA cy r2 32 (sl M 572), zA cy r3 32 fn, zA cy r4 80 fu, zO d0x 3 [.int (iI (Mx 5)), .ref a0x, .ref s0x, .ref r0x], zO a0x 0 [.int (iI (Mx 0)), .int (iI (Mx 1)), .ref a1x], zA cy a1x 3 (sl Mx 2), zO s0x 2 [.int (iI (Mx 6)), .int (iI (Mx 7)), .ref s1x, .ref s2x, .ref s3x], zA cy s1x 80 (sl Mx 12), zA cy s2x 240 (sl Mx 92), zA cy s3x 240 (sl Mx 332), zO r0x 1 [.int (iI (Mx 9)), .int (iI Lx), .int (iI (Mx 10)), .int (iI (Mx 11)), .ref r1x, .ref r2x, .ref r3x, .ref r4x], zA cy r1x 80 (sl Mx 604), zA cy r2x 32 (sl Mx 572), zA cy r3x 32 nx, zA cy r4x 80 ux, zO d0f 3 [.int (iI ef5), .ref a0f, .ref s0f, .ref r0f], zO d0g 3 [.int (iI eg5), .ref a0g, .ref s0g, .ref r0g], zO d0h 3 [.int (iI eh5), .ref a0h, .ref s0h, .ref r0h]] sz)) (by decide) rfl rfl (Nat.le_of_ble_eq_true rfl) rfl sz ?_
  intro p e s m args below meth c ls C hr hlk hnm hl hsz hA wd
  subst hsz
  have hl : lv_has ls 1 [(0, .ref w0)] := hl
  have iX5 : ∀ w ∈ u_ws RX5 TX5 7, w ∈ wsX5_recordNow := by decide +kernel
  have L12 := C.2.2.2.2 (.fieldLink RX5 12 "LikelyWalks" "now" "LLikelyWalks$State;") (by decide +kernel)
  have L23 := C.2.2.2.2 (.fieldLink RX5 23 "LikelyWalks" "past" "[LLikelyWalks$State;") (by decide +kernel)
  have L27 := C.2.2.2.2 (.fieldLink RX5 27 "LikelyWalks" "pastCount" "I") (by decide +kernel)
  refine lv_aload_n C.1 C.2.1 dX5_recordNow_0 rfl (lv_at hl 0 rfl) ?_
  refine z_get C wd (Cn := RX5) (TT := TX5) (N := 7) (ci := 5) iX5 0 rfl rfl 4 (by decide) L27 (fun _ h => h) rfl dX5_recordNow_1 ?_
  refine z_iconst C dX5_recordNow_4 ?_
  refine z_icmp_lt C (tgt := 12) dX5_recordNow_5 (by decide) (by omega) (fun c_1 => ?_) (fun c_1 => ?_)
  · skip
    exact False.elim (by omega)
  · skip
    refine lv_aload_n C.1 C.2.1 dX5_recordNow_8 rfl (lv_at hl 0 rfl) ?_
    refine z_cvv C wd hA (As := []) (rest := []) (ws2 := [zO w0 5 [.ref d0, .ref d0k, .int (iI iK), .ref w1, .int (iI 3), .ref t0, .ref w2], zR cs w1 4 (afF 3 d0x d0f d0g d0h), zO d0 3 [.int (iI (M 5)), .ref a0, .ref s0, .ref r0], zO a0 0 [.int (iI (M 0)), .int (iI (M 1)), .ref a1], zA cy a1 3 (sl M 2), zO s0 2 [.int (iI (M 6)), .int (iI (M 7)), .ref s1, .ref s2, .ref s3], zA cy s1 80 (sl M 12), zA cy s2 240 (sl M 92), zA cy s3 240 (sl M 332), zO r0 1 [.int (iI (M 9)), .int (iI L), .int (iI (M 10)), .int (iI (M 11)), .ref r1, .ref r2, .ref r3, .ref r4], zA cy r1 80 (sl M 604), zA cy r2 32 (sl M 572), zA cy r3 32 fn, zA cy r4 80 fu, zO d0x 3 [.int (iI (Mx 5)), .ref a0x, .ref s0x, .ref r0x], zO a0x 0 [.int (iI (Mx 0)), .int (iI (Mx 1)), .ref a1x], zA cy a1x 3 (sl Mx 2), zO s0x 2 [.int (iI (Mx 6)), .int (iI (Mx 7)), .ref s1x, .ref s2x, .ref s3x], zA cy s1x 80 (sl Mx 12), zA cy s2x 240 (sl Mx 92), zA cy s3x 240 (sl Mx 332), zO r0x 1 [.int (iI (Mx 9)), .int (iI Lx), .int (iI (Mx 10)), .int (iI (Mx 11)), .ref r1x, .ref r2x, .ref r3x, .ref r4x], zA cy r1x 80 (sl Mx 604), zA cy r2x 32 (sl Mx 572), zA cy r3x 32 nx, zA cy r4x 80 ux, zO d0f 3 [.int (iI ef5), .ref a0f, .ref s0f, .ref r0f], zO d0g 3 [.int (iI eg5), .ref a0g, .ref s0g, .ref r0g], zO d0h 3 [.int (iI eh5), .ref a0h, .ref s0h, .ref r0h]]) (c_X5_dropOldest l D cy cs w0 w1 w2 t0 d0 d0k d0x a0x s0x r0x iK (Mx 5) d0f a0f s0f r0f d0g a0g s0g r0g d0h a0h s0h r0h ef5 eg5 eh5 ) (cwV 0 C.2.2.2.2 gX5_recordNow_X5_dropOldest rfl rfl rfl (by decide +kernel) ⟨Nat.le_of_ble_eq_true rfl, Nat.le_of_ble_eq_true rfl⟩) [0, 1, 14, 26, 27, 28] rfl rfl rfl ⟨rfl, [2, 3, 4, 5, 6, 7, 8, 9, 10, 11, 12, 13, 15, 16, 17, 18, 19, 20, 21, 22, 23, 24, 25], [zO d0 3 [.int (iI (M 5)), .ref a0, .ref s0, .ref r0], zO a0 0 [.int (iI (M 0)), .int (iI (M 1)), .ref a1], zA cy a1 3 (sl M 2), zO s0 2 [.int (iI (M 6)), .int (iI (M 7)), .ref s1, .ref s2, .ref s3], zA cy s1 80 (sl M 12), zA cy s2 240 (sl M 92), zA cy s3 240 (sl M 332), zO r0 1 [.int (iI (M 9)), .int (iI L), .int (iI (M 10)), .int (iI (M 11)), .ref r1, .ref r2, .ref r3, .ref r4], zA cy r1 80 (sl M 604), zA cy r2 32 (sl M 572), zA cy r3 32 fn, zA cy r4 80 fu, zO a0x 0 [.int (iI (Mx 0)), .int (iI (Mx 1)), .ref a1x], zA cy a1x 3 (sl Mx 2), zO s0x 2 [.int (iI (Mx 6)), .int (iI (Mx 7)), .ref s1x, .ref s2x, .ref s3x], zA cy s1x 80 (sl Mx 12), zA cy s2x 240 (sl Mx 92), zA cy s3x 240 (sl Mx 332), zO r0x 1 [.int (iI (Mx 9)), .int (iI Lx), .int (iI (Mx 10)), .int (iI (Mx 11)), .ref r1x, .ref r2x, .ref r3x, .ref r4x], zA cy r1x 80 (sl Mx 604), zA cy r2x 32 (sl Mx 572), zA cy r3x 32 nx, zA cy r4x 80 ux], 29, rfl, rfl, rfl, by decide +kernel⟩ rfl rfl rfl rfl (Nat.le_of_ble_eq_true rfl) hl.1 dX5_recordNow_9 ⟨Nat.zero_le _, Nat.zero_le _⟩ (fun H locs wd => ?_)
    refine lv_aload_n C.1 C.2.1 dX5_recordNow_12 rfl (lv_at hl 0 rfl) ?_
    refine z_get C wd (Cn := RX5) (TT := TX5) (N := 7) (ci := 5) iX5 0 rfl rfl 3 (by decide) L23 (fun _ h => h) rfl dX5_recordNow_13 ?_
    refine lv_aload_n C.1 C.2.1 dX5_recordNow_16 rfl (lv_at hl 0 rfl) ?_
    refine z_get C wd (Cn := RX5) (TT := TX5) (N := 7) (ci := 5) iX5 0 rfl rfl 4 (by decide) L27 (fun _ h => h) rfl dX5_recordNow_17 ?_
    refine z_aald C wd (v := d0x) 1 rfl (by omega) (by decide) rfl dX5_recordNow_20 ?_
    refine lv_aload_n C.1 C.2.1 dX5_recordNow_21 rfl (lv_at hl 0 rfl) ?_
    refine z_get C wd (Cn := RX5) (TT := TX5) (N := 7) (ci := 5) iX5 0 rfl rfl 0 (by decide) L12 (fun _ h => h) rfl dX5_recordNow_22 ?_
    refine z_cvv C wd hA (As := [.ref d0]) (rest := []) (ws2 := [zO w0 5 [.ref d0, .ref d0k, .int (iI iK), .ref w1, .int (iI 3), .ref t0, .ref w2], zR cs w1 4 (afF 3 d0x d0f d0g d0h), zO d0 3 [.int (iI (M 5)), .ref a0, .ref s0, .ref r0], zO a0 0 [.int (iI (M 0)), .int (iI (M 1)), .ref a1], zA cy a1 3 (sl M 2), zO s0 2 [.int (iI (M 6)), .int (iI (M 7)), .ref s1, .ref s2, .ref s3], zA cy s1 80 (sl M 12), zA cy s2 240 (sl M 92), zA cy s3 240 (sl M 332), zO r0 1 [.int (iI (M 9)), .int (iI L), .int (iI (M 10)), .int (iI (M 11)), .ref r1, .ref r2, .ref r3, .ref r4], zA cy r1 80 (sl M 604), zA cy r2 32 (sl M 572), zA cy r3 32 fn, zA cy r4 80 fu, zO d0x 3 [.int (iI (M 5)), .ref a0x, .ref s0x, .ref r0x], zO a0x 0 [.int (iI (M 0)), .int (iI (M 1)), .ref a1x], zA cy a1x 3 (sl M 2), zO s0x 2 [.int (iI (M 6)), .int (iI (M 7)), .ref s1x, .ref s2x, .ref s3x], zA cy s1x 80 (sl M 12), zA cy s2x 240 (sl M 92), zA cy s3x 240 (sl M 332), zO r0x 1 [.int (iI (M 9)), .int (iI L), .int (iI (M 10)), .int (iI (M 11)), .ref r1x, .ref r2x, .ref r3x, .ref r4x], zA cy r1x 80 (sl M 604), zA cy r2x 32 (sl M 572), zA cy r3x 32 nx, zA cy r4x 80 fu, zO d0f 3 [.int (iI ef5), .ref a0f, .ref s0f, .ref r0f], zO d0g 3 [.int (iI eg5), .ref a0g, .ref s0g, .ref r0g], zO d0h 3 [.int (iI eh5), .ref a0h, .ref s0h, .ref r0h]]) (c_X3_copyFrom l D cy cs d0x a0x a1x s0x s1x s2x s3x r0x r1x r2x r3x r4x Lx Mx ux nx d0 a0 a1 s0 s1 s2 s3 r0 r1 r2 r3 r4 L M fu fn ht hoT hE) (cwV 1 C.2.2.2.2 gX5_recordNow_X3_copyFrom rfl rfl rfl (by decide +kernel) ⟨Nat.le_of_ble_eq_true rfl, Nat.le_of_ble_eq_true rfl⟩) [14, 15, 16, 17, 18, 19, 20, 21, 22, 23, 24, 25, 2, 3, 4, 5, 6, 7, 8, 9, 10, 11, 12, 13] rfl rfl rfl ⟨rfl, [0, 1, 26, 27, 28], [zO w0 5 [.ref d0, .ref d0k, .int (iI iK), .ref w1, .int (iI 3), .ref t0, .ref w2], zR cs w1 4 (afF 3 d0x d0f d0g d0h), zO d0f 3 [.int (iI ef5), .ref a0f, .ref s0f, .ref r0f], zO d0g 3 [.int (iI eg5), .ref a0g, .ref s0g, .ref r0g], zO d0h 3 [.int (iI eh5), .ref a0h, .ref s0h, .ref r0h]], 29, rfl, rfl, rfl, by decide +kernel⟩ rfl rfl rfl rfl (Nat.le_of_ble_eq_true rfl) hl.1 dX5_recordNow_25 ⟨Nat.zero_le _, Nat.zero_le _⟩ (fun H locs wd => ?_)
    refine lv_aload_n C.1 C.2.1 dX5_recordNow_28 rfl (lv_at hl 0 rfl) ?_
    refine lv_dup C.1 C.2.1 dX5_recordNow_29 rfl ?_
    refine z_get C wd (Cn := RX5) (TT := TX5) (N := 7) (ci := 5) iX5 0 rfl rfl 4 (by decide) L27 (fun _ h => h) rfl dX5_recordNow_30 ?_
    refine z_iconst C dX5_recordNow_33 ?_
    refine z_iadd C dX5_recordNow_34 ?_
    refine z_put C wd (Cn := RX5) (TT := TX5) (N := 7) (ci := 5) (ws2 := [zO w0 5 [.ref d0, .ref d0k, .int (iI iK), .ref w1, .int (iI (3 + 1)), .ref t0, .ref w2], zR cs w1 4 (afF 3 d0x d0f d0g d0h), zO d0 3 [.int (iI (M 5)), .ref a0, .ref s0, .ref r0], zO a0 0 [.int (iI (M 0)), .int (iI (M 1)), .ref a1], zA cy a1 3 (sl M 2), zO s0 2 [.int (iI (M 6)), .int (iI (M 7)), .ref s1, .ref s2, .ref s3], zA cy s1 80 (sl M 12), zA cy s2 240 (sl M 92), zA cy s3 240 (sl M 332), zO r0 1 [.int (iI (M 9)), .int (iI L), .int (iI (M 10)), .int (iI (M 11)), .ref r1, .ref r2, .ref r3, .ref r4], zA cy r1 80 (sl M 604), zA cy r2 32 (sl M 572), zA cy r3 32 fn, zA cy r4 80 fu, zO d0x 3 [.int (iI (M 5)), .ref a0x, .ref s0x, .ref r0x], zO a0x 0 [.int (iI (M 0)), .int (iI (M 1)), .ref a1x], zA cy a1x 3 (sl M 2), zO s0x 2 [.int (iI (M 6)), .int (iI (M 7)), .ref s1x, .ref s2x, .ref s3x], zA cy s1x 80 (sl M 12), zA cy s2x 240 (sl M 92), zA cy s3x 240 (sl M 332), zO r0x 1 [.int (iI (M 9)), .int (iI L), .int (iI (M 10)), .int (iI (M 11)), .ref r1x, .ref r2x, .ref r3x, .ref r4x], zA cy r1x 80 (sl M 604), zA cy r2x 32 (sl M 572), zA cy r3x 32 nx, zA cy r4x 80 fu, zO d0f 3 [.int (iI ef5), .ref a0f, .ref s0f, .ref r0f], zO d0g 3 [.int (iI eg5), .ref a0g, .ref s0g, .ref r0g], zO d0h 3 [.int (iI eh5), .ref a0h, .ref s0h, .ref r0h]]) iX5 tyX5 tyX5_ok nmX5 0 rfl rfl 4 (by decide) L27 (fun _ h => h) rfl (ty := .int) (by decide +kernel) rfl rfl (Nat.le_of_ble_eq_true rfl) rfl dX5_recordNow_35 (fun H locs wd => ?_)
    have wd := z_fld wd (ws2 := [zO w0 5 [.ref d0, .ref d0k, .int (iI iK), .ref w1, .int (iI 4), .ref t0, .ref w2], zR cs w1 4 (afF 3 d0x d0f d0g d0h), zO d0 3 [.int (iI (M 5)), .ref a0, .ref s0, .ref r0], zO a0 0 [.int (iI (M 0)), .int (iI (M 1)), .ref a1], zA cy a1 3 (sl M 2), zO s0 2 [.int (iI (M 6)), .int (iI (M 7)), .ref s1, .ref s2, .ref s3], zA cy s1 80 (sl M 12), zA cy s2 240 (sl M 92), zA cy s3 240 (sl M 332), zO r0 1 [.int (iI (M 9)), .int (iI L), .int (iI (M 10)), .int (iI (M 11)), .ref r1, .ref r2, .ref r3, .ref r4], zA cy r1 80 (sl M 604), zA cy r2 32 (sl M 572), zA cy r3 32 fn, zA cy r4 80 fu, zO d0x 3 [.int (iI (M 5)), .ref a0x, .ref s0x, .ref r0x], zO a0x 0 [.int (iI (M 0)), .int (iI (M 1)), .ref a1x], zA cy a1x 3 (sl M 2), zO s0x 2 [.int (iI (M 6)), .int (iI (M 7)), .ref s1x, .ref s2x, .ref s3x], zA cy s1x 80 (sl M 12), zA cy s2x 240 (sl M 92), zA cy s3x 240 (sl M 332), zO r0x 1 [.int (iI (M 9)), .int (iI L), .int (iI (M 10)), .int (iI (M 11)), .ref r1x, .ref r2x, .ref r3x, .ref r4x], zA cy r1x 80 (sl M 604), zA cy r2x 32 (sl M 572), zA cy r3x 32 nx, zA cy r4x 80 fu, zO d0f 3 [.int (iI ef5), .ref a0f, .ref s0f, .ref r0f], zO d0g 3 [.int (iI eg5), .ref a0g, .ref s0g, .ref r0g], zO d0h 3 [.int (iI eh5), .ref a0h, .ref s0h, .ref r0h]]) 0 rfl (congrArg (fun z0 => zO w0 5 [.ref d0, .ref d0k, .int (iI iK), .ref w1, .int (iI z0), .ref t0, .ref w2]) (show (3 + 1 : Int) = 4 from (by decide))) rfl
    exact z_vret C hr hlk wd dX5_recordNow_38
theorem c_X5_recordNow (l : Launch) (D : va_G) (cy cs : ClassId) (w0 w1 w2 t0 : Nat) (d0k : Nat) (iK n : Int) (d0 a0 a1 s0 s1 s2 s3 r0 r1 r2 r3 r4 : Nat) (L : Int) (M fu fn : Int → Int) (d0x a0x a1x s0x s1x s2x s3x r0x r1x r2x r3x r4x : Nat) (Lx : Int) (Mx ux nx : Int → Int) (d0f a0f s0f r0f d0g a0g s0g r0g d0h a0h s0h r0h : Nat) (ef5 eg5 eh5 : Int) (ht : tpOk (sl M 2)) (hoT : M 1 = oT (M 4)) (hE : M 11 = 0 ∨ M 11 = 1) (hn : 0 ≤ n ∧ n ≤ 4) : zCv l D (zT cy cs) yX5_recordNow wsX5_recordNow ({ frames := 3, cells := 0, slots := 0, locals := 66 } : Room) [.ref w0] [zO w0 5 [.ref d0, .ref d0k, .int (iI iK), .ref w1, .int (iI n), .ref t0, .ref w2], zR cs w1 4 (afF (tg n) d0x d0f d0g d0h), zO d0 3 [.int (iI (M 5)), .ref a0, .ref s0, .ref r0], zO a0 0 [.int (iI (M 0)), .int (iI (M 1)), .ref a1], zA cy a1 3 (sl M 2), zO s0 2 [.int (iI (M 6)), .int (iI (M 7)), .ref s1, .ref s2, .ref s3], zA cy s1 80 (sl M 12), zA cy s2 240 (sl M 92), zA cy s3 240 (sl M 332), zO r0 1 [.int (iI (M 9)), .int (iI L), .int (iI (M 10)), .int (iI (M 11)), .ref r1, .ref r2, .ref r3, .ref r4], zA cy r1 80 (sl M 604), zA cy r2 32 (sl M 572), zA cy r3 32 fn, zA cy r4 80 fu, zO d0x 3 [.int (iI (Mx 5)), .ref a0x, .ref s0x, .ref r0x], zO a0x 0 [.int (iI (Mx 0)), .int (iI (Mx 1)), .ref a1x], zA cy a1x 3 (sl Mx 2), zO s0x 2 [.int (iI (Mx 6)), .int (iI (Mx 7)), .ref s1x, .ref s2x, .ref s3x], zA cy s1x 80 (sl Mx 12), zA cy s2x 240 (sl Mx 92), zA cy s3x 240 (sl Mx 332), zO r0x 1 [.int (iI (Mx 9)), .int (iI Lx), .int (iI (Mx 10)), .int (iI (Mx 11)), .ref r1x, .ref r2x, .ref r3x, .ref r4x], zA cy r1x 80 (sl Mx 604), zA cy r2x 32 (sl Mx 572), zA cy r3x 32 nx, zA cy r4x 80 ux, zO d0f 3 [.int (iI ef5), .ref a0f, .ref s0f, .ref r0f], zO d0g 3 [.int (iI eg5), .ref a0g, .ref s0g, .ref r0g], zO d0h 3 [.int (iI eh5), .ref a0h, .ref s0h, .ref r0h]] [zO w0 5 [.ref d0, .ref d0k, .int (iI iK), .ref w1, .int (iI (pn n)), .ref t0, .ref w2], zR cs w1 4 (afF (tg2 n) d0x d0f d0g d0h), zO d0 3 [.int (iI (M 5)), .ref a0, .ref s0, .ref r0], zO a0 0 [.int (iI (M 0)), .int (iI (M 1)), .ref a1], zA cy a1 3 (sl M 2), zO s0 2 [.int (iI (M 6)), .int (iI (M 7)), .ref s1, .ref s2, .ref s3], zA cy s1 80 (sl M 12), zA cy s2 240 (sl M 92), zA cy s3 240 (sl M 332), zO r0 1 [.int (iI (M 9)), .int (iI L), .int (iI (M 10)), .int (iI (M 11)), .ref r1, .ref r2, .ref r3, .ref r4], zA cy r1 80 (sl M 604), zA cy r2 32 (sl M 572), zA cy r3 32 fn, zA cy r4 80 fu, zO d0x 3 [.int (iI (M 5)), .ref a0x, .ref s0x, .ref r0x], zO a0x 0 [.int (iI (M 0)), .int (iI (M 1)), .ref a1x], zA cy a1x 3 (sl M 2), zO s0x 2 [.int (iI (M 6)), .int (iI (M 7)), .ref s1x, .ref s2x, .ref s3x], zA cy s1x 80 (sl M 12), zA cy s2x 240 (sl M 92), zA cy s3x 240 (sl M 332), zO r0x 1 [.int (iI (M 9)), .int (iI L), .int (iI (M 10)), .int (iI (M 11)), .ref r1x, .ref r2x, .ref r3x, .ref r4x], zA cy r1x 80 (sl M 604), zA cy r2x 32 (sl M 572), zA cy r3x 32 nx, zA cy r4x 80 fu, zO d0f 3 [.int (iI ef5), .ref a0f, .ref s0f, .ref r0f], zO d0g 3 [.int (iI eg5), .ref a0g, .ref s0g, .ref r0g], zO d0h 3 [.int (iI eh5), .ref a0h, .ref s0h, .ref r0h]] := by
  by_cases h : n < 4
  · rw [show tg n = n from if_pos h, show tg2 n = n from if_pos h, show pn n = n + 1 from if_pos h]
    exact c_recA l D cy cs w0 w1 w2 t0 d0k iK n d0 a0 a1 s0 s1 s2 s3 r0 r1 r2 r3 r4 L M fu fn d0x a0x a1x s0x s1x s2x s3x r0x r1x r2x r3x r4x Lx Mx ux nx d0f a0f s0f r0f d0g a0g s0g r0g d0h a0h s0h r0h ef5 eg5 eh5 ht hoT hE ⟨hn.1, h⟩
  · have h4 : n = 4 := by omega
    subst h4
    exact c_recB l D cy cs w0 w1 w2 t0 d0k iK d0 a0 a1 s0 s1 s2 s3 r0 r1 r2 r3 r4 L M fu fn d0x a0x a1x s0x s1x s2x s3x r0x r1x r2x r3x r4x Lx Mx ux nx d0f a0f s0f r0f d0g a0g s0g r0g d0h a0h s0h r0h ef5 eg5 eh5 ht hoT hE
end
section
/-! the answers and the states behind a call, told of the row M of all numbers of a state -/
def len (M : Int → Int) : Int := M 7 * M 1
def rdStep (M : Int → Int) (st b x : Int) : Int := if ¬ (0 ≤ st ∧ st < p2 (M 0)) then -1 else if ¬ (0 ≤ b ∧ b ≤ 1 ∧ 0 ≤ x ∧ x ≤ 1) then -2 else if x = 0 then wn (M 0) st b / 2 else nb (fun k => sy (sl M 2 k) (wn (M 0) st b)) (M 1).toNat
def rdLine (M : Int → Int) (k x : Int) : Int := if ¬ (0 ≤ k ∧ k < M 7 * M 1) then -1 else if x = 0 then sl M 92 k else if x = 1 then sl M 332 k else if x = 2 then (if k < M 8 then 1 else 0) else -2
def rdSent (M : Int → Int) (k : Int) : Int := if 0 ≤ k ∧ k < M 7 then sl M 12 k else -1
def rdRel (M : Int → Int) (k : Int) : Int := if 0 ≤ k ∧ k < M 10 then sl M 604 k else -1
def rdMet (M : Int → Int) (st : Int) : Int := if ¬ (0 ≤ st ∧ st < p2 (M 0)) then -1 else if sl M 572 st < 0 then -5 else sl M 572 st
def rdSur (M fu : Int → Int) (st x : Int) : Int := if ¬ (0 ≤ st ∧ st < p2 (M 0)) then -1 else if x < 0 then -2 else if sl M 572 st < 0 ∨ M 9 ≤ x then -5 else sb (M 0) fu (M 9) st (M 9 - 1 - x)
def er1 (M : Int → Int) (k : Int) : Int := if sl M 92 k = 2 then 1 else 0
def fl1 (M : Int → Int) (k : Int) : Int := if sl M 92 k = 2 ∨ sl M 92 k = sl M 332 k then 0 else 1
def wr1 (M : Int → Int) (k : Int) : Int := if sl M 604 k = sl M 12 k then 0 else 1
def cntE (M : Int → Int) : Int := sm (er1 M) (M 7 * M 1).toNat
def cntF (M : Int → Int) : Int := sm (fl1 M) (M 7 * M 1).toNat
def rdWrong (M : Int → Int) : Int := sm (wr1 M) (mn (M 10) (M 7)).toNat
theorem sm_one {f : Int → Int} {i x v : Int} (h : 0 ≤ i) (h1 : x = sm f i.toNat) (h2 : f i = v) : x + v = sm f (i + 1).toNat := by rw [sm_at f h, ← h1, h2]
theorem sm_zero {f : Int → Int} {i x : Int} (h : 0 ≤ i) (h1 : x = sm f i.toNat) (h2 : f i = 0) : x = sm f (i + 1).toNat := by rw [sm_at f h, ← h1, h2, Int.add_zero]
end
section
/-! states behind acts -/
def flM (M : Int → Int) (k : Int) : Int → Int := uZ M (92 + k) (1 - M (92 + k))
def erM (M : Int → Int) (k : Int) : Int → Int := uZ M (92 + k) 2
def sdM (M : Int → Int) (d : Int) : Int → Int := uZ M 5 d
def clR (M : Int → Int) : Int → Int := fun j => if 8 ≤ j ∧ j < 12 then 0 else if 572 ≤ j ∧ j < 604 then (if j = 572 then 0 else -1) else if 684 ≤ j ∧ j < 780 then 0 else M j
def scM (M : Int → Int) (m0 f1 f2 f3 : Int) : Int → Int := clR (uZ (uZ (uZ (uZ (uZ (uZ (uZ M 0 m0) 1 (oT f3)) 2 f1) 3 f2) 4 f3) 6 0) 7 0)
def vB (M : Int → Int) (b : Int) : Int → Int := fun k => sy (sl M 2 k) (wn (M 0) (M 6) b)
def sB (M : Int → Int) (b : Int) : Int → Int := uZ (uZ (uZ (wrS (wrS M (92 + M 7 * M 1) (M 1) (vB M b)) (332 + M 7 * M 1) (M 1) (vB M b)) (12 + M 7) b) 7 (M 7 + 1)) 6 (wn (M 0) (M 6) b / 2)
def sdN (M : Int → Int) (g : Int → Int) : Nat → (Int → Int)
  | 0 => M
  | n + 1 => sB (sdN M g n) (g (n : Int))
theorem sdN_at (M g : Int → Int) {i : Int} (h : 0 ≤ i) : sdN M g (i + 1).toNat = sB (sdN M g i.toNat) (g i) := by
  rw [show (i + 1).toNat = i.toNat + 1 by omega, sdN, Int.toNat_of_nonneg h]
theorem sdN_cong {M g g2 : Int → Int} : ∀ {n : Nat}, (∀ k : Int, 0 ≤ k → k < n → g k = g2 k) → sdN M g n = sdN M g2 n
  | 0, _ => rfl
  | n + 1, h => by rw [sdN, sdN, sdN_cong (n := n) (fun k h0 h1 => h k h0 (by omega)), h n (by omega) (by omega)]
/-- what a sender must hold -/
def sOk (M : Int → Int) : Prop := (1 ≤ M 0 ∧ M 0 ≤ 5) ∧ (2 ≤ M 1 ∧ M 1 ≤ 3) ∧ tpOk (sl M 2) ∧ (0 ≤ M 6 ∧ M 6 < p2 (M 0)) ∧ (0 ≤ M 7 ∧ M 7 ≤ 80)
theorem bo_le {a o : Int} (ho : 2 ≤ o ∧ o ≤ 3) (h0 : 0 ≤ a) (h1 : a < 80) : 0 ≤ a * o ∧ a * o + o ≤ 240 := by
  rcases (show o = 2 ∨ o = 3 by omega) with h | h <;> rw [h] <;> omega
theorem sB_low (M : Int → Int) (b j : Int) (h7 : 0 ≤ M 7) (ho : 2 ≤ M 1 ∧ M 1 ≤ 3) (h8 : M 7 < 80) (h : j < 12) : sB M b j = if j = 6 then wn (M 0) (M 6) b / 2 else if j = 7 then M 7 + 1 else M j := by
  have hb := bo_le ho h7 h8
  unfold sB uZ wrS
  by_cases e6 : j = 6
  · rw [if_pos e6, if_pos e6]
  · rw [if_neg e6, if_neg e6]
    by_cases e7 : j = 7
    · rw [if_pos e7, if_pos e7]
    · rw [if_neg e7, if_neg e7, if_neg (by omega), if_neg (by omega), if_neg (by omega)]
theorem sB_12 (M : Int → Int) (b j : Int) (h7 : 0 ≤ M 7) (ho : 2 ≤ M 1 ∧ M 1 ≤ 3) (h8 : M 7 < 80) (j0 : 0 ≤ j) (j1 : j < 80) : uZ (sl M 12) (M 7) b j = sl (sB M b) 12 j := by
  have hb := bo_le ho h7 h8
  unfold sl sB uZ wrS
  rw [if_neg (show ¬ 12 + j = 6 by omega), if_neg (show ¬ 12 + j = 7 by omega)]
  by_cases e : j = M 7
  · rw [if_pos e, if_pos (by omega)]
  · rw [if_neg e, if_neg (by omega), if_neg (by omega), if_neg (by omega)]
theorem sB_92 (M : Int → Int) (b j : Int) (h7 : 0 ≤ M 7) (ho : 2 ≤ M 1 ∧ M 1 ≤ 3) (h8 : M 7 < 80) (j0 : 0 ≤ j) (j1 : j < 240) : wrS (sl M 92) (M 7 * M 1) (M 1) (vB M b) j = sl (sB M b) 92 j := by
  have hb := bo_le ho h7 h8
  unfold sl sB uZ wrS
  rw [if_neg (show ¬ 92 + j = 6 by omega), if_neg (show ¬ 92 + j = 7 by omega), if_neg (show ¬ 92 + j = 12 + M 7 by omega), if_neg (show ¬ (332 + M 7 * M 1 ≤ 92 + j ∧ 92 + j < 332 + M 7 * M 1 + M 1) by omega)]
  by_cases e : M 7 * M 1 ≤ j ∧ j < M 7 * M 1 + M 1
  · rw [if_pos e, if_pos (by omega), show 92 + j - (92 + M 7 * M 1) = j - M 7 * M 1 by omega]
  · rw [if_neg e, if_neg (by omega)]
theorem sB_332 (M : Int → Int) (b j : Int) (h7 : 0 ≤ M 7) (ho : 2 ≤ M 1 ∧ M 1 ≤ 3) (h8 : M 7 < 80) (j0 : 0 ≤ j) (j1 : j < 240) : wrS (sl M 332) (M 7 * M 1) (M 1) (vB M b) j = sl (sB M b) 332 j := by
  have hb := bo_le ho h7 h8
  unfold sl sB uZ wrS
  rw [if_neg (show ¬ 332 + j = 6 by omega), if_neg (show ¬ 332 + j = 7 by omega), if_neg (show ¬ 332 + j = 12 + M 7 by omega)]
  by_cases e : M 7 * M 1 ≤ j ∧ j < M 7 * M 1 + M 1
  · rw [if_pos e, if_pos (by omega), show 332 + j - (332 + M 7 * M 1) = j - M 7 * M 1 by omega]
  · rw [if_neg e, if_neg (by omega), if_neg (by omega)]
theorem sB_hi (M : Int → Int) (b j : Int) (h7 : 0 ≤ M 7) (ho : 2 ≤ M 1 ∧ M 1 ≤ 3) (h8 : M 7 < 80) (h : 572 ≤ j) : sB M b j = M j := by
  have hb := bo_le ho h7 h8
  unfold sB uZ wrS
  rw [if_neg (by omega), if_neg (by omega), if_neg (by omega), if_neg (by omega), if_neg (by omega)]
theorem wn2_le {mm st b : Int} (h1 : 1 ≤ mm) (h2 : mm ≤ 5) (s0 : 0 ≤ st) (s1 : st < p2 mm) (b0 : 0 ≤ b) (b1 : b ≤ 1) : 0 ≤ wn mm st b / 2 ∧ wn mm st b / 2 < p2 mm := by
  have h := wn_le h1 h2 s0 s1 b0 b1
  omega
theorem sB_ok {M : Int → Int} {b : Int} (h : sOk M) (h8 : M 7 < 80) (hb : 0 ≤ b ∧ b ≤ 1) : sOk (sB M b) := by
  obtain ⟨hm, ho, ht, h6, h7⟩ := h
  have e := fun j h => sB_low M b j h7.1 ho h8 h
  have hw := wn2_le hm.1 hm.2 h6.1 h6.2 hb.1 hb.2
  refine ⟨?_, ?_, ?_, ?_, ?_⟩
  · rw [e 0 (by omega)]
    exact hm
  · rw [e 1 (by omega)]
    exact ho
  · intro k k0 k1
    have h2 := ht k k0 k1
    have h3 := e (2 + k) (by omega)
    rw [if_neg (by omega), if_neg (by omega)] at h3
    show 0 ≤ sB M b (2 + k) ∧ sB M b (2 + k) < 64
    rw [h3]
    exact h2
  · rw [e 0 (by omega), e 6 (by omega)]
    exact hw
  · rw [e 7 (by omega)]
    show 0 ≤ M 7 + 1 ∧ M 7 + 1 ≤ 80
    omega
theorem sdN_ok {M g : Int → Int} (h : sOk M) : ∀ n : Nat, M 7 + n ≤ 80 → (∀ k : Int, 0 ≤ k → k < n → 0 ≤ g k ∧ g k ≤ 1) → sOk (sdN M g n) ∧ (sdN M g n) 7 = M 7 + n
  | 0, _, _ => ⟨h, by simp [sdN]⟩
  | n + 1, h1, h2 => by
    have ih := sdN_ok h n (by omega) (fun k k0 k1 => h2 k k0 (by omega))
    have hb := h2 n (by omega) (by omega)
    rw [sdN]
    refine ⟨sB_ok ih.1 (by omega) hb, ?_⟩
    rw [sB_low _ _ 7 ih.1.2.2.2.2.1 ih.1.2.1 (by omega) (by omega)]
    show (sdN M g n) 7 + 1 = _
    omega
def sdNo (M : Int → Int) (d : Int) : Int := if ¬ (2 ≤ d ∧ d ≤ 40) then -2 else if 0 < M 9 then -4 else -5
def fNo (M : Int → Int) (k : Int) : Int := if ¬ (0 ≤ k ∧ k < M 7 * M 1) then -1 else -4
def eNo (M : Int → Int) (k : Int) : Int := if ¬ (0 ≤ k ∧ k < M 7 * M 1) then -1 else if k < M 8 then -4 else -5
def sNo (x : Int) : Int := if 0 ≤ x then -100 - x else -3
end
section
set_option maxRecDepth 100000 in
set_option maxHeartbeats 4000000 in
theorem c_X5_lineLength (l : Launch) (D : va_G) (cy cs : ClassId) (w0 w1 w2 t0 d0 d0k a0 a1 s0 s1 s2 s3 r0 r1 r2 r3 r4 : Nat) (iK n L : Int) (M : Int → Int)  : zCi l D (zT cy cs) yX5_lineLength wsX5_lineLength ({ frames := 0, cells := 0, slots := 0, locals := 0 } : Room) [.ref w0] [zO w0 5 [.ref d0, .ref d0k, .int (iI iK), .ref w1, .int (iI n), .ref t0, .ref w2], zO d0 3 [.int (iI (M 5)), .ref a0, .ref s0, .ref r0], zO a0 0 [.int (iI (M 0)), .int (iI (M 1)), .ref a1], zO s0 2 [.int (iI (M 6)), .int (iI (M 7)), .ref s1, .ref s2, .ref s3]] (M 7 * M 1) [zO w0 5 [.ref d0, .ref d0k, .int (iI iK), .ref w1, .int (iI n), .ref t0, .ref w2], zO d0 3 [.int (iI (M 5)), .ref a0, .ref s0, .ref r0], zO a0 0 [.int (iI (M 0)), .int (iI (M 1)), .ref a1], zO s0 2 [.int (iI (M 6)), .int (iI (M 7)), .ref s1, .ref s2, .ref s3]] := by
  intro sz
  refine zM_mk (cc := cX5_lineLength) (maxL := 1) (ret := (some .int)) (own := RX5) (Qc := fun sz => va_Qi (fun r (_ : Unit) => r = iI (M 7 * M 1)) (fun _ t => zQ D (zT cy cs) (va_A [zO w0 5 [.ref d0, .ref d0k, .int (iI iK), .ref w1, .int (iI n), .ref t0, .ref w2], zO d0 3 [.int (iI (M 5)), .ref a0, .ref s0, .ref r0], zO a0 0 [.int (iI (M 0)), .int (iI (M 1)), .ref a1], zO s0 2 [.int (iI (M 6)), .int (iI (M 7)), .ref s1, .ref s2, .ref s3]] sz) [zO w0 5 [.ref d0, .ref d0k, .int (iI iK), .ref w1, .int (iI n), .ref t0, .ref w2], zO d0 3 [.int (iI (M 5)), .ref a0, .ref s0, .ref r0], zO a0 0 [.int (iI (M 0)), .int (iI (M 1)), .ref a1], zO s0 2 [.int (iI (M 6)), .int (iI (M 7)), .ref s1, .ref s2, .ref s3]] t) (va_A [zO w0 5 [.ref d0, .ref d0k, .int (iI iK), .ref w1, .int (iI n), .ref t0, .ref w2], zO d0 3 [.int (iI (M 5)), .ref a0, .ref s0, .ref r0], zO a0 0 [.int (iI (M 0)), .int (iI (M 1)), .ref a1], zO s0 2 [.int (iI (M 6)), .int (iI (M 7)), .ref s1, .ref s2, .ref s3]] sz)) (by decide) rfl rfl (Nat.le_of_ble_eq_true rfl) rfl sz ?_
  intro p e s m args below meth c ls C hr hlk hnm hl hsz hA wd
  subst hsz
  have hl : lv_has ls 1 [(0, .ref w0)] := hl
  have iX0 : ∀ w ∈ u_ws RX0 TX0 3, w ∈ wsX5_lineLength := by decide +kernel
  have iX2 : ∀ w ∈ u_ws RX2 TX2 5, w ∈ wsX5_lineLength := by decide +kernel
  have iX3 : ∀ w ∈ u_ws RX3 TX3 4, w ∈ wsX5_lineLength := by decide +kernel
  have iX5 : ∀ w ∈ u_ws RX5 TX5 7, w ∈ wsX5_lineLength := by decide +kernel
  have L12 := C.2.2.2.2 (.fieldLink RX5 12 "LikelyWalks" "now" "LLikelyWalks$State;") (by decide +kernel)
  have L45 := C.2.2.2.2 (.fieldLink RX5 45 "LikelyWalks$State" "code" "LLikelyWalks$Code;") (by decide +kernel)
  have L55 := C.2.2.2.2 (.fieldLink RX5 55 "LikelyWalks$State" "sender" "LLikelyWalks$Sender;") (by decide +kernel)
  have L71 := C.2.2.2.2 (.fieldLink RX5 71 "LikelyWalks$Code" "outputs" "I") (by decide +kernel)
  have L84 := C.2.2.2.2 (.fieldLink RX5 84 "LikelyWalks$Sender" "bitCount" "I") (by decide +kernel)
  refine lv_aload_n C.1 C.2.1 dX5_lineLength_0 rfl (lv_at hl 0 rfl) ?_
  refine z_get C wd (Cn := RX5) (TT := TX5) (N := 7) (ci := 5) iX5 0 rfl rfl 0 (by decide) L12 (fun _ h => h) rfl dX5_lineLength_1 ?_
  refine z_get C wd (Cn := RX3) (TT := TX3) (N := 4) (ci := 3) iX3 1 rfl rfl 2 (by decide) L55 (fun _ h => h) rfl dX5_lineLength_4 ?_
  refine z_get C wd (Cn := RX2) (TT := TX2) (N := 5) (ci := 2) iX2 3 rfl rfl 1 (by decide) L84 (fun _ h => h) rfl dX5_lineLength_7 ?_
  refine lv_aload_n C.1 C.2.1 dX5_lineLength_10 rfl (lv_at hl 0 rfl) ?_
  refine z_get C wd (Cn := RX5) (TT := TX5) (N := 7) (ci := 5) iX5 0 rfl rfl 0 (by decide) L12 (fun _ h => h) rfl dX5_lineLength_11 ?_
  refine z_get C wd (Cn := RX3) (TT := TX3) (N := 4) (ci := 3) iX3 1 rfl rfl 1 (by decide) L45 (fun _ h => h) rfl dX5_lineLength_14 ?_
  refine z_get C wd (Cn := RX0) (TT := TX0) (N := 3) (ci := 0) iX0 2 rfl rfl 1 (by decide) L71 (fun _ h => h) rfl dX5_lineLength_17 ?_
  refine z_imul C dX5_lineLength_20 ?_
  exact z_iret C hr hlk wd (by first | rfl | omega) dX5_lineLength_21
set_option maxRecDepth 100000 in
set_option maxHeartbeats 4000000 in
theorem c_X5_isOnLine (l : Launch) (D : va_G) (cy cs : ClassId) (w0 w1 w2 t0 d0 d0k a0 a1 s0 s1 s2 s3 r0 r1 r2 r3 r4 : Nat) (iK n L : Int) (M : Int → Int) (k : Int) (hln : 0 ≤ M 7 * M 1 ∧ M 7 * M 1 ≤ 240) (hk : -2147483648 ≤ k ∧ k < 2147483648) : zCi l D (zT cy cs) yX5_isOnLine wsX5_isOnLine ({ frames := 1, cells := 0, slots := 0, locals := 20 } : Room) [.ref w0, .int (iI k)] [zO w0 5 [.ref d0, .ref d0k, .int (iI iK), .ref w1, .int (iI n), .ref t0, .ref w2], zO d0 3 [.int (iI (M 5)), .ref a0, .ref s0, .ref r0], zO a0 0 [.int (iI (M 0)), .int (iI (M 1)), .ref a1], zO s0 2 [.int (iI (M 6)), .int (iI (M 7)), .ref s1, .ref s2, .ref s3]] (bI (0 ≤ k ∧ k < M 7 * M 1)) [zO w0 5 [.ref d0, .ref d0k, .int (iI iK), .ref w1, .int (iI n), .ref t0, .ref w2], zO d0 3 [.int (iI (M 5)), .ref a0, .ref s0, .ref r0], zO a0 0 [.int (iI (M 0)), .int (iI (M 1)), .ref a1], zO s0 2 [.int (iI (M 6)), .int (iI (M 7)), .ref s1, .ref s2, .ref s3]] := by
  intro sz
  refine zM_mk (cc := cX5_isOnLine) (maxL := 2) (ret := (some .boolean)) (own := RX5) (Qc := fun sz => va_Qi (fun r (_ : Unit) => r = iI (bI (0 ≤ k ∧ k < M 7 * M 1))) (fun _ t => zQ D (zT cy cs) (va_A [zO w0 5 [.ref d0, .ref d0k, .int (iI iK), .ref w1, .int (iI n), .ref t0, .ref w2], zO d0 3 [.int (iI (M 5)), .ref a0, .ref s0, .ref r0], zO a0 0 [.int (iI (M 0)), .int (iI (M 1)), .ref a1], zO s0 2 [.int (iI (M 6)), .int (iI (M 7)), .ref s1, .ref s2, .ref s3]] sz) [zO w0 5 [.ref d0, .ref d0k, .int (iI iK), .ref w1, .int (iI n), .ref t0, .ref w2], zO d0 3 [.int (iI (M 5)), .ref a0, .ref s0, .ref r0], zO a0 0 [.int (iI (M 0)), .int (iI (M 1)), .ref a1], zO s0 2 [.int (iI (M 6)), .int (iI (M 7)), .ref s1, .ref s2, .ref s3]] t) (va_A [zO w0 5 [.ref d0, .ref d0k, .int (iI iK), .ref w1, .int (iI n), .ref t0, .ref w2], zO d0 3 [.int (iI (M 5)), .ref a0, .ref s0, .ref r0], zO a0 0 [.int (iI (M 0)), .int (iI (M 1)), .ref a1], zO s0 2 [.int (iI (M 6)), .int (iI (M 7)), .ref s1, .ref s2, .ref s3]] sz)) (by decide) rfl rfl (Nat.le_of_ble_eq_true rfl) rfl sz ?_
  intro p e s m args below meth c ls C hr hlk hnm hl hsz hA wd
  subst hsz
  have hl : lv_has ls 2 [(0, .ref w0), (1, .int (iI k))] := hl
  refine lv_iload_n C.1 C.2.1 dX5_isOnLine_0 rfl (lv_at hl 1 rfl) ?_
  refine z_if_lt C (tgt := 16) dX5_isOnLine_1 (by decide) (by omega) (fun c_1 => ?_) (fun c_1 => ?_)
  · skip
    refine z_iconst C dX5_isOnLine_16 ?_
    exact z_zret C hr hlk (by omega) wd (by first | rfl | exact (bI_t (by omega)).symm | exact (bI_f (by omega)).symm) dX5_isOnLine_17
  · skip
    refine lv_iload_n C.1 C.2.1 dX5_isOnLine_4 rfl (lv_at hl 1 rfl) ?_
    refine lv_aload_n C.1 C.2.1 dX5_isOnLine_5 rfl (lv_at hl 0 rfl) ?_
    refine z_cvi C wd hA (As := []) (rest := [.int (iI k)]) (ws2 := [zO w0 5 [.ref d0, .ref d0k, .int (iI iK), .ref w1, .int (iI n), .ref t0, .ref w2], zO d0 3 [.int (iI (M 5)), .ref a0, .ref s0, .ref r0], zO a0 0 [.int (iI (M 0)), .int (iI (M 1)), .ref a1], zO s0 2 [.int (iI (M 6)), .int (iI (M 7)), .ref s1, .ref s2, .ref s3]]) (c_X5_lineLength l D cy cs w0 w1 w2 t0 d0 d0k a0 a1 s0 s1 s2 s3 r0 0 0 0 0 iK n 0 M ) (cwV 0 C.2.2.2.2 gX5_isOnLine_X5_lineLength rfl rfl rfl (by decide +kernel) ⟨Nat.le_of_ble_eq_true rfl, Nat.le_of_ble_eq_true rfl⟩) [0, 1, 2, 3] rfl rfl rfl ⟨rfl, [], [], 4, rfl, rfl, rfl, by decide +kernel⟩ rfl rfl rfl rfl (Nat.le_of_ble_eq_true rfl) hl.1 dX5_isOnLine_6 ⟨Nat.zero_le _, Nat.zero_le _⟩ (fun H locs wd => ?_)
    refine z_icmp_ge C (tgt := 16) dX5_isOnLine_9 (by decide) (by omega) (fun c_2 => ?_) (fun c_2 => ?_)
    · skip
      refine z_iconst C dX5_isOnLine_16 ?_
      exact z_zret C hr hlk (by omega) wd (by first | rfl | exact (bI_t (by omega)).symm | exact (bI_f (by omega)).symm) dX5_isOnLine_17
    · skip
      refine z_iconst C dX5_isOnLine_12 ?_
      refine z_goto C (tgt := 17) dX5_isOnLine_13 (by decide) ?_
      exact z_zret C hr hlk (by omega) wd (by first | rfl | exact (bI_t (by omega)).symm | exact (bI_f (by omega)).symm) dX5_isOnLine_17
set_option maxRecDepth 100000 in
set_option maxHeartbeats 4000000 in
theorem c_X5_isTaken (l : Launch) (D : va_G) (cy cs : ClassId) (w0 w1 w2 t0 d0 d0k a0 a1 s0 s1 s2 s3 r0 r1 r2 r3 r4 : Nat) (iK n L : Int) (M : Int → Int) (k : Int) (hlt : 0 ≤ L * M 1 ∧ L * M 1 ≤ 240) (hk : -2147483648 ≤ k ∧ k < 2147483648) : zCi l D (zT cy cs) yX5_isTaken wsX5_isTaken ({ frames := 0, cells := 0, slots := 0, locals := 0 } : Room) [.ref w0, .int (iI k)] [zO w0 5 [.ref d0, .ref d0k, .int (iI iK), .ref w1, .int (iI n), .ref t0, .ref w2], zO d0 3 [.int (iI (M 5)), .ref a0, .ref s0, .ref r0], zO a0 0 [.int (iI (M 0)), .int (iI (M 1)), .ref a1], zO r0 1 [.int (iI (M 9)), .int (iI L), .int (iI (M 10)), .int (iI (M 11)), .ref r1, .ref r2, .ref r3, .ref r4]] (bI (k < L * M 1)) [zO w0 5 [.ref d0, .ref d0k, .int (iI iK), .ref w1, .int (iI n), .ref t0, .ref w2], zO d0 3 [.int (iI (M 5)), .ref a0, .ref s0, .ref r0], zO a0 0 [.int (iI (M 0)), .int (iI (M 1)), .ref a1], zO r0 1 [.int (iI (M 9)), .int (iI L), .int (iI (M 10)), .int (iI (M 11)), .ref r1, .ref r2, .ref r3, .ref r4]] := by
  intro sz
  refine zM_mk (cc := cX5_isTaken) (maxL := 2) (ret := (some .boolean)) (own := RX5) (Qc := fun sz => va_Qi (fun r (_ : Unit) => r = iI (bI (k < L * M 1))) (fun _ t => zQ D (zT cy cs) (va_A [zO w0 5 [.ref d0, .ref d0k, .int (iI iK), .ref w1, .int (iI n), .ref t0, .ref w2], zO d0 3 [.int (iI (M 5)), .ref a0, .ref s0, .ref r0], zO a0 0 [.int (iI (M 0)), .int (iI (M 1)), .ref a1], zO r0 1 [.int (iI (M 9)), .int (iI L), .int (iI (M 10)), .int (iI (M 11)), .ref r1, .ref r2, .ref r3, .ref r4]] sz) [zO w0 5 [.ref d0, .ref d0k, .int (iI iK), .ref w1, .int (iI n), .ref t0, .ref w2], zO d0 3 [.int (iI (M 5)), .ref a0, .ref s0, .ref r0], zO a0 0 [.int (iI (M 0)), .int (iI (M 1)), .ref a1], zO r0 1 [.int (iI (M 9)), .int (iI L), .int (iI (M 10)), .int (iI (M 11)), .ref r1, .ref r2, .ref r3, .ref r4]] t) (va_A [zO w0 5 [.ref d0, .ref d0k, .int (iI iK), .ref w1, .int (iI n), .ref t0, .ref w2], zO d0 3 [.int (iI (M 5)), .ref a0, .ref s0, .ref r0], zO a0 0 [.int (iI (M 0)), .int (iI (M 1)), .ref a1], zO r0 1 [.int (iI (M 9)), .int (iI L), .int (iI (M 10)), .int (iI (M 11)), .ref r1, .ref r2, .ref r3, .ref r4]] sz)) (by decide) rfl rfl (Nat.le_of_ble_eq_true rfl) rfl sz ?_
  intro p e s m args below meth c ls C hr hlk hnm hl hsz hA wd
  subst hsz
  have hl : lv_has ls 2 [(0, .ref w0), (1, .int (iI k))] := hl
  have iX0 : ∀ w ∈ u_ws RX0 TX0 3, w ∈ wsX5_isTaken := by decide +kernel
  have iX1 : ∀ w ∈ u_ws RX1 TX1 8, w ∈ wsX5_isTaken := by decide +kernel
  have iX3 : ∀ w ∈ u_ws RX3 TX3 4, w ∈ wsX5_isTaken := by decide +kernel
  have iX5 : ∀ w ∈ u_ws RX5 TX5 7, w ∈ wsX5_isTaken := by decide +kernel
  have L12 := C.2.2.2.2 (.fieldLink RX5 12 "LikelyWalks" "now" "LLikelyWalks$State;") (by decide +kernel)
  have L45 := C.2.2.2.2 (.fieldLink RX5 45 "LikelyWalks$State" "code" "LLikelyWalks$Code;") (by decide +kernel)
  have L64 := C.2.2.2.2 (.fieldLink RX5 64 "LikelyWalks$State" "reader" "LLikelyWalks$Reader;") (by decide +kernel)
  have L71 := C.2.2.2.2 (.fieldLink RX5 71 "LikelyWalks$Code" "outputs" "I") (by decide +kernel)
  have L113 := C.2.2.2.2 (.fieldLink RX5 113 "LikelyWalks$Reader" "lineSteps" "I") (by decide +kernel)
  refine lv_iload_n C.1 C.2.1 dX5_isTaken_0 rfl (lv_at hl 1 rfl) ?_
  refine lv_aload_n C.1 C.2.1 dX5_isTaken_1 rfl (lv_at hl 0 rfl) ?_
  refine z_get C wd (Cn := RX5) (TT := TX5) (N := 7) (ci := 5) iX5 0 rfl rfl 0 (by decide) L12 (fun _ h => h) rfl dX5_isTaken_2 ?_
  refine z_get C wd (Cn := RX3) (TT := TX3) (N := 4) (ci := 3) iX3 1 rfl rfl 3 (by decide) L64 (fun _ h => h) rfl dX5_isTaken_5 ?_
  refine z_get C wd (Cn := RX1) (TT := TX1) (N := 8) (ci := 1) iX1 3 rfl rfl 1 (by decide) L113 (fun _ h => h) rfl dX5_isTaken_8 ?_
  refine lv_aload_n C.1 C.2.1 dX5_isTaken_11 rfl (lv_at hl 0 rfl) ?_
  refine z_get C wd (Cn := RX5) (TT := TX5) (N := 7) (ci := 5) iX5 0 rfl rfl 0 (by decide) L12 (fun _ h => h) rfl dX5_isTaken_12 ?_
  refine z_get C wd (Cn := RX3) (TT := TX3) (N := 4) (ci := 3) iX3 1 rfl rfl 1 (by decide) L45 (fun _ h => h) rfl dX5_isTaken_15 ?_
  refine z_get C wd (Cn := RX0) (TT := TX0) (N := 3) (ci := 0) iX0 2 rfl rfl 1 (by decide) L71 (fun _ h => h) rfl dX5_isTaken_18 ?_
  refine z_imul C dX5_isTaken_21 ?_
  refine z_icmp_ge C (tgt := 29) dX5_isTaken_22 (by decide) (by omega) (fun c_1 => ?_) (fun c_1 => ?_)
  · skip
    refine z_iconst C dX5_isTaken_29 ?_
    exact z_zret C hr hlk (by omega) wd (by first | rfl | exact (bI_t (by omega)).symm | exact (bI_f (by omega)).symm) dX5_isTaken_30
  · skip
    refine z_iconst C dX5_isTaken_25 ?_
    refine z_goto C (tgt := 30) dX5_isTaken_26 (by decide) ?_
    exact z_zret C hr hlk (by omega) wd (by first | rfl | exact (bI_t (by omega)).symm | exact (bI_f (by omega)).symm) dX5_isTaken_30
set_option maxRecDepth 100000 in
set_option maxHeartbeats 4000000 in
theorem c_X5_erasedSymbols (l : Launch) (D : va_G) (cy cs : ClassId) (w0 w1 w2 t0 d0 d0k a0 a1 s0 s1 s2 s3 r0 r1 r2 r3 r4 : Nat) (iK n L : Int) (M : Int → Int) (hln : 0 ≤ M 7 * M 1 ∧ M 7 * M 1 ≤ 240) (hli : ∀ j : Int, 0 ≤ j → j < 240 → 0 ≤ sl M 92 j ∧ sl M 92 j ≤ 2) : zCi l D (zT cy cs) yX5_erasedSymbols wsX5_erasedSymbols ({ frames := 1, cells := 0, slots := 0, locals := 20 } : Room) [.ref w0] [zO w0 5 [.ref d0, .ref d0k, .int (iI iK), .ref w1, .int (iI n), .ref t0, .ref w2], zO d0 3 [.int (iI (M 5)), .ref a0, .ref s0, .ref r0], zO a0 0 [.int (iI (M 0)), .int (iI (M 1)), .ref a1], zO s0 2 [.int (iI (M 6)), .int (iI (M 7)), .ref s1, .ref s2, .ref s3], zA cy s2 240 (sl M 92)] (cntE M) [zO w0 5 [.ref d0, .ref d0k, .int (iI iK), .ref w1, .int (iI n), .ref t0, .ref w2], zO d0 3 [.int (iI (M 5)), .ref a0, .ref s0, .ref r0], zO a0 0 [.int (iI (M 0)), .int (iI (M 1)), .ref a1], zO s0 2 [.int (iI (M 6)), .int (iI (M 7)), .ref s1, .ref s2, .ref s3], zA cy s2 240 (sl M 92)] := by
  intro sz
  refine zM_mk (cc := cX5_erasedSymbols) (maxL := 4) (ret := (some .int)) (own := RX5) (Qc := fun sz => va_Qi (fun r (_ : Unit) => r = iI (cntE M)) (fun _ t => zQ D (zT cy cs) (va_A [zO w0 5 [.ref d0, .ref d0k, .int (iI iK), .ref w1, .int (iI n), .ref t0, .ref w2], zO d0 3 [.int (iI (M 5)), .ref a0, .ref s0, .ref r0], zO a0 0 [.int (iI (M 0)), .int (iI (M 1)), .ref a1], zO s0 2 [.int (iI (M 6)), .int (iI (M 7)), .ref s1, .ref s2, .ref s3], zA cy s2 240 (sl M 92)] sz) [zO w0 5 [.ref d0, .ref d0k, .int (iI iK), .ref w1, .int (iI n), .ref t0, .ref w2], zO d0 3 [.int (iI (M 5)), .ref a0, .ref s0, .ref r0], zO a0 0 [.int (iI (M 0)), .int (iI (M 1)), .ref a1], zO s0 2 [.int (iI (M 6)), .int (iI (M 7)), .ref s1, .ref s2, .ref s3], zA cy s2 240 (sl M 92)] t) (va_A [zO w0 5 [.ref d0, .ref d0k, .int (iI iK), .ref w1, .int (iI n), .ref t0, .ref w2], zO d0 3 [.int (iI (M 5)), .ref a0, .ref s0, .ref r0], zO a0 0 [.int (iI (M 0)), .int (iI (M 1)), .ref a1], zO s0 2 [.int (iI (M 6)), .int (iI (M 7)), .ref s1, .ref s2, .ref s3], zA cy s2 240 (sl M 92)] sz)) (by decide) rfl rfl (Nat.le_of_ble_eq_true rfl) rfl sz ?_
  intro p e s m args below meth c ls C hr hlk hnm hl hsz hA wd
  subst hsz
  have hl : lv_has ls 4 [(0, .ref w0)] := hl
  have iX2 : ∀ w ∈ u_ws RX2 TX2 5, w ∈ wsX5_erasedSymbols := by decide +kernel
  have iX3 : ∀ w ∈ u_ws RX3 TX3 4, w ∈ wsX5_erasedSymbols := by decide +kernel
  have iX5 : ∀ w ∈ u_ws RX5 TX5 7, w ∈ wsX5_erasedSymbols := by decide +kernel
  have L12 := C.2.2.2.2 (.fieldLink RX5 12 "LikelyWalks" "now" "LLikelyWalks$State;") (by decide +kernel)
  have L55 := C.2.2.2.2 (.fieldLink RX5 55 "LikelyWalks$State" "sender" "LLikelyWalks$Sender;") (by decide +kernel)
  have L104 := C.2.2.2.2 (.fieldLink RX5 104 "LikelyWalks$Sender" "symbols" "[I") (by decide +kernel)
  refine lv_aload_n C.1 C.2.1 dX5_erasedSymbols_0 rfl (lv_at hl 0 rfl) ?_
  refine z_cvi C wd hA (As := []) (rest := []) (ws2 := [zO w0 5 [.ref d0, .ref d0k, .int (iI iK), .ref w1, .int (iI n), .ref t0, .ref w2], zO d0 3 [.int (iI (M 5)), .ref a0, .ref s0, .ref r0], zO a0 0 [.int (iI (M 0)), .int (iI (M 1)), .ref a1], zO s0 2 [.int (iI (M 6)), .int (iI (M 7)), .ref s1, .ref s2, .ref s3], zA cy s2 240 (sl M 92)]) (c_X5_lineLength l D cy cs w0 w1 w2 t0 d0 d0k a0 a1 s0 s1 s2 s3 r0 0 0 0 0 iK n 0 M ) (cwV 0 C.2.2.2.2 gX5_erasedSymbols_X5_lineLength rfl rfl rfl (by decide +kernel) ⟨Nat.le_of_ble_eq_true rfl, Nat.le_of_ble_eq_true rfl⟩) [0, 1, 2, 3] rfl rfl rfl ⟨rfl, [4], [zA cy s2 240 (sl M 92)], 5, rfl, rfl, rfl, by decide +kernel⟩ rfl rfl rfl rfl (Nat.le_of_ble_eq_true rfl) hl.1 dX5_erasedSymbols_1 ⟨Nat.zero_le _, Nat.zero_le _⟩ (fun H locs wd => ?_)
  refine lv_istore_n (lv' := [(1, .int (iI (M 7 * M 1))), (0, .ref w0)]) C.1 C.2.1 dX5_erasedSymbols_4 rfl hl (by decide) rfl (fun ls hl => ?_)
  refine z_iconst C dX5_erasedSymbols_5 ?_
  refine lv_istore_n (lv' := [(2, .int (iI 0)), (1, .int (iI (M 7 * M 1))), (0, .ref w0)]) C.1 C.2.1 dX5_erasedSymbols_6 rfl hl (by decide) rfl (fun ls hl => ?_)
  refine z_iconst C dX5_erasedSymbols_7 ?_
  refine lv_istore_n (lv' := [(3, .int (iI 0)), (2, .int (iI 0)), (1, .int (iI (M 7 * M 1))), (0, .ref w0)]) C.1 C.2.1 dX5_erasedSymbols_8 rfl hl (by decide) rfl (fun ls hl => ?_)
  refine z_loop2 (P := fun (x : Int) (k : Int) => (0 ≤ k ∧ k ≤ M 7 * M 1) ∧ (x = sm (er1 M) k.toNat)) (mu := fun (x : Int) (k : Int) => (M 7 * M 1 - k).toNat) (ws := fun (x : Int) (k : Int) => [zO w0 5 [.ref d0, .ref d0k, .int (iI iK), .ref w1, .int (iI n), .ref t0, .ref w2], zO d0 3 [.int (iI (M 5)), .ref a0, .ref s0, .ref r0], zO a0 0 [.int (iI (M 0)), .int (iI (M 1)), .ref a1], zO s0 2 [.int (iI (M 6)), .int (iI (M 7)), .ref s1, .ref s2, .ref s3], zA cy s2 240 (sl M 92)]) (lv := fun (x : Int) (k : Int) => [(0, .ref w0), (1, .int (iI (M 7 * M 1))), (2, .int (iI x)), (3, .int (iI k))]) 0 0 C ⟨(by omega), rfl⟩ wd (lv_sub hl [3, 2, 1, 0] rfl) ?_
  intro x k hP9 ih9 H locs ls wd hl
  obtain ⟨h9_0, h9_1⟩ := hP9
  try dsimp only at h9_0 h9_1
  have wd : Wd D (zT cy cs) _ s.heap s [zO w0 5 [.ref d0, .ref d0k, .int (iI iK), .ref w1, .int (iI n), .ref t0, .ref w2], zO d0 3 [.int (iI (M 5)), .ref a0, .ref s0, .ref r0], zO a0 0 [.int (iI (M 0)), .int (iI (M 1)), .ref a1], zO s0 2 [.int (iI (M 6)), .int (iI (M 7)), .ref s1, .ref s2, .ref s3], zA cy s2 240 (sl M 92)] H locs := wd
  have hl : lv_has ls 4 [(0, .ref w0), (1, .int (iI (M 7 * M 1))), (2, .int (iI x)), (3, .int (iI k))] := hl
  refine lv_iload_n C.1 C.2.1 dX5_erasedSymbols_9 rfl (lv_at hl 3 rfl) ?_
  refine lv_iload_n C.1 C.2.1 dX5_erasedSymbols_10 rfl (lv_at hl 1 rfl) ?_
  refine z_icmp_ge C (tgt := 39) dX5_erasedSymbols_11 (by decide) (by omega) (fun c_1 => ?_) (fun c_1 => ?_)
  · skip
    refine lv_iload_n C.1 C.2.1 dX5_erasedSymbols_39 rfl (lv_at hl 2 rfl) ?_
    exact z_iret C hr hlk wd (by rw [h9_1, cntE, show k = M 7 * M 1 by omega]) dX5_erasedSymbols_40
  · skip
    refine lv_aload_n C.1 C.2.1 dX5_erasedSymbols_14 rfl (lv_at hl 0 rfl) ?_
    refine z_get C wd (Cn := RX5) (TT := TX5) (N := 7) (ci := 5) iX5 0 rfl rfl 0 (by decide) L12 (fun _ h => h) rfl dX5_erasedSymbols_15 ?_
    refine z_get C wd (Cn := RX3) (TT := TX3) (N := 4) (ci := 3) iX3 1 rfl rfl 2 (by decide) L55 (fun _ h => h) rfl dX5_erasedSymbols_18 ?_
    refine z_get C wd (Cn := RX2) (TT := TX2) (N := 5) (ci := 2) iX2 3 rfl rfl 3 (by decide) L104 (fun _ h => h) rfl dX5_erasedSymbols_21 ?_
    have hx := hli k h9_0.1 (by omega)
    refine lv_iload_n C.1 C.2.1 dX5_erasedSymbols_24 rfl (lv_at hl 3 rfl) ?_
    refine z_iald C wd 4 rfl (by omega) (by decide) dX5_erasedSymbols_25 ?_
    refine z_iconst C dX5_erasedSymbols_26 ?_
    refine z_icmp_ne C (tgt := 33) dX5_erasedSymbols_27 (by decide) (by omega) (fun c_2 => ?_) (fun c_2 => ?_)
    · skip
      refine z_iinc C (lv' := [(3, .int (iI (k + 1))), (0, .ref w0), (1, .int (iI (M 7 * M 1))), (2, .int (iI x))]) hl 3 dX5_erasedSymbols_33 rfl (by decide) rfl (fun ls hl => ?_)
      refine z_goto C (tgt := 9) dX5_erasedSymbols_36 (by decide) ?_
      exact ih9 x (k + 1) ⟨(by omega), (by first | exact sm_zero h9_0.1 h9_1 (by first | exact if_pos (by omega) | exact if_neg (by omega)) | exact sm_one h9_0.1 h9_1 (by first | exact if_pos (by omega) | exact if_neg (by omega)))⟩ (by omega) H locs _ wd (lv_sub hl [1, 2, 3, 0] rfl)
    · skip
      refine z_iinc C (lv' := [(2, .int (iI (x + 1))), (0, .ref w0), (1, .int (iI (M 7 * M 1))), (3, .int (iI k))]) hl 2 dX5_erasedSymbols_30 rfl (by decide) rfl (fun ls hl => ?_)
      refine z_iinc C (lv' := [(3, .int (iI (k + 1))), (2, .int (iI (x + 1))), (0, .ref w0), (1, .int (iI (M 7 * M 1)))]) hl 3 dX5_erasedSymbols_33 rfl (by decide) rfl (fun ls hl => ?_)
      refine z_goto C (tgt := 9) dX5_erasedSymbols_36 (by decide) ?_
      exact ih9 (x + 1) (k + 1) ⟨(by omega), (by first | exact sm_zero h9_0.1 h9_1 (by first | exact if_pos (by omega) | exact if_neg (by omega)) | exact sm_one h9_0.1 h9_1 (by first | exact if_pos (by omega) | exact if_neg (by omega)))⟩ (by omega) H locs _ wd (lv_sub hl [2, 3, 1, 0] rfl)
set_option maxRecDepth 100000 in
set_option maxHeartbeats 4000000 in
theorem c_X5_flippedSymbols (l : Launch) (D : va_G) (cy cs : ClassId) (w0 w1 w2 t0 d0 d0k a0 a1 s0 s1 s2 s3 r0 r1 r2 r3 r4 : Nat) (iK n L : Int) (M : Int → Int) (hln : 0 ≤ M 7 * M 1 ∧ M 7 * M 1 ≤ 240) (hli : ∀ j : Int, 0 ≤ j → j < 240 → 0 ≤ sl M 92 j ∧ sl M 92 j ≤ 2) (hwa : ∀ j : Int, 0 ≤ j → j < 240 → 0 ≤ sl M 332 j ∧ sl M 332 j ≤ 1) : zCi l D (zT cy cs) yX5_flippedSymbols wsX5_flippedSymbols ({ frames := 1, cells := 0, slots := 0, locals := 20 } : Room) [.ref w0] [zO w0 5 [.ref d0, .ref d0k, .int (iI iK), .ref w1, .int (iI n), .ref t0, .ref w2], zO d0 3 [.int (iI (M 5)), .ref a0, .ref s0, .ref r0], zO a0 0 [.int (iI (M 0)), .int (iI (M 1)), .ref a1], zO s0 2 [.int (iI (M 6)), .int (iI (M 7)), .ref s1, .ref s2, .ref s3], zA cy s2 240 (sl M 92), zA cy s3 240 (sl M 332)] (cntF M) [zO w0 5 [.ref d0, .ref d0k, .int (iI iK), .ref w1, .int (iI n), .ref t0, .ref w2], zO d0 3 [.int (iI (M 5)), .ref a0, .ref s0, .ref r0], zO a0 0 [.int (iI (M 0)), .int (iI (M 1)), .ref a1], zO s0 2 [.int (iI (M 6)), .int (iI (M 7)), .ref s1, .ref s2, .ref s3], zA cy s2 240 (sl M 92), zA cy s3 240 (sl M 332)] := by
  intro sz
  refine zM_mk (cc := cX5_flippedSymbols) (maxL := 5) (ret := (some .int)) (own := RX5) (Qc := fun sz => va_Qi (fun r (_ : Unit) => r = iI (cntF M)) (fun _ t => zQ D (zT cy cs) (va_A [zO w0 5 [.ref d0, .ref d0k, .int (iI iK), .ref w1, .int (iI n), .ref t0, .ref w2], zO d0 3 [.int (iI (M 5)), .ref a0, .ref s0, .ref r0], zO a0 0 [.int (iI (M 0)), .int (iI (M 1)), .ref a1], zO s0 2 [.int (iI (M 6)), .int (iI (M 7)), .ref s1, .ref s2, .ref s3], zA cy s2 240 (sl M 92), zA cy s3 240 (sl M 332)] sz) [zO w0 5 [.ref d0, .ref d0k, .int (iI iK), .ref w1, .int (iI n), .ref t0, .ref w2], zO d0 3 [.int (iI (M 5)), .ref a0, .ref s0, .ref r0], zO a0 0 [.int (iI (M 0)), .int (iI (M 1)), .ref a1], zO s0 2 [.int (iI (M 6)), .int (iI (M 7)), .ref s1, .ref s2, .ref s3], zA cy s2 240 (sl M 92), zA cy s3 240 (sl M 332)] t) (va_A [zO w0 5 [.ref d0, .ref d0k, .int (iI iK), .ref w1, .int (iI n), .ref t0, .ref w2], zO d0 3 [.int (iI (M 5)), .ref a0, .ref s0, .ref r0], zO a0 0 [.int (iI (M 0)), .int (iI (M 1)), .ref a1], zO s0 2 [.int (iI (M 6)), .int (iI (M 7)), .ref s1, .ref s2, .ref s3], zA cy s2 240 (sl M 92), zA cy s3 240 (sl M 332)] sz)) (by decide) rfl rfl (Nat.le_of_ble_eq_true rfl) rfl sz ?_
  intro p e s m args below meth c ls C hr hlk hnm hl hsz hA wd
  subst hsz
  have hl : lv_has ls 5 [(0, .ref w0)] := hl
  have iX2 : ∀ w ∈ u_ws RX2 TX2 5, w ∈ wsX5_flippedSymbols := by decide +kernel
  have iX3 : ∀ w ∈ u_ws RX3 TX3 4, w ∈ wsX5_flippedSymbols := by decide +kernel
  have iX5 : ∀ w ∈ u_ws RX5 TX5 7, w ∈ wsX5_flippedSymbols := by decide +kernel
  have L12 := C.2.2.2.2 (.fieldLink RX5 12 "LikelyWalks" "now" "LLikelyWalks$State;") (by decide +kernel)
  have L55 := C.2.2.2.2 (.fieldLink RX5 55 "LikelyWalks$State" "sender" "LLikelyWalks$Sender;") (by decide +kernel)
  have L104 := C.2.2.2.2 (.fieldLink RX5 104 "LikelyWalks$Sender" "symbols" "[I") (by decide +kernel)
  have L152 := C.2.2.2.2 (.fieldLink RX5 152 "LikelyWalks$Sender" "originals" "[I") (by decide +kernel)
  refine lv_aload_n C.1 C.2.1 dX5_flippedSymbols_0 rfl (lv_at hl 0 rfl) ?_
  refine z_cvi C wd hA (As := []) (rest := []) (ws2 := [zO w0 5 [.ref d0, .ref d0k, .int (iI iK), .ref w1, .int (iI n), .ref t0, .ref w2], zO d0 3 [.int (iI (M 5)), .ref a0, .ref s0, .ref r0], zO a0 0 [.int (iI (M 0)), .int (iI (M 1)), .ref a1], zO s0 2 [.int (iI (M 6)), .int (iI (M 7)), .ref s1, .ref s2, .ref s3], zA cy s2 240 (sl M 92), zA cy s3 240 (sl M 332)]) (c_X5_lineLength l D cy cs w0 w1 w2 t0 d0 d0k a0 a1 s0 s1 s2 s3 r0 0 0 0 0 iK n 0 M ) (cwV 0 C.2.2.2.2 gX5_flippedSymbols_X5_lineLength rfl rfl rfl (by decide +kernel) ⟨Nat.le_of_ble_eq_true rfl, Nat.le_of_ble_eq_true rfl⟩) [0, 1, 2, 3] rfl rfl rfl ⟨rfl, [4, 5], [zA cy s2 240 (sl M 92), zA cy s3 240 (sl M 332)], 6, rfl, rfl, rfl, by decide +kernel⟩ rfl rfl rfl rfl (Nat.le_of_ble_eq_true rfl) hl.1 dX5_flippedSymbols_1 ⟨Nat.zero_le _, Nat.zero_le _⟩ (fun H locs wd => ?_)
  refine lv_istore_n (lv' := [(1, .int (iI (M 7 * M 1))), (0, .ref w0)]) C.1 C.2.1 dX5_flippedSymbols_4 rfl hl (by decide) rfl (fun ls hl => ?_)
  refine z_iconst C dX5_flippedSymbols_5 ?_
  refine lv_istore_n (lv' := [(2, .int (iI 0)), (1, .int (iI (M 7 * M 1))), (0, .ref w0)]) C.1 C.2.1 dX5_flippedSymbols_6 rfl hl (by decide) rfl (fun ls hl => ?_)
  refine z_iconst C dX5_flippedSymbols_7 ?_
  refine lv_istore_n (lv' := [(3, .int (iI 0)), (2, .int (iI 0)), (1, .int (iI (M 7 * M 1))), (0, .ref w0)]) C.1 C.2.1 dX5_flippedSymbols_8 rfl hl (by decide) rfl (fun ls hl => ?_)
  refine z_loop2 (P := fun (x : Int) (k : Int) => (0 ≤ k ∧ k ≤ M 7 * M 1) ∧ (x = sm (fl1 M) k.toNat)) (mu := fun (x : Int) (k : Int) => (M 7 * M 1 - k).toNat) (ws := fun (x : Int) (k : Int) => [zO w0 5 [.ref d0, .ref d0k, .int (iI iK), .ref w1, .int (iI n), .ref t0, .ref w2], zO d0 3 [.int (iI (M 5)), .ref a0, .ref s0, .ref r0], zO a0 0 [.int (iI (M 0)), .int (iI (M 1)), .ref a1], zO s0 2 [.int (iI (M 6)), .int (iI (M 7)), .ref s1, .ref s2, .ref s3], zA cy s2 240 (sl M 92), zA cy s3 240 (sl M 332)]) (lv := fun (x : Int) (k : Int) => [(0, .ref w0), (1, .int (iI (M 7 * M 1))), (2, .int (iI x)), (3, .int (iI k))]) 0 0 C ⟨(by omega), rfl⟩ wd (lv_sub hl [3, 2, 1, 0] rfl) ?_
  intro x k hP9 ih9 H locs ls wd hl
  obtain ⟨h9_0, h9_1⟩ := hP9
  try dsimp only at h9_0 h9_1
  have wd : Wd D (zT cy cs) _ s.heap s [zO w0 5 [.ref d0, .ref d0k, .int (iI iK), .ref w1, .int (iI n), .ref t0, .ref w2], zO d0 3 [.int (iI (M 5)), .ref a0, .ref s0, .ref r0], zO a0 0 [.int (iI (M 0)), .int (iI (M 1)), .ref a1], zO s0 2 [.int (iI (M 6)), .int (iI (M 7)), .ref s1, .ref s2, .ref s3], zA cy s2 240 (sl M 92), zA cy s3 240 (sl M 332)] H locs := wd
  have hl : lv_has ls 5 [(0, .ref w0), (1, .int (iI (M 7 * M 1))), (2, .int (iI x)), (3, .int (iI k))] := hl
  refine lv_iload_n C.1 C.2.1 dX5_flippedSymbols_9 rfl (lv_at hl 3 rfl) ?_
  refine lv_iload_n C.1 C.2.1 dX5_flippedSymbols_10 rfl (lv_at hl 1 rfl) ?_
  refine z_icmp_ge C (tgt := 60) dX5_flippedSymbols_11 (by decide) (by omega) (fun c_1 => ?_) (fun c_1 => ?_)
  · skip
    refine lv_iload_n C.1 C.2.1 dX5_flippedSymbols_60 rfl (lv_at hl 2 rfl) ?_
    exact z_iret C hr hlk wd (by rw [h9_1, cntF, show k = M 7 * M 1 by omega]) dX5_flippedSymbols_61
  · skip
    refine lv_aload_n C.1 C.2.1 dX5_flippedSymbols_14 rfl (lv_at hl 0 rfl) ?_
    refine z_get C wd (Cn := RX5) (TT := TX5) (N := 7) (ci := 5) iX5 0 rfl rfl 0 (by decide) L12 (fun _ h => h) rfl dX5_flippedSymbols_15 ?_
    refine z_get C wd (Cn := RX3) (TT := TX3) (N := 4) (ci := 3) iX3 1 rfl rfl 2 (by decide) L55 (fun _ h => h) rfl dX5_flippedSymbols_18 ?_
    refine z_get C wd (Cn := RX2) (TT := TX2) (N := 5) (ci := 2) iX2 3 rfl rfl 3 (by decide) L104 (fun _ h => h) rfl dX5_flippedSymbols_21 ?_
    refine lv_iload_n C.1 C.2.1 dX5_flippedSymbols_24 rfl (lv_at hl 3 rfl) ?_
    have hx := hli k h9_0.1 (by omega)
    have hy := hwa k h9_0.1 (by omega)
    refine z_iald C wd 4 rfl (by omega) (by decide) dX5_flippedSymbols_25 ?_
    refine lv_istore (lv' := [(4, .int (iI ((sl M 92) k))), (0, .ref w0), (1, .int (iI (M 7 * M 1))), (2, .int (iI x)), (3, .int (iI k))]) C.1 C.2.1 dX5_flippedSymbols_26 hl (by decide) rfl (fun ls hl => ?_)
    refine lv_iload C.1 C.2.1 dX5_flippedSymbols_28 (lv_at hl 0 rfl) ?_
    refine z_iconst C dX5_flippedSymbols_30 ?_
    refine z_icmp_eq C (tgt := 54) dX5_flippedSymbols_31 (by decide) (by omega) (fun c_2 => ?_) (fun c_2 => ?_)
    · skip
      refine z_iinc C (lv' := [(3, .int (iI (k + 1))), (4, .int (iI ((sl M 92) k))), (0, .ref w0), (1, .int (iI (M 7 * M 1))), (2, .int (iI x))]) hl 4 dX5_flippedSymbols_54 rfl (by decide) rfl (fun ls hl => ?_)
      refine z_goto C (tgt := 9) dX5_flippedSymbols_57 (by decide) ?_
      exact ih9 x (k + 1) ⟨(by omega), (by first | exact sm_zero h9_0.1 h9_1 (by first | exact if_pos (by omega) | exact if_neg (by omega)) | exact sm_one h9_0.1 h9_1 (by first | exact if_pos (by omega) | exact if_neg (by omega)))⟩ (by omega) H locs _ wd (lv_sub hl [2, 3, 4, 0] rfl)
    · skip
      refine lv_iload C.1 C.2.1 dX5_flippedSymbols_34 (lv_at hl 0 rfl) ?_
      refine lv_aload_n C.1 C.2.1 dX5_flippedSymbols_36 rfl (lv_at hl 1 rfl) ?_
      refine z_get C wd (Cn := RX5) (TT := TX5) (N := 7) (ci := 5) iX5 0 rfl rfl 0 (by decide) L12 (fun _ h => h) rfl dX5_flippedSymbols_37 ?_
      refine z_get C wd (Cn := RX3) (TT := TX3) (N := 4) (ci := 3) iX3 1 rfl rfl 2 (by decide) L55 (fun _ h => h) rfl dX5_flippedSymbols_40 ?_
      refine z_get C wd (Cn := RX2) (TT := TX2) (N := 5) (ci := 2) iX2 3 rfl rfl 4 (by decide) L152 (fun _ h => h) rfl dX5_flippedSymbols_43 ?_
      refine lv_iload_n C.1 C.2.1 dX5_flippedSymbols_46 rfl (lv_at hl 4 rfl) ?_
      refine z_iald C wd 5 rfl (by omega) (by decide) dX5_flippedSymbols_47 ?_
      refine z_icmp_eq C (tgt := 54) dX5_flippedSymbols_48 (by decide) (by omega) (fun c_3 => ?_) (fun c_3 => ?_)
      · skip
        refine z_iinc C (lv' := [(3, .int (iI (k + 1))), (4, .int (iI ((sl M 92) k))), (0, .ref w0), (1, .int (iI (M 7 * M 1))), (2, .int (iI x))]) hl 4 dX5_flippedSymbols_54 rfl (by decide) rfl (fun ls hl => ?_)
        refine z_goto C (tgt := 9) dX5_flippedSymbols_57 (by decide) ?_
        exact ih9 x (k + 1) ⟨(by omega), (by first | exact sm_zero h9_0.1 h9_1 (by first | exact if_pos (by omega) | exact if_neg (by omega)) | exact sm_one h9_0.1 h9_1 (by first | exact if_pos (by omega) | exact if_neg (by omega)))⟩ (by omega) H locs _ wd (lv_sub hl [2, 3, 4, 0] rfl)
      · skip
        refine z_iinc C (lv' := [(2, .int (iI (x + 1))), (4, .int (iI ((sl M 92) k))), (0, .ref w0), (1, .int (iI (M 7 * M 1))), (3, .int (iI k))]) hl 3 dX5_flippedSymbols_51 rfl (by decide) rfl (fun ls hl => ?_)
        refine z_iinc C (lv' := [(3, .int (iI (k + 1))), (2, .int (iI (x + 1))), (4, .int (iI ((sl M 92) k))), (0, .ref w0), (1, .int (iI (M 7 * M 1)))]) hl 4 dX5_flippedSymbols_54 rfl (by decide) rfl (fun ls hl => ?_)
        refine z_goto C (tgt := 9) dX5_flippedSymbols_57 (by decide) ?_
        exact ih9 (x + 1) (k + 1) ⟨(by omega), (by first | exact sm_zero h9_0.1 h9_1 (by first | exact if_pos (by omega) | exact if_neg (by omega)) | exact sm_one h9_0.1 h9_1 (by first | exact if_pos (by omega) | exact if_neg (by omega)))⟩ (by omega) H locs _ wd (lv_sub hl [3, 4, 1, 0] rfl)
set_option maxRecDepth 100000 in
set_option maxHeartbeats 4000000 in
theorem c_X5_step (l : Launch) (D : va_G) (cy cs : ClassId) (w0 w1 w2 t0 d0 d0k a0 a1 s0 s1 s2 s3 r0 r1 r2 r3 r4 : Nat) (iK n L : Int) (M : Int → Int) (st b x : Int) (hm : 1 ≤ M 0 ∧ M 0 ≤ 5) (ho : 2 ≤ M 1 ∧ M 1 ≤ 3) (ht : tpOk (sl M 2)) (hst : -2147483648 ≤ st ∧ st < 2147483648) (hb : -2147483648 ≤ b ∧ b < 2147483648) (hx : -2147483648 ≤ x ∧ x < 2147483648) : zCi l D (zT cy cs) yX5_step wsX5_step ({ frames := 3, cells := 0, slots := 0, locals := 67 } : Room) [.ref w0, .int (iI st), .int (iI b), .int (iI x)] [zO w0 5 [.ref d0, .ref d0k, .int (iI iK), .ref w1, .int (iI n), .ref t0, .ref w2], zO d0 3 [.int (iI (M 5)), .ref a0, .ref s0, .ref r0], zO a0 0 [.int (iI (M 0)), .int (iI (M 1)), .ref a1], zA cy a1 3 (sl M 2)] (rdStep M st b x) [zO w0 5 [.ref d0, .ref d0k, .int (iI iK), .ref w1, .int (iI n), .ref t0, .ref w2], zO d0 3 [.int (iI (M 5)), .ref a0, .ref s0, .ref r0], zO a0 0 [.int (iI (M 0)), .int (iI (M 1)), .ref a1], zA cy a1 3 (sl M 2)] := by
  intro sz
  refine zM_mk (cc := cX5_step) (maxL := 4) (ret := (some .int)) (own := RX5) (Qc := fun sz => va_Qi (fun r (_ : Unit) => r = iI (rdStep M st b x)) (fun _ t => zQ D (zT cy cs) (va_A [zO w0 5 [.ref d0, .ref d0k, .int (iI iK), .ref w1, .int (iI n), .ref t0, .ref w2], zO d0 3 [.int (iI (M 5)), .ref a0, .ref s0, .ref r0], zO a0 0 [.int (iI (M 0)), .int (iI (M 1)), .ref a1], zA cy a1 3 (sl M 2)] sz) [zO w0 5 [.ref d0, .ref d0k, .int (iI iK), .ref w1, .int (iI n), .ref t0, .ref w2], zO d0 3 [.int (iI (M 5)), .ref a0, .ref s0, .ref r0], zO a0 0 [.int (iI (M 0)), .int (iI (M 1)), .ref a1], zA cy a1 3 (sl M 2)] t) (va_A [zO w0 5 [.ref d0, .ref d0k, .int (iI iK), .ref w1, .int (iI n), .ref t0, .ref w2], zO d0 3 [.int (iI (M 5)), .ref a0, .ref s0, .ref r0], zO a0 0 [.int (iI (M 0)), .int (iI (M 1)), .ref a1], zA cy a1 3 (sl M 2)] sz)) (by decide) rfl rfl (Nat.le_of_ble_eq_true rfl) rfl sz ?_
  intro p e s m args below meth c ls C hr hlk hnm hl hsz hA wd
  subst hsz
  have hl : lv_has ls 4 [(0, .ref w0), (1, .int (iI st)), (2, .int (iI b)), (3, .int (iI x))] := hl
  have iX3 : ∀ w ∈ u_ws RX3 TX3 4, w ∈ wsX5_step := by decide +kernel
  have iX5 : ∀ w ∈ u_ws RX5 TX5 7, w ∈ wsX5_step := by decide +kernel
  have L12 := C.2.2.2.2 (.fieldLink RX5 12 "LikelyWalks" "now" "LLikelyWalks$State;") (by decide +kernel)
  have L45 := C.2.2.2.2 (.fieldLink RX5 45 "LikelyWalks$State" "code" "LLikelyWalks$Code;") (by decide +kernel)
  have hp := p2_all hm.1 hm.2
  refine lv_aload_n C.1 C.2.1 dX5_step_0 rfl (lv_at hl 0 rfl) ?_
  refine z_get C wd (Cn := RX5) (TT := TX5) (N := 7) (ci := 5) iX5 0 rfl rfl 0 (by decide) L12 (fun _ h => h) rfl dX5_step_1 ?_
  refine z_get C wd (Cn := RX3) (TT := TX3) (N := 4) (ci := 3) iX3 1 rfl rfl 1 (by decide) L45 (fun _ h => h) rfl dX5_step_4 ?_
  refine lv_iload_n C.1 C.2.1 dX5_step_7 rfl (lv_at hl 1 rfl) ?_
  refine z_cvi C wd hA (As := [.int (iI st)]) (rest := []) (ws2 := [zO w0 5 [.ref d0, .ref d0k, .int (iI iK), .ref w1, .int (iI n), .ref t0, .ref w2], zO d0 3 [.int (iI (M 5)), .ref a0, .ref s0, .ref r0], zO a0 0 [.int (iI (M 0)), .int (iI (M 1)), .ref a1], zA cy a1 3 (sl M 2)]) (c_X0_hasState l D cy cs a0 a1 (M 0) (M 1) st (by omega) (by omega)) (cwV 1 C.2.2.2.2 gX5_step_X0_hasState rfl rfl rfl (by decide +kernel) ⟨Nat.le_of_ble_eq_true rfl, Nat.le_of_ble_eq_true rfl⟩) [2] rfl rfl rfl ⟨rfl, [0, 1, 3], [zO w0 5 [.ref d0, .ref d0k, .int (iI iK), .ref w1, .int (iI n), .ref t0, .ref w2], zO d0 3 [.int (iI (M 5)), .ref a0, .ref s0, .ref r0], zA cy a1 3 (sl M 2)], 4, rfl, rfl, rfl, by decide +kernel⟩ rfl rfl rfl rfl (Nat.le_of_ble_eq_true rfl) hl.1 dX5_step_8 ⟨Nat.zero_le _, Nat.zero_le _⟩ (fun H locs wd => ?_)
  refine z_ifb_ne C (tgt := 16) dX5_step_11 (by decide) (fun c_1 => ?_) (fun c_1 => ?_)
  · skip
    refine lv_iload_n C.1 C.2.1 dX5_step_16 rfl (lv_at hl 2 rfl) ?_
    refine z_if_lt C (tgt := 34) dX5_step_17 (by decide) (by omega) (fun c_2 => ?_) (fun c_2 => ?_)
    · skip
      refine z_bipush C dX5_step_34 (by decide +kernel) ?_
      have wd := z_fld wd (ws2 := [zO w0 5 [.ref d0, .ref d0k, .int (iI iK), .ref w1, .int (iI n), .ref t0, .ref w2], zO d0 3 [.int (iI (M 5)), .ref a0, .ref s0, .ref r0], zO a0 0 [.int (iI (M 0)), .int (iI (M 1)), .ref a1], zA cy a1 3 (sl M 2)]) 2 rfl (congrArg (fun z0 => zO a0 0 [.int (iI z0), .int (iI (M 1)), .ref a1]) (show ((M 0) : Int) = M 0 from (by omega))) rfl
      have wd := z_fld wd (ws2 := [zO w0 5 [.ref d0, .ref d0k, .int (iI iK), .ref w1, .int (iI n), .ref t0, .ref w2], zO d0 3 [.int (iI (M 5)), .ref a0, .ref s0, .ref r0], zO a0 0 [.int (iI (M 0)), .int (iI (M 1)), .ref a1], zA cy a1 3 (sl M 2)]) 2 rfl (congrArg (fun z0 => zO a0 0 [.int (iI (M 0)), .int (iI z0), .ref a1]) (show ((M 1) : Int) = M 1 from (by omega))) rfl
      exact z_iret C hr hlk wd (by unfold rdStep; (repeat (first | rw [if_pos (by omega)] | rw [if_neg (by omega)])); first | done | rfl) dX5_step_36
    · skip
      refine lv_iload_n C.1 C.2.1 dX5_step_20 rfl (lv_at hl 2 rfl) ?_
      refine z_iconst C dX5_step_21 ?_
      refine z_icmp_gt C (tgt := 34) dX5_step_22 (by decide) (by omega) (fun c_3 => ?_) (fun c_3 => ?_)
      · skip
        refine z_bipush C dX5_step_34 (by decide +kernel) ?_
        have wd := z_fld wd (ws2 := [zO w0 5 [.ref d0, .ref d0k, .int (iI iK), .ref w1, .int (iI n), .ref t0, .ref w2], zO d0 3 [.int (iI (M 5)), .ref a0, .ref s0, .ref r0], zO a0 0 [.int (iI (M 0)), .int (iI (M 1)), .ref a1], zA cy a1 3 (sl M 2)]) 2 rfl (congrArg (fun z0 => zO a0 0 [.int (iI z0), .int (iI (M 1)), .ref a1]) (show ((M 0) : Int) = M 0 from (by omega))) rfl
        have wd := z_fld wd (ws2 := [zO w0 5 [.ref d0, .ref d0k, .int (iI iK), .ref w1, .int (iI n), .ref t0, .ref w2], zO d0 3 [.int (iI (M 5)), .ref a0, .ref s0, .ref r0], zO a0 0 [.int (iI (M 0)), .int (iI (M 1)), .ref a1], zA cy a1 3 (sl M 2)]) 2 rfl (congrArg (fun z0 => zO a0 0 [.int (iI (M 0)), .int (iI z0), .ref a1]) (show ((M 1) : Int) = M 1 from (by omega))) rfl
        exact z_iret C hr hlk wd (by unfold rdStep; (repeat (first | rw [if_pos (by omega)] | rw [if_neg (by omega)])); first | done | rfl) dX5_step_36
      · skip
        refine lv_iload_n C.1 C.2.1 dX5_step_25 rfl (lv_at hl 3 rfl) ?_
        refine z_if_lt C (tgt := 34) dX5_step_26 (by decide) (by omega) (fun c_4 => ?_) (fun c_4 => ?_)
        · skip
          refine z_bipush C dX5_step_34 (by decide +kernel) ?_
          have wd := z_fld wd (ws2 := [zO w0 5 [.ref d0, .ref d0k, .int (iI iK), .ref w1, .int (iI n), .ref t0, .ref w2], zO d0 3 [.int (iI (M 5)), .ref a0, .ref s0, .ref r0], zO a0 0 [.int (iI (M 0)), .int (iI (M 1)), .ref a1], zA cy a1 3 (sl M 2)]) 2 rfl (congrArg (fun z0 => zO a0 0 [.int (iI z0), .int (iI (M 1)), .ref a1]) (show ((M 0) : Int) = M 0 from (by omega))) rfl
          have wd := z_fld wd (ws2 := [zO w0 5 [.ref d0, .ref d0k, .int (iI iK), .ref w1, .int (iI n), .ref t0, .ref w2], zO d0 3 [.int (iI (M 5)), .ref a0, .ref s0, .ref r0], zO a0 0 [.int (iI (M 0)), .int (iI (M 1)), .ref a1], zA cy a1 3 (sl M 2)]) 2 rfl (congrArg (fun z0 => zO a0 0 [.int (iI (M 0)), .int (iI z0), .ref a1]) (show ((M 1) : Int) = M 1 from (by omega))) rfl
          exact z_iret C hr hlk wd (by unfold rdStep; (repeat (first | rw [if_pos (by omega)] | rw [if_neg (by omega)])); first | done | rfl) dX5_step_36
        · skip
          refine lv_iload_n C.1 C.2.1 dX5_step_29 rfl (lv_at hl 3 rfl) ?_
          refine z_iconst C dX5_step_30 ?_
          refine z_icmp_le C (tgt := 37) dX5_step_31 (by decide) (by omega) (fun c_5 => ?_) (fun c_5 => ?_)
          · skip
            refine lv_iload_n C.1 C.2.1 dX5_step_37 rfl (lv_at hl 3 rfl) ?_
            refine z_if_ne C (tgt := 56) dX5_step_38 (by decide) (by omega) (fun c_6 => ?_) (fun c_6 => ?_)
            · skip
              refine lv_aload_n C.1 C.2.1 dX5_step_56 rfl (lv_at hl 0 rfl) ?_
              refine z_get C wd (Cn := RX5) (TT := TX5) (N := 7) (ci := 5) iX5 0 rfl rfl 0 (by decide) L12 (fun _ h => h) rfl dX5_step_57 ?_
              refine z_get C wd (Cn := RX3) (TT := TX3) (N := 4) (ci := 3) iX3 1 rfl rfl 1 (by decide) L45 (fun _ h => h) rfl dX5_step_60 ?_
              refine lv_iload_n C.1 C.2.1 dX5_step_63 rfl (lv_at hl 1 rfl) ?_
              refine lv_iload_n C.1 C.2.1 dX5_step_64 rfl (lv_at hl 2 rfl) ?_
              refine z_cvi C wd hA (As := [.int (iI st), .int (iI b)]) (rest := []) (ws2 := [zO w0 5 [.ref d0, .ref d0k, .int (iI iK), .ref w1, .int (iI n), .ref t0, .ref w2], zO d0 3 [.int (iI (M 5)), .ref a0, .ref s0, .ref r0], zO a0 0 [.int (iI (M 0)), .int (iI (M 1)), .ref a1], zA cy a1 3 (sl M 2)]) (c_X0_symbolsOf l D cy cs a0 a1 (M 0) (M 1) (sl M 2) st b (by omega) (by omega) (by omega) (by omega) (by omega)) (cwV 2 C.2.2.2.2 gX5_step_X0_symbolsOf rfl rfl rfl (by decide +kernel) ⟨Nat.le_of_ble_eq_true rfl, Nat.le_of_ble_eq_true rfl⟩) [2, 3] rfl rfl rfl ⟨rfl, [0, 1], [zO w0 5 [.ref d0, .ref d0k, .int (iI iK), .ref w1, .int (iI n), .ref t0, .ref w2], zO d0 3 [.int (iI (M 5)), .ref a0, .ref s0, .ref r0]], 4, rfl, rfl, rfl, by decide +kernel⟩ rfl rfl rfl rfl (Nat.le_of_ble_eq_true rfl) hl.1 dX5_step_65 ⟨Nat.zero_le _, Nat.zero_le _⟩ (fun H locs wd => ?_)
              have wd := z_fld wd (ws2 := [zO w0 5 [.ref d0, .ref d0k, .int (iI iK), .ref w1, .int (iI n), .ref t0, .ref w2], zO d0 3 [.int (iI (M 5)), .ref a0, .ref s0, .ref r0], zO a0 0 [.int (iI (M 0)), .int (iI (M 1)), .ref a1], zA cy a1 3 (sl M 2)]) 2 rfl (congrArg (fun z0 => zO a0 0 [.int (iI z0), .int (iI (M 1)), .ref a1]) (show ((M 0) : Int) = M 0 from (by omega))) rfl
              have wd := z_fld wd (ws2 := [zO w0 5 [.ref d0, .ref d0k, .int (iI iK), .ref w1, .int (iI n), .ref t0, .ref w2], zO d0 3 [.int (iI (M 5)), .ref a0, .ref s0, .ref r0], zO a0 0 [.int (iI (M 0)), .int (iI (M 1)), .ref a1], zA cy a1 3 (sl M 2)]) 2 rfl (congrArg (fun z0 => zO a0 0 [.int (iI (M 0)), .int (iI z0), .ref a1]) (show ((M 1) : Int) = M 1 from (by omega))) rfl
              have wd := z_cell wd (ws2 := [zO w0 5 [.ref d0, .ref d0k, .int (iI iK), .ref w1, .int (iI n), .ref t0, .ref w2], zO d0 3 [.int (iI (M 5)), .ref a0, .ref s0, .ref r0], zO a0 0 [.int (iI (M 0)), .int (iI (M 1)), .ref a1], zA cy a1 3 (sl M 2)]) 3 rfl (by intro k hk0 hk1; first | rfl | omega) rfl
              exact z_iret C hr hlk wd (by unfold rdStep; (repeat (first | rw [if_pos (by omega)] | rw [if_neg (by omega)])); first | done | rfl) dX5_step_68
            · skip
              refine lv_aload_n C.1 C.2.1 dX5_step_41 rfl (lv_at hl 0 rfl) ?_
              refine z_get C wd (Cn := RX5) (TT := TX5) (N := 7) (ci := 5) iX5 0 rfl rfl 0 (by decide) L12 (fun _ h => h) rfl dX5_step_42 ?_
              refine z_get C wd (Cn := RX3) (TT := TX3) (N := 4) (ci := 3) iX3 1 rfl rfl 1 (by decide) L45 (fun _ h => h) rfl dX5_step_45 ?_
              refine lv_iload_n C.1 C.2.1 dX5_step_48 rfl (lv_at hl 1 rfl) ?_
              refine lv_iload_n C.1 C.2.1 dX5_step_49 rfl (lv_at hl 2 rfl) ?_
              refine z_cvi C wd hA (As := [.int (iI st), .int (iI b)]) (rest := []) (ws2 := [zO w0 5 [.ref d0, .ref d0k, .int (iI iK), .ref w1, .int (iI n), .ref t0, .ref w2], zO d0 3 [.int (iI (M 5)), .ref a0, .ref s0, .ref r0], zO a0 0 [.int (iI (M 0)), .int (iI (M 1)), .ref a1], zA cy a1 3 (sl M 2)]) (c_X0_stateAfter l D cy cs a0 a1 (M 0) (M 1) st b (by omega) (by omega) (by omega)) (cwV 2 C.2.2.2.2 gX5_step_X0_stateAfter rfl rfl rfl (by decide +kernel) ⟨Nat.le_of_ble_eq_true rfl, Nat.le_of_ble_eq_true rfl⟩) [2] rfl rfl rfl ⟨rfl, [0, 1, 3], [zO w0 5 [.ref d0, .ref d0k, .int (iI iK), .ref w1, .int (iI n), .ref t0, .ref w2], zO d0 3 [.int (iI (M 5)), .ref a0, .ref s0, .ref r0], zA cy a1 3 (sl M 2)], 4, rfl, rfl, rfl, by decide +kernel⟩ rfl rfl rfl rfl (Nat.le_of_ble_eq_true rfl) hl.1 dX5_step_50 ⟨Nat.zero_le _, Nat.zero_le _⟩ (fun H locs wd => ?_)
              refine z_goto C (tgt := 68) dX5_step_53 (by decide) ?_
              have wd := z_fld wd (ws2 := [zO w0 5 [.ref d0, .ref d0k, .int (iI iK), .ref w1, .int (iI n), .ref t0, .ref w2], zO d0 3 [.int (iI (M 5)), .ref a0, .ref s0, .ref r0], zO a0 0 [.int (iI (M 0)), .int (iI (M 1)), .ref a1], zA cy a1 3 (sl M 2)]) 2 rfl (congrArg (fun z0 => zO a0 0 [.int (iI z0), .int (iI (M 1)), .ref a1]) (show ((M 0) : Int) = M 0 from (by omega))) rfl
              have wd := z_fld wd (ws2 := [zO w0 5 [.ref d0, .ref d0k, .int (iI iK), .ref w1, .int (iI n), .ref t0, .ref w2], zO d0 3 [.int (iI (M 5)), .ref a0, .ref s0, .ref r0], zO a0 0 [.int (iI (M 0)), .int (iI (M 1)), .ref a1], zA cy a1 3 (sl M 2)]) 2 rfl (congrArg (fun z0 => zO a0 0 [.int (iI (M 0)), .int (iI z0), .ref a1]) (show ((M 1) : Int) = M 1 from (by omega))) rfl
              exact z_iret C hr hlk wd (by unfold rdStep; (repeat (first | rw [if_pos (by omega)] | rw [if_neg (by omega)])); first | done | rfl) dX5_step_68
          · skip
            refine z_bipush C dX5_step_34 (by decide +kernel) ?_
            have wd := z_fld wd (ws2 := [zO w0 5 [.ref d0, .ref d0k, .int (iI iK), .ref w1, .int (iI n), .ref t0, .ref w2], zO d0 3 [.int (iI (M 5)), .ref a0, .ref s0, .ref r0], zO a0 0 [.int (iI (M 0)), .int (iI (M 1)), .ref a1], zA cy a1 3 (sl M 2)]) 2 rfl (congrArg (fun z0 => zO a0 0 [.int (iI z0), .int (iI (M 1)), .ref a1]) (show ((M 0) : Int) = M 0 from (by omega))) rfl
            have wd := z_fld wd (ws2 := [zO w0 5 [.ref d0, .ref d0k, .int (iI iK), .ref w1, .int (iI n), .ref t0, .ref w2], zO d0 3 [.int (iI (M 5)), .ref a0, .ref s0, .ref r0], zO a0 0 [.int (iI (M 0)), .int (iI (M 1)), .ref a1], zA cy a1 3 (sl M 2)]) 2 rfl (congrArg (fun z0 => zO a0 0 [.int (iI (M 0)), .int (iI z0), .ref a1]) (show ((M 1) : Int) = M 1 from (by omega))) rfl
            exact z_iret C hr hlk wd (by unfold rdStep; (repeat (first | rw [if_pos (by omega)] | rw [if_neg (by omega)])); first | done | rfl) dX5_step_36
  · skip
    refine z_iconst C dX5_step_14 ?_
    have wd := z_fld wd (ws2 := [zO w0 5 [.ref d0, .ref d0k, .int (iI iK), .ref w1, .int (iI n), .ref t0, .ref w2], zO d0 3 [.int (iI (M 5)), .ref a0, .ref s0, .ref r0], zO a0 0 [.int (iI (M 0)), .int (iI (M 1)), .ref a1], zA cy a1 3 (sl M 2)]) 2 rfl (congrArg (fun z0 => zO a0 0 [.int (iI z0), .int (iI (M 1)), .ref a1]) (show ((M 0) : Int) = M 0 from (by omega))) rfl
    have wd := z_fld wd (ws2 := [zO w0 5 [.ref d0, .ref d0k, .int (iI iK), .ref w1, .int (iI n), .ref t0, .ref w2], zO d0 3 [.int (iI (M 5)), .ref a0, .ref s0, .ref r0], zO a0 0 [.int (iI (M 0)), .int (iI (M 1)), .ref a1], zA cy a1 3 (sl M 2)]) 2 rfl (congrArg (fun z0 => zO a0 0 [.int (iI (M 0)), .int (iI z0), .ref a1]) (show ((M 1) : Int) = M 1 from (by omega))) rfl
    exact z_iret C hr hlk wd (by unfold rdStep; (repeat (first | rw [if_pos (by omega)] | rw [if_neg (by omega)])); first | done | rfl) dX5_step_15
set_option maxRecDepth 100000 in
set_option maxHeartbeats 4000000 in
theorem c_X5_line (l : Launch) (D : va_G) (cy cs : ClassId) (w0 w1 w2 t0 d0 d0k a0 a1 s0 s1 s2 s3 r0 r1 r2 r3 r4 : Nat) (iK n L : Int) (M : Int → Int) (k x : Int) (hln : 0 ≤ M 7 * M 1 ∧ M 7 * M 1 ≤ 240) (hlt : 0 ≤ L * M 1 ∧ L * M 1 ≤ 240) (h8 : M 8 = L * M 1) (hk : -2147483648 ≤ k ∧ k < 2147483648) (hx : -2147483648 ≤ x ∧ x < 2147483648) : zCi l D (zT cy cs) yX5_line wsX5_line ({ frames := 2, cells := 0, slots := 0, locals := 41 } : Room) [.ref w0, .int (iI k), .int (iI x)] [zO w0 5 [.ref d0, .ref d0k, .int (iI iK), .ref w1, .int (iI n), .ref t0, .ref w2], zO d0 3 [.int (iI (M 5)), .ref a0, .ref s0, .ref r0], zO a0 0 [.int (iI (M 0)), .int (iI (M 1)), .ref a1], zO s0 2 [.int (iI (M 6)), .int (iI (M 7)), .ref s1, .ref s2, .ref s3], zA cy s2 240 (sl M 92), zA cy s3 240 (sl M 332), zO r0 1 [.int (iI (M 9)), .int (iI L), .int (iI (M 10)), .int (iI (M 11)), .ref r1, .ref r2, .ref r3, .ref r4]] (rdLine M k x) [zO w0 5 [.ref d0, .ref d0k, .int (iI iK), .ref w1, .int (iI n), .ref t0, .ref w2], zO d0 3 [.int (iI (M 5)), .ref a0, .ref s0, .ref r0], zO a0 0 [.int (iI (M 0)), .int (iI (M 1)), .ref a1], zO s0 2 [.int (iI (M 6)), .int (iI (M 7)), .ref s1, .ref s2, .ref s3], zA cy s2 240 (sl M 92), zA cy s3 240 (sl M 332), zO r0 1 [.int (iI (M 9)), .int (iI L), .int (iI (M 10)), .int (iI (M 11)), .ref r1, .ref r2, .ref r3, .ref r4]] := by
  intro sz
  refine zM_mk (cc := cX5_line) (maxL := 3) (ret := (some .int)) (own := RX5) (Qc := fun sz => va_Qi (fun r (_ : Unit) => r = iI (rdLine M k x)) (fun _ t => zQ D (zT cy cs) (va_A [zO w0 5 [.ref d0, .ref d0k, .int (iI iK), .ref w1, .int (iI n), .ref t0, .ref w2], zO d0 3 [.int (iI (M 5)), .ref a0, .ref s0, .ref r0], zO a0 0 [.int (iI (M 0)), .int (iI (M 1)), .ref a1], zO s0 2 [.int (iI (M 6)), .int (iI (M 7)), .ref s1, .ref s2, .ref s3], zA cy s2 240 (sl M 92), zA cy s3 240 (sl M 332), zO r0 1 [.int (iI (M 9)), .int (iI L), .int (iI (M 10)), .int (iI (M 11)), .ref r1, .ref r2, .ref r3, .ref r4]] sz) [zO w0 5 [.ref d0, .ref d0k, .int (iI iK), .ref w1, .int (iI n), .ref t0, .ref w2], zO d0 3 [.int (iI (M 5)), .ref a0, .ref s0, .ref r0], zO a0 0 [.int (iI (M 0)), .int (iI (M 1)), .ref a1], zO s0 2 [.int (iI (M 6)), .int (iI (M 7)), .ref s1, .ref s2, .ref s3], zA cy s2 240 (sl M 92), zA cy s3 240 (sl M 332), zO r0 1 [.int (iI (M 9)), .int (iI L), .int (iI (M 10)), .int (iI (M 11)), .ref r1, .ref r2, .ref r3, .ref r4]] t) (va_A [zO w0 5 [.ref d0, .ref d0k, .int (iI iK), .ref w1, .int (iI n), .ref t0, .ref w2], zO d0 3 [.int (iI (M 5)), .ref a0, .ref s0, .ref r0], zO a0 0 [.int (iI (M 0)), .int (iI (M 1)), .ref a1], zO s0 2 [.int (iI (M 6)), .int (iI (M 7)), .ref s1, .ref s2, .ref s3], zA cy s2 240 (sl M 92), zA cy s3 240 (sl M 332), zO r0 1 [.int (iI (M 9)), .int (iI L), .int (iI (M 10)), .int (iI (M 11)), .ref r1, .ref r2, .ref r3, .ref r4]] sz)) (by decide) rfl rfl (Nat.le_of_ble_eq_true rfl) rfl sz ?_
  intro p e s m args below meth c ls C hr hlk hnm hl hsz hA wd
  subst hsz
  have hl : lv_has ls 3 [(0, .ref w0), (1, .int (iI k)), (2, .int (iI x))] := hl
  have iX2 : ∀ w ∈ u_ws RX2 TX2 5, w ∈ wsX5_line := by decide +kernel
  have iX3 : ∀ w ∈ u_ws RX3 TX3 4, w ∈ wsX5_line := by decide +kernel
  have iX5 : ∀ w ∈ u_ws RX5 TX5 7, w ∈ wsX5_line := by decide +kernel
  have L12 := C.2.2.2.2 (.fieldLink RX5 12 "LikelyWalks" "now" "LLikelyWalks$State;") (by decide +kernel)
  have L55 := C.2.2.2.2 (.fieldLink RX5 55 "LikelyWalks$State" "sender" "LLikelyWalks$Sender;") (by decide +kernel)
  have L104 := C.2.2.2.2 (.fieldLink RX5 104 "LikelyWalks$Sender" "symbols" "[I") (by decide +kernel)
  have L152 := C.2.2.2.2 (.fieldLink RX5 152 "LikelyWalks$Sender" "originals" "[I") (by decide +kernel)
  refine lv_aload_n C.1 C.2.1 dX5_line_0 rfl (lv_at hl 0 rfl) ?_
  refine lv_iload_n C.1 C.2.1 dX5_line_1 rfl (lv_at hl 1 rfl) ?_
  refine z_cvi C wd hA (As := [.int (iI k)]) (rest := []) (ws2 := [zO w0 5 [.ref d0, .ref d0k, .int (iI iK), .ref w1, .int (iI n), .ref t0, .ref w2], zO d0 3 [.int (iI (M 5)), .ref a0, .ref s0, .ref r0], zO a0 0 [.int (iI (M 0)), .int (iI (M 1)), .ref a1], zO s0 2 [.int (iI (M 6)), .int (iI (M 7)), .ref s1, .ref s2, .ref s3], zA cy s2 240 (sl M 92), zA cy s3 240 (sl M 332), zO r0 1 [.int (iI (M 9)), .int (iI L), .int (iI (M 10)), .int (iI (M 11)), .ref r1, .ref r2, .ref r3, .ref r4]]) (c_X5_isOnLine l D cy cs w0 w1 w2 t0 d0 d0k a0 a1 s0 s1 s2 s3 r0 0 0 0 0 iK n 0 M k (by omega) (by omega)) (cwV 1 C.2.2.2.2 gX5_line_X5_isOnLine rfl rfl rfl (by decide +kernel) ⟨Nat.le_of_ble_eq_true rfl, Nat.le_of_ble_eq_true rfl⟩) [0, 1, 2, 3] rfl rfl rfl ⟨rfl, [4, 5, 6], [zA cy s2 240 (sl M 92), zA cy s3 240 (sl M 332), zO r0 1 [.int (iI (M 9)), .int (iI L), .int (iI (M 10)), .int (iI (M 11)), .ref r1, .ref r2, .ref r3, .ref r4]], 7, rfl, rfl, rfl, by decide +kernel⟩ rfl rfl rfl rfl (Nat.le_of_ble_eq_true rfl) hl.1 dX5_line_2 ⟨Nat.zero_le _, Nat.zero_le _⟩ (fun H locs wd => ?_)
  refine z_ifb_ne C (tgt := 10) dX5_line_5 (by decide) (fun c_1 => ?_) (fun c_1 => ?_)
  · skip
    refine lv_iload_n C.1 C.2.1 dX5_line_10 rfl (lv_at hl 2 rfl) ?_
    rcases Int.lt_or_le x 0 with c_2 | c_2
    · skip
      refine lv_tableOut (tgt := 76) C.1 C.2.1 dX5_line_11 (Or.inl (by rw [iI_toInt (by omega) (by omega)]; exact c_2)) (by decide) ?_
      refine z_bipush C dX5_line_76 (by decide +kernel) ?_
      exact z_iret C hr hlk wd (by unfold rdLine; (repeat (first | rw [if_pos (by omega)] | rw [if_neg (by omega)])); first | done | rfl) dX5_line_78
    rcases Int.lt_or_le 2 x with c_2 | c_2b
    · skip
      refine lv_tableOut (tgt := 76) C.1 C.2.1 dX5_line_11 (Or.inr (by rw [iI_toInt (by omega) (by omega)]; exact c_2)) (by decide) ?_
      refine z_bipush C dX5_line_76 (by decide +kernel) ?_
      exact z_iret C hr hlk wd (by unfold rdLine; (repeat (first | rw [if_pos (by omega)] | rw [if_neg (by omega)])); first | done | rfl) dX5_line_78
    rcases (show x = 0 ∨ x = 1 ∨ x = 2 by omega) with c_2c | c_2c | c_2c
    · skip
      refine lv_tableIn (tgt := 36) (off := 25) C.1 C.2.1 dX5_line_11 (by rw [iI_toInt (by omega) (by omega)]; omega) (by rw [iI_toInt (by omega) (by omega)]; omega) (by rw [iI_toInt (by omega) (by omega), c_2c]; rfl) (by decide) ?_
      refine lv_aload_n C.1 C.2.1 dX5_line_36 rfl (lv_at hl 0 rfl) ?_
      refine z_get C wd (Cn := RX5) (TT := TX5) (N := 7) (ci := 5) iX5 0 rfl rfl 0 (by decide) L12 (fun _ h => h) rfl dX5_line_37 ?_
      refine z_get C wd (Cn := RX3) (TT := TX3) (N := 4) (ci := 3) iX3 1 rfl rfl 2 (by decide) L55 (fun _ h => h) rfl dX5_line_40 ?_
      refine z_get C wd (Cn := RX2) (TT := TX2) (N := 5) (ci := 2) iX2 3 rfl rfl 3 (by decide) L104 (fun _ h => h) rfl dX5_line_43 ?_
      refine lv_iload_n C.1 C.2.1 dX5_line_46 rfl (lv_at hl 1 rfl) ?_
      refine z_iald C wd 4 rfl (by omega) (by decide) dX5_line_47 ?_
      exact z_iret C hr hlk wd (by unfold rdLine; (repeat (first | rw [if_pos (by omega)] | rw [if_neg (by omega)])); first | done | rfl) dX5_line_48
    · skip
      refine lv_tableIn (tgt := 49) (off := 38) C.1 C.2.1 dX5_line_11 (by rw [iI_toInt (by omega) (by omega)]; omega) (by rw [iI_toInt (by omega) (by omega)]; omega) (by rw [iI_toInt (by omega) (by omega), c_2c]; rfl) (by decide) ?_
      refine lv_aload_n C.1 C.2.1 dX5_line_49 rfl (lv_at hl 0 rfl) ?_
      refine z_get C wd (Cn := RX5) (TT := TX5) (N := 7) (ci := 5) iX5 0 rfl rfl 0 (by decide) L12 (fun _ h => h) rfl dX5_line_50 ?_
      refine z_get C wd (Cn := RX3) (TT := TX3) (N := 4) (ci := 3) iX3 1 rfl rfl 2 (by decide) L55 (fun _ h => h) rfl dX5_line_53 ?_
      refine z_get C wd (Cn := RX2) (TT := TX2) (N := 5) (ci := 2) iX2 3 rfl rfl 4 (by decide) L152 (fun _ h => h) rfl dX5_line_56 ?_
      refine lv_iload_n C.1 C.2.1 dX5_line_59 rfl (lv_at hl 1 rfl) ?_
      refine z_iald C wd 5 rfl (by omega) (by decide) dX5_line_60 ?_
      exact z_iret C hr hlk wd (by unfold rdLine; (repeat (first | rw [if_pos (by omega)] | rw [if_neg (by omega)])); first | done | rfl) dX5_line_61
    · skip
      refine lv_tableIn (tgt := 62) (off := 51) C.1 C.2.1 dX5_line_11 (by rw [iI_toInt (by omega) (by omega)]; omega) (by rw [iI_toInt (by omega) (by omega)]; omega) (by rw [iI_toInt (by omega) (by omega), c_2c]; rfl) (by decide) ?_
      refine lv_aload_n C.1 C.2.1 dX5_line_62 rfl (lv_at hl 0 rfl) ?_
      refine lv_iload_n C.1 C.2.1 dX5_line_63 rfl (lv_at hl 1 rfl) ?_
      refine z_cvi C wd hA (As := [.int (iI k)]) (rest := []) (ws2 := [zO w0 5 [.ref d0, .ref d0k, .int (iI iK), .ref w1, .int (iI n), .ref t0, .ref w2], zO d0 3 [.int (iI (M 5)), .ref a0, .ref s0, .ref r0], zO a0 0 [.int (iI (M 0)), .int (iI (M 1)), .ref a1], zO s0 2 [.int (iI (M 6)), .int (iI (M 7)), .ref s1, .ref s2, .ref s3], zA cy s2 240 (sl M 92), zA cy s3 240 (sl M 332), zO r0 1 [.int (iI (M 9)), .int (iI L), .int (iI (M 10)), .int (iI (M 11)), .ref r1, .ref r2, .ref r3, .ref r4]]) (c_X5_isTaken l D cy cs w0 w1 w2 t0 d0 d0k a0 a1 s0 0 0 0 r0 r1 r2 r3 r4 iK n L M k (by omega) (by omega)) (cwV 1 C.2.2.2.2 gX5_line_X5_isTaken rfl rfl rfl (by decide +kernel) ⟨Nat.le_of_ble_eq_true rfl, Nat.le_of_ble_eq_true rfl⟩) [0, 1, 2, 6] rfl rfl rfl ⟨rfl, [3, 4, 5], [zO s0 2 [.int (iI (M 6)), .int (iI (M 7)), .ref s1, .ref s2, .ref s3], zA cy s2 240 (sl M 92), zA cy s3 240 (sl M 332)], 7, rfl, rfl, rfl, by decide +kernel⟩ rfl rfl rfl rfl (Nat.le_of_ble_eq_true rfl) hl.1 dX5_line_64 ⟨Nat.zero_le _, Nat.zero_le _⟩ (fun H locs wd => ?_)
      refine z_ifb_eq C (tgt := 74) dX5_line_67 (by decide) (fun c_3 => ?_) (fun c_3 => ?_)
      · skip
        refine z_iconst C dX5_line_74 ?_
        exact z_iret C hr hlk wd (by unfold rdLine; (repeat (first | rw [if_pos (by omega)] | rw [if_neg (by omega)])); first | done | rfl) dX5_line_75
      · skip
        refine z_iconst C dX5_line_70 ?_
        refine z_goto C (tgt := 75) dX5_line_71 (by decide) ?_
        exact z_iret C hr hlk wd (by unfold rdLine; (repeat (first | rw [if_pos (by omega)] | rw [if_neg (by omega)])); first | done | rfl) dX5_line_75
  · skip
    refine z_iconst C dX5_line_8 ?_
    exact z_iret C hr hlk wd (by unfold rdLine; (repeat (first | rw [if_pos (by omega)] | rw [if_neg (by omega)])); first | done | rfl) dX5_line_9
set_option maxRecDepth 100000 in
set_option maxHeartbeats 4000000 in
theorem c_X5_sent (l : Launch) (D : va_G) (cy cs : ClassId) (w0 w1 w2 t0 d0 d0k a0 a1 s0 s1 s2 s3 r0 r1 r2 r3 r4 : Nat) (iK n L : Int) (M : Int → Int) (k : Int) (h7 : 0 ≤ M 7 ∧ M 7 ≤ 80) (hk : -2147483648 ≤ k ∧ k < 2147483648) : zCi l D (zT cy cs) yX5_sent wsX5_sent ({ frames := 0, cells := 0, slots := 0, locals := 0 } : Room) [.ref w0, .int (iI k)] [zO w0 5 [.ref d0, .ref d0k, .int (iI iK), .ref w1, .int (iI n), .ref t0, .ref w2], zO d0 3 [.int (iI (M 5)), .ref a0, .ref s0, .ref r0], zO s0 2 [.int (iI (M 6)), .int (iI (M 7)), .ref s1, .ref s2, .ref s3], zA cy s1 80 (sl M 12)] (rdSent M k) [zO w0 5 [.ref d0, .ref d0k, .int (iI iK), .ref w1, .int (iI n), .ref t0, .ref w2], zO d0 3 [.int (iI (M 5)), .ref a0, .ref s0, .ref r0], zO s0 2 [.int (iI (M 6)), .int (iI (M 7)), .ref s1, .ref s2, .ref s3], zA cy s1 80 (sl M 12)] := by
  intro sz
  refine zM_mk (cc := cX5_sent) (maxL := 2) (ret := (some .int)) (own := RX5) (Qc := fun sz => va_Qi (fun r (_ : Unit) => r = iI (rdSent M k)) (fun _ t => zQ D (zT cy cs) (va_A [zO w0 5 [.ref d0, .ref d0k, .int (iI iK), .ref w1, .int (iI n), .ref t0, .ref w2], zO d0 3 [.int (iI (M 5)), .ref a0, .ref s0, .ref r0], zO s0 2 [.int (iI (M 6)), .int (iI (M 7)), .ref s1, .ref s2, .ref s3], zA cy s1 80 (sl M 12)] sz) [zO w0 5 [.ref d0, .ref d0k, .int (iI iK), .ref w1, .int (iI n), .ref t0, .ref w2], zO d0 3 [.int (iI (M 5)), .ref a0, .ref s0, .ref r0], zO s0 2 [.int (iI (M 6)), .int (iI (M 7)), .ref s1, .ref s2, .ref s3], zA cy s1 80 (sl M 12)] t) (va_A [zO w0 5 [.ref d0, .ref d0k, .int (iI iK), .ref w1, .int (iI n), .ref t0, .ref w2], zO d0 3 [.int (iI (M 5)), .ref a0, .ref s0, .ref r0], zO s0 2 [.int (iI (M 6)), .int (iI (M 7)), .ref s1, .ref s2, .ref s3], zA cy s1 80 (sl M 12)] sz)) (by decide) rfl rfl (Nat.le_of_ble_eq_true rfl) rfl sz ?_
  intro p e s m args below meth c ls C hr hlk hnm hl hsz hA wd
  subst hsz
  have hl : lv_has ls 2 [(0, .ref w0), (1, .int (iI k))] := hl
  have iX2 : ∀ w ∈ u_ws RX2 TX2 5, w ∈ wsX5_sent := by decide +kernel
  have iX3 : ∀ w ∈ u_ws RX3 TX3 4, w ∈ wsX5_sent := by decide +kernel
  have iX5 : ∀ w ∈ u_ws RX5 TX5 7, w ∈ wsX5_sent := by decide +kernel
  have L12 := C.2.2.2.2 (.fieldLink RX5 12 "LikelyWalks" "now" "LLikelyWalks$State;") (by decide +kernel)
  have L55 := C.2.2.2.2 (.fieldLink RX5 55 "LikelyWalks$State" "sender" "LLikelyWalks$Sender;") (by decide +kernel)
  have L84 := C.2.2.2.2 (.fieldLink RX5 84 "LikelyWalks$Sender" "bitCount" "I") (by decide +kernel)
  have L155 := C.2.2.2.2 (.fieldLink RX5 155 "LikelyWalks$Sender" "bits" "[I") (by decide +kernel)
  refine lv_iload_n C.1 C.2.1 dX5_sent_0 rfl (lv_at hl 1 rfl) ?_
  refine z_if_lt C (tgt := 18) dX5_sent_1 (by decide) (by omega) (fun c_1 => ?_) (fun c_1 => ?_)
  · skip
    refine z_iconst C dX5_sent_18 ?_
    exact z_iret C hr hlk wd (by unfold rdSent; (repeat (first | rw [if_pos (by omega)] | rw [if_neg (by omega)])); first | done | rfl) dX5_sent_19
  · skip
    refine lv_iload_n C.1 C.2.1 dX5_sent_4 rfl (lv_at hl 1 rfl) ?_
    refine lv_aload_n C.1 C.2.1 dX5_sent_5 rfl (lv_at hl 0 rfl) ?_
    refine z_get C wd (Cn := RX5) (TT := TX5) (N := 7) (ci := 5) iX5 0 rfl rfl 0 (by decide) L12 (fun _ h => h) rfl dX5_sent_6 ?_
    refine z_get C wd (Cn := RX3) (TT := TX3) (N := 4) (ci := 3) iX3 1 rfl rfl 2 (by decide) L55 (fun _ h => h) rfl dX5_sent_9 ?_
    refine z_get C wd (Cn := RX2) (TT := TX2) (N := 5) (ci := 2) iX2 2 rfl rfl 1 (by decide) L84 (fun _ h => h) rfl dX5_sent_12 ?_
    refine z_icmp_lt C (tgt := 20) dX5_sent_15 (by decide) (by omega) (fun c_2 => ?_) (fun c_2 => ?_)
    · skip
      refine lv_aload_n C.1 C.2.1 dX5_sent_20 rfl (lv_at hl 0 rfl) ?_
      refine z_get C wd (Cn := RX5) (TT := TX5) (N := 7) (ci := 5) iX5 0 rfl rfl 0 (by decide) L12 (fun _ h => h) rfl dX5_sent_21 ?_
      refine z_get C wd (Cn := RX3) (TT := TX3) (N := 4) (ci := 3) iX3 1 rfl rfl 2 (by decide) L55 (fun _ h => h) rfl dX5_sent_24 ?_
      refine z_get C wd (Cn := RX2) (TT := TX2) (N := 5) (ci := 2) iX2 2 rfl rfl 2 (by decide) L155 (fun _ h => h) rfl dX5_sent_27 ?_
      refine lv_iload_n C.1 C.2.1 dX5_sent_30 rfl (lv_at hl 1 rfl) ?_
      refine z_iald C wd 3 rfl (by omega) (by decide) dX5_sent_31 ?_
      exact z_iret C hr hlk wd (by unfold rdSent; (repeat (first | rw [if_pos (by omega)] | rw [if_neg (by omega)])); first | done | rfl) dX5_sent_32
    · skip
      refine z_iconst C dX5_sent_18 ?_
      exact z_iret C hr hlk wd (by unfold rdSent; (repeat (first | rw [if_pos (by omega)] | rw [if_neg (by omega)])); first | done | rfl) dX5_sent_19
set_option maxRecDepth 100000 in
set_option maxHeartbeats 4000000 in
theorem c_X5_released (l : Launch) (D : va_G) (cy cs : ClassId) (w0 w1 w2 t0 d0 d0k a0 a1 s0 s1 s2 s3 r0 r1 r2 r3 r4 : Nat) (iK n L : Int) (M : Int → Int) (k : Int) (h10 : 0 ≤ M 10 ∧ M 10 ≤ 80) (hk : -2147483648 ≤ k ∧ k < 2147483648) : zCi l D (zT cy cs) yX5_released wsX5_released ({ frames := 0, cells := 0, slots := 0, locals := 0 } : Room) [.ref w0, .int (iI k)] [zO w0 5 [.ref d0, .ref d0k, .int (iI iK), .ref w1, .int (iI n), .ref t0, .ref w2], zO d0 3 [.int (iI (M 5)), .ref a0, .ref s0, .ref r0], zO r0 1 [.int (iI (M 9)), .int (iI L), .int (iI (M 10)), .int (iI (M 11)), .ref r1, .ref r2, .ref r3, .ref r4], zA cy r1 80 (sl M 604)] (rdRel M k) [zO w0 5 [.ref d0, .ref d0k, .int (iI iK), .ref w1, .int (iI n), .ref t0, .ref w2], zO d0 3 [.int (iI (M 5)), .ref a0, .ref s0, .ref r0], zO r0 1 [.int (iI (M 9)), .int (iI L), .int (iI (M 10)), .int (iI (M 11)), .ref r1, .ref r2, .ref r3, .ref r4], zA cy r1 80 (sl M 604)] := by
  intro sz
  refine zM_mk (cc := cX5_released) (maxL := 2) (ret := (some .int)) (own := RX5) (Qc := fun sz => va_Qi (fun r (_ : Unit) => r = iI (rdRel M k)) (fun _ t => zQ D (zT cy cs) (va_A [zO w0 5 [.ref d0, .ref d0k, .int (iI iK), .ref w1, .int (iI n), .ref t0, .ref w2], zO d0 3 [.int (iI (M 5)), .ref a0, .ref s0, .ref r0], zO r0 1 [.int (iI (M 9)), .int (iI L), .int (iI (M 10)), .int (iI (M 11)), .ref r1, .ref r2, .ref r3, .ref r4], zA cy r1 80 (sl M 604)] sz) [zO w0 5 [.ref d0, .ref d0k, .int (iI iK), .ref w1, .int (iI n), .ref t0, .ref w2], zO d0 3 [.int (iI (M 5)), .ref a0, .ref s0, .ref r0], zO r0 1 [.int (iI (M 9)), .int (iI L), .int (iI (M 10)), .int (iI (M 11)), .ref r1, .ref r2, .ref r3, .ref r4], zA cy r1 80 (sl M 604)] t) (va_A [zO w0 5 [.ref d0, .ref d0k, .int (iI iK), .ref w1, .int (iI n), .ref t0, .ref w2], zO d0 3 [.int (iI (M 5)), .ref a0, .ref s0, .ref r0], zO r0 1 [.int (iI (M 9)), .int (iI L), .int (iI (M 10)), .int (iI (M 11)), .ref r1, .ref r2, .ref r3, .ref r4], zA cy r1 80 (sl M 604)] sz)) (by decide) rfl rfl (Nat.le_of_ble_eq_true rfl) rfl sz ?_
  intro p e s m args below meth c ls C hr hlk hnm hl hsz hA wd
  subst hsz
  have hl : lv_has ls 2 [(0, .ref w0), (1, .int (iI k))] := hl
  have iX1 : ∀ w ∈ u_ws RX1 TX1 8, w ∈ wsX5_released := by decide +kernel
  have iX3 : ∀ w ∈ u_ws RX3 TX3 4, w ∈ wsX5_released := by decide +kernel
  have iX5 : ∀ w ∈ u_ws RX5 TX5 7, w ∈ wsX5_released := by decide +kernel
  have L12 := C.2.2.2.2 (.fieldLink RX5 12 "LikelyWalks" "now" "LLikelyWalks$State;") (by decide +kernel)
  have L64 := C.2.2.2.2 (.fieldLink RX5 64 "LikelyWalks$State" "reader" "LLikelyWalks$Reader;") (by decide +kernel)
  have L120 := C.2.2.2.2 (.fieldLink RX5 120 "LikelyWalks$Reader" "releasedCount" "I") (by decide +kernel)
  have L158 := C.2.2.2.2 (.fieldLink RX5 158 "LikelyWalks$Reader" "releasedBits" "[I") (by decide +kernel)
  refine lv_iload_n C.1 C.2.1 dX5_released_0 rfl (lv_at hl 1 rfl) ?_
  refine z_if_lt C (tgt := 18) dX5_released_1 (by decide) (by omega) (fun c_1 => ?_) (fun c_1 => ?_)
  · skip
    refine z_iconst C dX5_released_18 ?_
    exact z_iret C hr hlk wd (by unfold rdRel; (repeat (first | rw [if_pos (by omega)] | rw [if_neg (by omega)])); first | done | rfl) dX5_released_19
  · skip
    refine lv_iload_n C.1 C.2.1 dX5_released_4 rfl (lv_at hl 1 rfl) ?_
    refine lv_aload_n C.1 C.2.1 dX5_released_5 rfl (lv_at hl 0 rfl) ?_
    refine z_get C wd (Cn := RX5) (TT := TX5) (N := 7) (ci := 5) iX5 0 rfl rfl 0 (by decide) L12 (fun _ h => h) rfl dX5_released_6 ?_
    refine z_get C wd (Cn := RX3) (TT := TX3) (N := 4) (ci := 3) iX3 1 rfl rfl 3 (by decide) L64 (fun _ h => h) rfl dX5_released_9 ?_
    refine z_get C wd (Cn := RX1) (TT := TX1) (N := 8) (ci := 1) iX1 2 rfl rfl 2 (by decide) L120 (fun _ h => h) rfl dX5_released_12 ?_
    refine z_icmp_lt C (tgt := 20) dX5_released_15 (by decide) (by omega) (fun c_2 => ?_) (fun c_2 => ?_)
    · skip
      refine lv_aload_n C.1 C.2.1 dX5_released_20 rfl (lv_at hl 0 rfl) ?_
      refine z_get C wd (Cn := RX5) (TT := TX5) (N := 7) (ci := 5) iX5 0 rfl rfl 0 (by decide) L12 (fun _ h => h) rfl dX5_released_21 ?_
      refine z_get C wd (Cn := RX3) (TT := TX3) (N := 4) (ci := 3) iX3 1 rfl rfl 3 (by decide) L64 (fun _ h => h) rfl dX5_released_24 ?_
      refine z_get C wd (Cn := RX1) (TT := TX1) (N := 8) (ci := 1) iX1 2 rfl rfl 4 (by decide) L158 (fun _ h => h) rfl dX5_released_27 ?_
      refine lv_iload_n C.1 C.2.1 dX5_released_30 rfl (lv_at hl 1 rfl) ?_
      refine z_iald C wd 3 rfl (by omega) (by decide) dX5_released_31 ?_
      exact z_iret C hr hlk wd (by unfold rdRel; (repeat (first | rw [if_pos (by omega)] | rw [if_neg (by omega)])); first | done | rfl) dX5_released_32
    · skip
      refine z_iconst C dX5_released_18 ?_
      exact z_iret C hr hlk wd (by unfold rdRel; (repeat (first | rw [if_pos (by omega)] | rw [if_neg (by omega)])); first | done | rfl) dX5_released_19
set_option maxRecDepth 100000 in
set_option maxHeartbeats 4000000 in
theorem c_X5_metric (l : Launch) (D : va_G) (cy cs : ClassId) (w0 w1 w2 t0 d0 d0k a0 a1 s0 s1 s2 s3 r0 r1 r2 r3 r4 : Nat) (iK n L : Int) (M : Int → Int) (st : Int) (hm : 1 ≤ M 0 ∧ M 0 ≤ 5) (hS : 0 ≤ M 9 ∧ M 9 ≤ 80) (hme : mtOk (sl M 572) (M 9)) (hst : -2147483648 ≤ st ∧ st < 2147483648) : zCi l D (zT cy cs) yX5_metric wsX5_metric ({ frames := 2, cells := 0, slots := 0, locals := 41 } : Room) [.ref w0, .int (iI st)] [zO w0 5 [.ref d0, .ref d0k, .int (iI iK), .ref w1, .int (iI n), .ref t0, .ref w2], zO d0 3 [.int (iI (M 5)), .ref a0, .ref s0, .ref r0], zO a0 0 [.int (iI (M 0)), .int (iI (M 1)), .ref a1], zO r0 1 [.int (iI (M 9)), .int (iI L), .int (iI (M 10)), .int (iI (M 11)), .ref r1, .ref r2, .ref r3, .ref r4], zA cy r2 32 (sl M 572)] (rdMet M st) [zO w0 5 [.ref d0, .ref d0k, .int (iI iK), .ref w1, .int (iI n), .ref t0, .ref w2], zO d0 3 [.int (iI (M 5)), .ref a0, .ref s0, .ref r0], zO a0 0 [.int (iI (M 0)), .int (iI (M 1)), .ref a1], zO r0 1 [.int (iI (M 9)), .int (iI L), .int (iI (M 10)), .int (iI (M 11)), .ref r1, .ref r2, .ref r3, .ref r4], zA cy r2 32 (sl M 572)] := by
  intro sz
  refine zM_mk (cc := cX5_metric) (maxL := 3) (ret := (some .int)) (own := RX5) (Qc := fun sz => va_Qi (fun r (_ : Unit) => r = iI (rdMet M st)) (fun _ t => zQ D (zT cy cs) (va_A [zO w0 5 [.ref d0, .ref d0k, .int (iI iK), .ref w1, .int (iI n), .ref t0, .ref w2], zO d0 3 [.int (iI (M 5)), .ref a0, .ref s0, .ref r0], zO a0 0 [.int (iI (M 0)), .int (iI (M 1)), .ref a1], zO r0 1 [.int (iI (M 9)), .int (iI L), .int (iI (M 10)), .int (iI (M 11)), .ref r1, .ref r2, .ref r3, .ref r4], zA cy r2 32 (sl M 572)] sz) [zO w0 5 [.ref d0, .ref d0k, .int (iI iK), .ref w1, .int (iI n), .ref t0, .ref w2], zO d0 3 [.int (iI (M 5)), .ref a0, .ref s0, .ref r0], zO a0 0 [.int (iI (M 0)), .int (iI (M 1)), .ref a1], zO r0 1 [.int (iI (M 9)), .int (iI L), .int (iI (M 10)), .int (iI (M 11)), .ref r1, .ref r2, .ref r3, .ref r4], zA cy r2 32 (sl M 572)] t) (va_A [zO w0 5 [.ref d0, .ref d0k, .int (iI iK), .ref w1, .int (iI n), .ref t0, .ref w2], zO d0 3 [.int (iI (M 5)), .ref a0, .ref s0, .ref r0], zO a0 0 [.int (iI (M 0)), .int (iI (M 1)), .ref a1], zO r0 1 [.int (iI (M 9)), .int (iI L), .int (iI (M 10)), .int (iI (M 11)), .ref r1, .ref r2, .ref r3, .ref r4], zA cy r2 32 (sl M 572)] sz)) (by decide) rfl rfl (Nat.le_of_ble_eq_true rfl) rfl sz ?_
  intro p e s m args below meth c ls C hr hlk hnm hl hsz hA wd
  subst hsz
  have hl : lv_has ls 3 [(0, .ref w0), (1, .int (iI st))] := hl
  have iX1 : ∀ w ∈ u_ws RX1 TX1 8, w ∈ wsX5_metric := by decide +kernel
  have iX3 : ∀ w ∈ u_ws RX3 TX3 4, w ∈ wsX5_metric := by decide +kernel
  have iX5 : ∀ w ∈ u_ws RX5 TX5 7, w ∈ wsX5_metric := by decide +kernel
  have L12 := C.2.2.2.2 (.fieldLink RX5 12 "LikelyWalks" "now" "LLikelyWalks$State;") (by decide +kernel)
  have L45 := C.2.2.2.2 (.fieldLink RX5 45 "LikelyWalks$State" "code" "LLikelyWalks$Code;") (by decide +kernel)
  have L64 := C.2.2.2.2 (.fieldLink RX5 64 "LikelyWalks$State" "reader" "LLikelyWalks$Reader;") (by decide +kernel)
  have L123 := C.2.2.2.2 (.fieldLink RX5 123 "LikelyWalks$Reader" "metrics" "[I") (by decide +kernel)
  have hp := p2_all hm.1 hm.2
  refine lv_aload_n C.1 C.2.1 dX5_metric_0 rfl (lv_at hl 0 rfl) ?_
  refine z_get C wd (Cn := RX5) (TT := TX5) (N := 7) (ci := 5) iX5 0 rfl rfl 0 (by decide) L12 (fun _ h => h) rfl dX5_metric_1 ?_
  refine z_get C wd (Cn := RX3) (TT := TX3) (N := 4) (ci := 3) iX3 1 rfl rfl 1 (by decide) L45 (fun _ h => h) rfl dX5_metric_4 ?_
  refine lv_iload_n C.1 C.2.1 dX5_metric_7 rfl (lv_at hl 1 rfl) ?_
  refine z_cvi C wd hA (As := [.int (iI st)]) (rest := []) (ws2 := [zO w0 5 [.ref d0, .ref d0k, .int (iI iK), .ref w1, .int (iI n), .ref t0, .ref w2], zO d0 3 [.int (iI (M 5)), .ref a0, .ref s0, .ref r0], zO a0 0 [.int (iI (M 0)), .int (iI (M 1)), .ref a1], zO r0 1 [.int (iI (M 9)), .int (iI L), .int (iI (M 10)), .int (iI (M 11)), .ref r1, .ref r2, .ref r3, .ref r4], zA cy r2 32 (sl M 572)]) (c_X0_hasState l D cy cs a0 a1 (M 0) (M 1) st (by omega) (by omega)) (cwV 1 C.2.2.2.2 gX5_metric_X0_hasState rfl rfl rfl (by decide +kernel) ⟨Nat.le_of_ble_eq_true rfl, Nat.le_of_ble_eq_true rfl⟩) [2] rfl rfl rfl ⟨rfl, [0, 1, 3, 4], [zO w0 5 [.ref d0, .ref d0k, .int (iI iK), .ref w1, .int (iI n), .ref t0, .ref w2], zO d0 3 [.int (iI (M 5)), .ref a0, .ref s0, .ref r0], zO r0 1 [.int (iI (M 9)), .int (iI L), .int (iI (M 10)), .int (iI (M 11)), .ref r1, .ref r2, .ref r3, .ref r4], zA cy r2 32 (sl M 572)], 5, rfl, rfl, rfl, by decide +kernel⟩ rfl rfl rfl rfl (Nat.le_of_ble_eq_true rfl) hl.1 dX5_metric_8 ⟨Nat.zero_le _, Nat.zero_le _⟩ (fun H locs wd => ?_)
  refine z_ifb_ne C (tgt := 16) dX5_metric_11 (by decide) (fun c_1 => ?_) (fun c_1 => ?_)
  · skip
    refine lv_aload_n C.1 C.2.1 dX5_metric_16 rfl (lv_at hl 0 rfl) ?_
    refine z_get C wd (Cn := RX5) (TT := TX5) (N := 7) (ci := 5) iX5 0 rfl rfl 0 (by decide) L12 (fun _ h => h) rfl dX5_metric_17 ?_
    refine z_get C wd (Cn := RX3) (TT := TX3) (N := 4) (ci := 3) iX3 1 rfl rfl 3 (by decide) L64 (fun _ h => h) rfl dX5_metric_20 ?_
    refine z_get C wd (Cn := RX1) (TT := TX1) (N := 8) (ci := 1) iX1 3 rfl rfl 5 (by decide) L123 (fun _ h => h) rfl dX5_metric_23 ?_
    refine lv_iload_n C.1 C.2.1 dX5_metric_26 rfl (lv_at hl 1 rfl) ?_
    refine z_iald C wd 4 rfl (by omega) (by decide) dX5_metric_27 ?_
    have hx := hme st (by omega) (by omega)
    refine lv_istore_n (lv' := [(2, .int (iI ((sl M 572) st))), (0, .ref w0), (1, .int (iI st))]) C.1 C.2.1 dX5_metric_28 rfl hl (by decide) rfl (fun ls hl => ?_)
    refine lv_iload_n C.1 C.2.1 dX5_metric_29 rfl (lv_at hl 0 rfl) ?_
    refine z_iconst C dX5_metric_30 ?_
    refine z_icmp_ne C (tgt := 39) dX5_metric_31 (by decide) (by omega) (fun c_2 => ?_) (fun c_2 => ?_)
    · skip
      refine lv_iload_n C.1 C.2.1 dX5_metric_39 rfl (lv_at hl 0 rfl) ?_
      have wd := z_fld wd (ws2 := [zO w0 5 [.ref d0, .ref d0k, .int (iI iK), .ref w1, .int (iI n), .ref t0, .ref w2], zO d0 3 [.int (iI (M 5)), .ref a0, .ref s0, .ref r0], zO a0 0 [.int (iI (M 0)), .int (iI (M 1)), .ref a1], zO r0 1 [.int (iI (M 9)), .int (iI L), .int (iI (M 10)), .int (iI (M 11)), .ref r1, .ref r2, .ref r3, .ref r4], zA cy r2 32 (sl M 572)]) 2 rfl (congrArg (fun z0 => zO a0 0 [.int (iI z0), .int (iI (M 1)), .ref a1]) (show ((M 0) : Int) = M 0 from (by omega))) rfl
      have wd := z_fld wd (ws2 := [zO w0 5 [.ref d0, .ref d0k, .int (iI iK), .ref w1, .int (iI n), .ref t0, .ref w2], zO d0 3 [.int (iI (M 5)), .ref a0, .ref s0, .ref r0], zO a0 0 [.int (iI (M 0)), .int (iI (M 1)), .ref a1], zO r0 1 [.int (iI (M 9)), .int (iI L), .int (iI (M 10)), .int (iI (M 11)), .ref r1, .ref r2, .ref r3, .ref r4], zA cy r2 32 (sl M 572)]) 2 rfl (congrArg (fun z0 => zO a0 0 [.int (iI (M 0)), .int (iI z0), .ref a1]) (show ((M 1) : Int) = M 1 from (by omega))) rfl
      exact z_iret C hr hlk wd (by unfold rdMet; (repeat (first | rw [if_pos (by omega)] | rw [if_neg (by omega)])); first | done | rfl) dX5_metric_40
    · skip
      refine z_bipush C dX5_metric_34 (by decide +kernel) ?_
      refine z_goto C (tgt := 40) dX5_metric_36 (by decide) ?_
      have wd := z_fld wd (ws2 := [zO w0 5 [.ref d0, .ref d0k, .int (iI iK), .ref w1, .int (iI n), .ref t0, .ref w2], zO d0 3 [.int (iI (M 5)), .ref a0, .ref s0, .ref r0], zO a0 0 [.int (iI (M 0)), .int (iI (M 1)), .ref a1], zO r0 1 [.int (iI (M 9)), .int (iI L), .int (iI (M 10)), .int (iI (M 11)), .ref r1, .ref r2, .ref r3, .ref r4], zA cy r2 32 (sl M 572)]) 2 rfl (congrArg (fun z0 => zO a0 0 [.int (iI z0), .int (iI (M 1)), .ref a1]) (show ((M 0) : Int) = M 0 from (by omega))) rfl
      have wd := z_fld wd (ws2 := [zO w0 5 [.ref d0, .ref d0k, .int (iI iK), .ref w1, .int (iI n), .ref t0, .ref w2], zO d0 3 [.int (iI (M 5)), .ref a0, .ref s0, .ref r0], zO a0 0 [.int (iI (M 0)), .int (iI (M 1)), .ref a1], zO r0 1 [.int (iI (M 9)), .int (iI L), .int (iI (M 10)), .int (iI (M 11)), .ref r1, .ref r2, .ref r3, .ref r4], zA cy r2 32 (sl M 572)]) 2 rfl (congrArg (fun z0 => zO a0 0 [.int (iI (M 0)), .int (iI z0), .ref a1]) (show ((M 1) : Int) = M 1 from (by omega))) rfl
      exact z_iret C hr hlk wd (by unfold rdMet; (repeat (first | rw [if_pos (by omega)] | rw [if_neg (by omega)])); first | done | rfl) dX5_metric_40
  · skip
    refine z_iconst C dX5_metric_14 ?_
    have wd := z_fld wd (ws2 := [zO w0 5 [.ref d0, .ref d0k, .int (iI iK), .ref w1, .int (iI n), .ref t0, .ref w2], zO d0 3 [.int (iI (M 5)), .ref a0, .ref s0, .ref r0], zO a0 0 [.int (iI (M 0)), .int (iI (M 1)), .ref a1], zO r0 1 [.int (iI (M 9)), .int (iI L), .int (iI (M 10)), .int (iI (M 11)), .ref r1, .ref r2, .ref r3, .ref r4], zA cy r2 32 (sl M 572)]) 2 rfl (congrArg (fun z0 => zO a0 0 [.int (iI z0), .int (iI (M 1)), .ref a1]) (show ((M 0) : Int) = M 0 from (by omega))) rfl
    have wd := z_fld wd (ws2 := [zO w0 5 [.ref d0, .ref d0k, .int (iI iK), .ref w1, .int (iI n), .ref t0, .ref w2], zO d0 3 [.int (iI (M 5)), .ref a0, .ref s0, .ref r0], zO a0 0 [.int (iI (M 0)), .int (iI (M 1)), .ref a1], zO r0 1 [.int (iI (M 9)), .int (iI L), .int (iI (M 10)), .int (iI (M 11)), .ref r1, .ref r2, .ref r3, .ref r4], zA cy r2 32 (sl M 572)]) 2 rfl (congrArg (fun z0 => zO a0 0 [.int (iI (M 0)), .int (iI z0), .ref a1]) (show ((M 1) : Int) = M 1 from (by omega))) rfl
    exact z_iret C hr hlk wd (by unfold rdMet; (repeat (first | rw [if_pos (by omega)] | rw [if_neg (by omega)])); first | done | rfl) dX5_metric_15
set_option maxRecDepth 100000 in
set_option maxHeartbeats 4000000 in
theorem c_X5_survivor (l : Launch) (D : va_G) (cy cs : ClassId) (w0 w1 w2 t0 d0 d0k a0 a1 s0 s1 s2 s3 r0 r1 r2 r3 r4 : Nat) (iK n L : Int) (M : Int → Int) (fu : Int → Int) (st x : Int) (hm : 1 ≤ M 0 ∧ M 0 ≤ 5) (hS : 0 ≤ M 9 ∧ M 9 ≤ 80) (hme : mtOk (sl M 572) (M 9)) (hu : ∀ k : Int, 0 ≤ k → k < 80 → 0 ≤ fu k ∧ fu k < 4294967296) (hst : -2147483648 ≤ st ∧ st < 2147483648) (hx : -2147483648 ≤ x ∧ x < 2147483648) : zCi l D (zT cy cs) yX5_survivor wsX5_survivor ({ frames := 4, cells := 0, slots := 0, locals := 89 } : Room) [.ref w0, .int (iI st), .int (iI x)] [zO w0 5 [.ref d0, .ref d0k, .int (iI iK), .ref w1, .int (iI n), .ref t0, .ref w2], zO d0 3 [.int (iI (M 5)), .ref a0, .ref s0, .ref r0], zO a0 0 [.int (iI (M 0)), .int (iI (M 1)), .ref a1], zO r0 1 [.int (iI (M 9)), .int (iI L), .int (iI (M 10)), .int (iI (M 11)), .ref r1, .ref r2, .ref r3, .ref r4], zA cy r2 32 (sl M 572), zA cy r4 80 fu] (rdSur M fu st x) [zO w0 5 [.ref d0, .ref d0k, .int (iI iK), .ref w1, .int (iI n), .ref t0, .ref w2], zO d0 3 [.int (iI (M 5)), .ref a0, .ref s0, .ref r0], zO a0 0 [.int (iI (M 0)), .int (iI (M 1)), .ref a1], zO r0 1 [.int (iI (M 9)), .int (iI L), .int (iI (M 10)), .int (iI (M 11)), .ref r1, .ref r2, .ref r3, .ref r4], zA cy r2 32 (sl M 572), zA cy r4 80 fu] := by
  intro sz
  refine zM_mk (cc := cX5_survivor) (maxL := 3) (ret := (some .int)) (own := RX5) (Qc := fun sz => va_Qi (fun r (_ : Unit) => r = iI (rdSur M fu st x)) (fun _ t => zQ D (zT cy cs) (va_A [zO w0 5 [.ref d0, .ref d0k, .int (iI iK), .ref w1, .int (iI n), .ref t0, .ref w2], zO d0 3 [.int (iI (M 5)), .ref a0, .ref s0, .ref r0], zO a0 0 [.int (iI (M 0)), .int (iI (M 1)), .ref a1], zO r0 1 [.int (iI (M 9)), .int (iI L), .int (iI (M 10)), .int (iI (M 11)), .ref r1, .ref r2, .ref r3, .ref r4], zA cy r2 32 (sl M 572), zA cy r4 80 fu] sz) [zO w0 5 [.ref d0, .ref d0k, .int (iI iK), .ref w1, .int (iI n), .ref t0, .ref w2], zO d0 3 [.int (iI (M 5)), .ref a0, .ref s0, .ref r0], zO a0 0 [.int (iI (M 0)), .int (iI (M 1)), .ref a1], zO r0 1 [.int (iI (M 9)), .int (iI L), .int (iI (M 10)), .int (iI (M 11)), .ref r1, .ref r2, .ref r3, .ref r4], zA cy r2 32 (sl M 572), zA cy r4 80 fu] t) (va_A [zO w0 5 [.ref d0, .ref d0k, .int (iI iK), .ref w1, .int (iI n), .ref t0, .ref w2], zO d0 3 [.int (iI (M 5)), .ref a0, .ref s0, .ref r0], zO a0 0 [.int (iI (M 0)), .int (iI (M 1)), .ref a1], zO r0 1 [.int (iI (M 9)), .int (iI L), .int (iI (M 10)), .int (iI (M 11)), .ref r1, .ref r2, .ref r3, .ref r4], zA cy r2 32 (sl M 572), zA cy r4 80 fu] sz)) (by decide) rfl rfl (Nat.le_of_ble_eq_true rfl) rfl sz ?_
  intro p e s m args below meth c ls C hr hlk hnm hl hsz hA wd
  subst hsz
  have hl : lv_has ls 3 [(0, .ref w0), (1, .int (iI st)), (2, .int (iI x))] := hl
  have iX1 : ∀ w ∈ u_ws RX1 TX1 8, w ∈ wsX5_survivor := by decide +kernel
  have iX3 : ∀ w ∈ u_ws RX3 TX3 4, w ∈ wsX5_survivor := by decide +kernel
  have iX5 : ∀ w ∈ u_ws RX5 TX5 7, w ∈ wsX5_survivor := by decide +kernel
  have L12 := C.2.2.2.2 (.fieldLink RX5 12 "LikelyWalks" "now" "LLikelyWalks$State;") (by decide +kernel)
  have L45 := C.2.2.2.2 (.fieldLink RX5 45 "LikelyWalks$State" "code" "LLikelyWalks$Code;") (by decide +kernel)
  have L64 := C.2.2.2.2 (.fieldLink RX5 64 "LikelyWalks$State" "reader" "LLikelyWalks$Reader;") (by decide +kernel)
  have L74 := C.2.2.2.2 (.fieldLink RX5 74 "LikelyWalks$Reader" "steps" "I") (by decide +kernel)
  have L123 := C.2.2.2.2 (.fieldLink RX5 123 "LikelyWalks$Reader" "metrics" "[I") (by decide +kernel)
  have hp := p2_all hm.1 hm.2
  refine lv_aload_n C.1 C.2.1 dX5_survivor_0 rfl (lv_at hl 0 rfl) ?_
  refine z_get C wd (Cn := RX5) (TT := TX5) (N := 7) (ci := 5) iX5 0 rfl rfl 0 (by decide) L12 (fun _ h => h) rfl dX5_survivor_1 ?_
  refine z_get C wd (Cn := RX3) (TT := TX3) (N := 4) (ci := 3) iX3 1 rfl rfl 1 (by decide) L45 (fun _ h => h) rfl dX5_survivor_4 ?_
  refine lv_iload_n C.1 C.2.1 dX5_survivor_7 rfl (lv_at hl 1 rfl) ?_
  refine z_cvi C wd hA (As := [.int (iI st)]) (rest := []) (ws2 := [zO w0 5 [.ref d0, .ref d0k, .int (iI iK), .ref w1, .int (iI n), .ref t0, .ref w2], zO d0 3 [.int (iI (M 5)), .ref a0, .ref s0, .ref r0], zO a0 0 [.int (iI (M 0)), .int (iI (M 1)), .ref a1], zO r0 1 [.int (iI (M 9)), .int (iI L), .int (iI (M 10)), .int (iI (M 11)), .ref r1, .ref r2, .ref r3, .ref r4], zA cy r2 32 (sl M 572), zA cy r4 80 fu]) (c_X0_hasState l D cy cs a0 a1 (M 0) (M 1) st (by omega) (by omega)) (cwV 1 C.2.2.2.2 gX5_survivor_X0_hasState rfl rfl rfl (by decide +kernel) ⟨Nat.le_of_ble_eq_true rfl, Nat.le_of_ble_eq_true rfl⟩) [2] rfl rfl rfl ⟨rfl, [0, 1, 3, 4, 5], [zO w0 5 [.ref d0, .ref d0k, .int (iI iK), .ref w1, .int (iI n), .ref t0, .ref w2], zO d0 3 [.int (iI (M 5)), .ref a0, .ref s0, .ref r0], zO r0 1 [.int (iI (M 9)), .int (iI L), .int (iI (M 10)), .int (iI (M 11)), .ref r1, .ref r2, .ref r3, .ref r4], zA cy r2 32 (sl M 572), zA cy r4 80 fu], 6, rfl, rfl, rfl, by decide +kernel⟩ rfl rfl rfl rfl (Nat.le_of_ble_eq_true rfl) hl.1 dX5_survivor_8 ⟨Nat.zero_le _, Nat.zero_le _⟩ (fun H locs wd => ?_)
  refine z_ifb_ne C (tgt := 16) dX5_survivor_11 (by decide) (fun c_1 => ?_) (fun c_1 => ?_)
  · skip
    refine lv_iload_n C.1 C.2.1 dX5_survivor_16 rfl (lv_at hl 2 rfl) ?_
    refine z_if_ge C (tgt := 23) dX5_survivor_17 (by decide) (by omega) (fun c_2 => ?_) (fun c_2 => ?_)
    · skip
      refine lv_aload_n C.1 C.2.1 dX5_survivor_23 rfl (lv_at hl 0 rfl) ?_
      refine z_get C wd (Cn := RX5) (TT := TX5) (N := 7) (ci := 5) iX5 0 rfl rfl 0 (by decide) L12 (fun _ h => h) rfl dX5_survivor_24 ?_
      refine z_get C wd (Cn := RX3) (TT := TX3) (N := 4) (ci := 3) iX3 1 rfl rfl 3 (by decide) L64 (fun _ h => h) rfl dX5_survivor_27 ?_
      refine z_get C wd (Cn := RX1) (TT := TX1) (N := 8) (ci := 1) iX1 3 rfl rfl 5 (by decide) L123 (fun _ h => h) rfl dX5_survivor_30 ?_
      refine lv_iload_n C.1 C.2.1 dX5_survivor_33 rfl (lv_at hl 1 rfl) ?_
      have hx := hme st (by omega) (by omega)
      refine z_iald C wd 4 rfl (by omega) (by decide) dX5_survivor_34 ?_
      refine z_iconst C dX5_survivor_35 ?_
      refine z_icmp_eq C (tgt := 53) dX5_survivor_36 (by decide) (by omega) (fun c_3 => ?_) (fun c_3 => ?_)
      · skip
        refine z_bipush C dX5_survivor_53 (by decide +kernel) ?_
        have wd := z_fld wd (ws2 := [zO w0 5 [.ref d0, .ref d0k, .int (iI iK), .ref w1, .int (iI n), .ref t0, .ref w2], zO d0 3 [.int (iI (M 5)), .ref a0, .ref s0, .ref r0], zO a0 0 [.int (iI (M 0)), .int (iI (M 1)), .ref a1], zO r0 1 [.int (iI (M 9)), .int (iI L), .int (iI (M 10)), .int (iI (M 11)), .ref r1, .ref r2, .ref r3, .ref r4], zA cy r2 32 (sl M 572), zA cy r4 80 fu]) 2 rfl (congrArg (fun z0 => zO a0 0 [.int (iI z0), .int (iI (M 1)), .ref a1]) (show ((M 0) : Int) = M 0 from (by omega))) rfl
        have wd := z_fld wd (ws2 := [zO w0 5 [.ref d0, .ref d0k, .int (iI iK), .ref w1, .int (iI n), .ref t0, .ref w2], zO d0 3 [.int (iI (M 5)), .ref a0, .ref s0, .ref r0], zO a0 0 [.int (iI (M 0)), .int (iI (M 1)), .ref a1], zO r0 1 [.int (iI (M 9)), .int (iI L), .int (iI (M 10)), .int (iI (M 11)), .ref r1, .ref r2, .ref r3, .ref r4], zA cy r2 32 (sl M 572), zA cy r4 80 fu]) 2 rfl (congrArg (fun z0 => zO a0 0 [.int (iI (M 0)), .int (iI z0), .ref a1]) (show ((M 1) : Int) = M 1 from (by omega))) rfl
        exact z_iret C hr hlk wd (by unfold rdSur; (repeat (first | rw [if_pos (by omega)] | rw [if_neg (by omega)])); first | done | rfl) dX5_survivor_55
      · skip
        refine lv_iload_n C.1 C.2.1 dX5_survivor_39 rfl (lv_at hl 2 rfl) ?_
        refine lv_aload_n C.1 C.2.1 dX5_survivor_40 rfl (lv_at hl 0 rfl) ?_
        refine z_get C wd (Cn := RX5) (TT := TX5) (N := 7) (ci := 5) iX5 0 rfl rfl 0 (by decide) L12 (fun _ h => h) rfl dX5_survivor_41 ?_
        refine z_get C wd (Cn := RX3) (TT := TX3) (N := 4) (ci := 3) iX3 1 rfl rfl 3 (by decide) L64 (fun _ h => h) rfl dX5_survivor_44 ?_
        refine z_get C wd (Cn := RX1) (TT := TX1) (N := 8) (ci := 1) iX1 3 rfl rfl 0 (by decide) L74 (fun _ h => h) rfl dX5_survivor_47 ?_
        refine z_icmp_lt C (tgt := 56) dX5_survivor_50 (by decide) (by omega) (fun c_4 => ?_) (fun c_4 => ?_)
        · skip
          refine lv_aload_n C.1 C.2.1 dX5_survivor_56 rfl (lv_at hl 0 rfl) ?_
          refine z_get C wd (Cn := RX5) (TT := TX5) (N := 7) (ci := 5) iX5 0 rfl rfl 0 (by decide) L12 (fun _ h => h) rfl dX5_survivor_57 ?_
          refine z_get C wd (Cn := RX3) (TT := TX3) (N := 4) (ci := 3) iX3 1 rfl rfl 3 (by decide) L64 (fun _ h => h) rfl dX5_survivor_60 ?_
          refine lv_aload_n C.1 C.2.1 dX5_survivor_63 rfl (lv_at hl 0 rfl) ?_
          refine z_get C wd (Cn := RX5) (TT := TX5) (N := 7) (ci := 5) iX5 0 rfl rfl 0 (by decide) L12 (fun _ h => h) rfl dX5_survivor_64 ?_
          refine z_get C wd (Cn := RX3) (TT := TX3) (N := 4) (ci := 3) iX3 1 rfl rfl 1 (by decide) L45 (fun _ h => h) rfl dX5_survivor_67 ?_
          refine lv_iload_n C.1 C.2.1 dX5_survivor_70 rfl (lv_at hl 1 rfl) ?_
          refine lv_iload_n C.1 C.2.1 dX5_survivor_71 rfl (lv_at hl 2 rfl) ?_
          refine z_cvi C wd hA (As := [.ref a0, .int (iI st), .int (iI x)]) (rest := []) (ws2 := [zO w0 5 [.ref d0, .ref d0k, .int (iI iK), .ref w1, .int (iI n), .ref t0, .ref w2], zO d0 3 [.int (iI (M 5)), .ref a0, .ref s0, .ref r0], zO a0 0 [.int (iI (M 0)), .int (iI (M 1)), .ref a1], zO r0 1 [.int (iI (M 9)), .int (iI L), .int (iI (M 10)), .int (iI (M 11)), .ref r1, .ref r2, .ref r3, .ref r4], zA cy r2 32 (sl M 572), zA cy r4 80 fu]) (c_X1_survivorBit l D cy cs r0 r1 r2 r3 r4 a0 a1 (M 9) L (M 10) (M 11) (M 0) (M 1) fu st x (by omega) (by omega) hu (by omega) (by omega)) (cwV 3 C.2.2.2.2 gX5_survivor_X1_survivorBit rfl rfl rfl (by decide +kernel) ⟨Nat.le_of_ble_eq_true rfl, Nat.le_of_ble_eq_true rfl⟩) [3, 5, 2] rfl rfl rfl ⟨rfl, [0, 1, 4], [zO w0 5 [.ref d0, .ref d0k, .int (iI iK), .ref w1, .int (iI n), .ref t0, .ref w2], zO d0 3 [.int (iI (M 5)), .ref a0, .ref s0, .ref r0], zA cy r2 32 (sl M 572)], 6, rfl, rfl, rfl, by decide +kernel⟩ rfl rfl rfl rfl (Nat.le_of_ble_eq_true rfl) hl.1 dX5_survivor_72 ⟨Nat.zero_le _, Nat.zero_le _⟩ (fun H locs wd => ?_)
          have wd := z_fld wd (ws2 := [zO w0 5 [.ref d0, .ref d0k, .int (iI iK), .ref w1, .int (iI n), .ref t0, .ref w2], zO d0 3 [.int (iI (M 5)), .ref a0, .ref s0, .ref r0], zO a0 0 [.int (iI (M 0)), .int (iI (M 1)), .ref a1], zO r0 1 [.int (iI (M 9)), .int (iI L), .int (iI (M 10)), .int (iI (M 11)), .ref r1, .ref r2, .ref r3, .ref r4], zA cy r2 32 (sl M 572), zA cy r4 80 fu]) 2 rfl (congrArg (fun z0 => zO a0 0 [.int (iI z0), .int (iI (M 1)), .ref a1]) (show ((M 0) : Int) = M 0 from (by omega))) rfl
          have wd := z_fld wd (ws2 := [zO w0 5 [.ref d0, .ref d0k, .int (iI iK), .ref w1, .int (iI n), .ref t0, .ref w2], zO d0 3 [.int (iI (M 5)), .ref a0, .ref s0, .ref r0], zO a0 0 [.int (iI (M 0)), .int (iI (M 1)), .ref a1], zO r0 1 [.int (iI (M 9)), .int (iI L), .int (iI (M 10)), .int (iI (M 11)), .ref r1, .ref r2, .ref r3, .ref r4], zA cy r2 32 (sl M 572), zA cy r4 80 fu]) 2 rfl (congrArg (fun z0 => zO a0 0 [.int (iI (M 0)), .int (iI z0), .ref a1]) (show ((M 1) : Int) = M 1 from (by omega))) rfl
          have wd := z_fld wd (ws2 := [zO w0 5 [.ref d0, .ref d0k, .int (iI iK), .ref w1, .int (iI n), .ref t0, .ref w2], zO d0 3 [.int (iI (M 5)), .ref a0, .ref s0, .ref r0], zO a0 0 [.int (iI (M 0)), .int (iI (M 1)), .ref a1], zO r0 1 [.int (iI (M 9)), .int (iI L), .int (iI (M 10)), .int (iI (M 11)), .ref r1, .ref r2, .ref r3, .ref r4], zA cy r2 32 (sl M 572), zA cy r4 80 fu]) 3 rfl (congrArg (fun z0 => zO r0 1 [.int (iI z0), .int (iI L), .int (iI (M 10)), .int (iI (M 11)), .ref r1, .ref r2, .ref r3, .ref r4]) (show ((M 9) : Int) = M 9 from (by omega))) rfl
          have wd := z_fld wd (ws2 := [zO w0 5 [.ref d0, .ref d0k, .int (iI iK), .ref w1, .int (iI n), .ref t0, .ref w2], zO d0 3 [.int (iI (M 5)), .ref a0, .ref s0, .ref r0], zO a0 0 [.int (iI (M 0)), .int (iI (M 1)), .ref a1], zO r0 1 [.int (iI (M 9)), .int (iI L), .int (iI (M 10)), .int (iI (M 11)), .ref r1, .ref r2, .ref r3, .ref r4], zA cy r2 32 (sl M 572), zA cy r4 80 fu]) 3 rfl (congrArg (fun z0 => zO r0 1 [.int (iI (M 9)), .int (iI L), .int (iI z0), .int (iI (M 11)), .ref r1, .ref r2, .ref r3, .ref r4]) (show ((M 10) : Int) = M 10 from (by omega))) rfl
          have wd := z_fld wd (ws2 := [zO w0 5 [.ref d0, .ref d0k, .int (iI iK), .ref w1, .int (iI n), .ref t0, .ref w2], zO d0 3 [.int (iI (M 5)), .ref a0, .ref s0, .ref r0], zO a0 0 [.int (iI (M 0)), .int (iI (M 1)), .ref a1], zO r0 1 [.int (iI (M 9)), .int (iI L), .int (iI (M 10)), .int (iI (M 11)), .ref r1, .ref r2, .ref r3, .ref r4], zA cy r2 32 (sl M 572), zA cy r4 80 fu]) 3 rfl (congrArg (fun z0 => zO r0 1 [.int (iI (M 9)), .int (iI L), .int (iI (M 10)), .int (iI z0), .ref r1, .ref r2, .ref r3, .ref r4]) (show ((M 11) : Int) = M 11 from (by omega))) rfl
          exact z_iret C hr hlk wd (by unfold rdSur; (repeat (first | rw [if_pos (by omega)] | rw [if_neg (by omega)])); first | done | rfl) dX5_survivor_75
        · skip
          refine z_bipush C dX5_survivor_53 (by decide +kernel) ?_
          have wd := z_fld wd (ws2 := [zO w0 5 [.ref d0, .ref d0k, .int (iI iK), .ref w1, .int (iI n), .ref t0, .ref w2], zO d0 3 [.int (iI (M 5)), .ref a0, .ref s0, .ref r0], zO a0 0 [.int (iI (M 0)), .int (iI (M 1)), .ref a1], zO r0 1 [.int (iI (M 9)), .int (iI L), .int (iI (M 10)), .int (iI (M 11)), .ref r1, .ref r2, .ref r3, .ref r4], zA cy r2 32 (sl M 572), zA cy r4 80 fu]) 2 rfl (congrArg (fun z0 => zO a0 0 [.int (iI z0), .int (iI (M 1)), .ref a1]) (show ((M 0) : Int) = M 0 from (by omega))) rfl
          have wd := z_fld wd (ws2 := [zO w0 5 [.ref d0, .ref d0k, .int (iI iK), .ref w1, .int (iI n), .ref t0, .ref w2], zO d0 3 [.int (iI (M 5)), .ref a0, .ref s0, .ref r0], zO a0 0 [.int (iI (M 0)), .int (iI (M 1)), .ref a1], zO r0 1 [.int (iI (M 9)), .int (iI L), .int (iI (M 10)), .int (iI (M 11)), .ref r1, .ref r2, .ref r3, .ref r4], zA cy r2 32 (sl M 572), zA cy r4 80 fu]) 2 rfl (congrArg (fun z0 => zO a0 0 [.int (iI (M 0)), .int (iI z0), .ref a1]) (show ((M 1) : Int) = M 1 from (by omega))) rfl
          exact z_iret C hr hlk wd (by unfold rdSur; (repeat (first | rw [if_pos (by omega)] | rw [if_neg (by omega)])); first | done | rfl) dX5_survivor_55
    · skip
      refine z_bipush C dX5_survivor_20 (by decide +kernel) ?_
      have wd := z_fld wd (ws2 := [zO w0 5 [.ref d0, .ref d0k, .int (iI iK), .ref w1, .int (iI n), .ref t0, .ref w2], zO d0 3 [.int (iI (M 5)), .ref a0, .ref s0, .ref r0], zO a0 0 [.int (iI (M 0)), .int (iI (M 1)), .ref a1], zO r0 1 [.int (iI (M 9)), .int (iI L), .int (iI (M 10)), .int (iI (M 11)), .ref r1, .ref r2, .ref r3, .ref r4], zA cy r2 32 (sl M 572), zA cy r4 80 fu]) 2 rfl (congrArg (fun z0 => zO a0 0 [.int (iI z0), .int (iI (M 1)), .ref a1]) (show ((M 0) : Int) = M 0 from (by omega))) rfl
      have wd := z_fld wd (ws2 := [zO w0 5 [.ref d0, .ref d0k, .int (iI iK), .ref w1, .int (iI n), .ref t0, .ref w2], zO d0 3 [.int (iI (M 5)), .ref a0, .ref s0, .ref r0], zO a0 0 [.int (iI (M 0)), .int (iI (M 1)), .ref a1], zO r0 1 [.int (iI (M 9)), .int (iI L), .int (iI (M 10)), .int (iI (M 11)), .ref r1, .ref r2, .ref r3, .ref r4], zA cy r2 32 (sl M 572), zA cy r4 80 fu]) 2 rfl (congrArg (fun z0 => zO a0 0 [.int (iI (M 0)), .int (iI z0), .ref a1]) (show ((M 1) : Int) = M 1 from (by omega))) rfl
      exact z_iret C hr hlk wd (by unfold rdSur; (repeat (first | rw [if_pos (by omega)] | rw [if_neg (by omega)])); first | done | rfl) dX5_survivor_22
  · skip
    refine z_iconst C dX5_survivor_14 ?_
    have wd := z_fld wd (ws2 := [zO w0 5 [.ref d0, .ref d0k, .int (iI iK), .ref w1, .int (iI n), .ref t0, .ref w2], zO d0 3 [.int (iI (M 5)), .ref a0, .ref s0, .ref r0], zO a0 0 [.int (iI (M 0)), .int (iI (M 1)), .ref a1], zO r0 1 [.int (iI (M 9)), .int (iI L), .int (iI (M 10)), .int (iI (M 11)), .ref r1, .ref r2, .ref r3, .ref r4], zA cy r2 32 (sl M 572), zA cy r4 80 fu]) 2 rfl (congrArg (fun z0 => zO a0 0 [.int (iI z0), .int (iI (M 1)), .ref a1]) (show ((M 0) : Int) = M 0 from (by omega))) rfl
    have wd := z_fld wd (ws2 := [zO w0 5 [.ref d0, .ref d0k, .int (iI iK), .ref w1, .int (iI n), .ref t0, .ref w2], zO d0 3 [.int (iI (M 5)), .ref a0, .ref s0, .ref r0], zO a0 0 [.int (iI (M 0)), .int (iI (M 1)), .ref a1], zO r0 1 [.int (iI (M 9)), .int (iI L), .int (iI (M 10)), .int (iI (M 11)), .ref r1, .ref r2, .ref r3, .ref r4], zA cy r2 32 (sl M 572), zA cy r4 80 fu]) 2 rfl (congrArg (fun z0 => zO a0 0 [.int (iI (M 0)), .int (iI z0), .ref a1]) (show ((M 1) : Int) = M 1 from (by omega))) rfl
    exact z_iret C hr hlk wd (by unfold rdSur; (repeat (first | rw [if_pos (by omega)] | rw [if_neg (by omega)])); first | done | rfl) dX5_survivor_15
set_option maxRecDepth 100000 in
set_option maxHeartbeats 4000000 in
theorem c_X5_wrongBits (l : Launch) (D : va_G) (cy cs : ClassId) (w0 w1 w2 t0 d0 d0k a0 a1 s0 s1 s2 s3 r0 r1 r2 r3 r4 : Nat) (iK n L : Int) (M : Int → Int) (h7 : 0 ≤ M 7 ∧ M 7 ≤ 80) (h10 : 0 ≤ M 10 ∧ M 10 ≤ 80) (hb1 : ∀ j : Int, 0 ≤ j → j < 80 → 0 ≤ sl M 12 j ∧ sl M 12 j ≤ 1) (hb2 : ∀ j : Int, 0 ≤ j → j < 80 → 0 ≤ sl M 604 j ∧ sl M 604 j ≤ 1) : zCi l D (zT cy cs) yX5_wrongBits wsX5_wrongBits ({ frames := 1, cells := 0, slots := 0, locals := 13 } : Room) [.ref w0] [zO w0 5 [.ref d0, .ref d0k, .int (iI iK), .ref w1, .int (iI n), .ref t0, .ref w2], zO d0 3 [.int (iI (M 5)), .ref a0, .ref s0, .ref r0], zO s0 2 [.int (iI (M 6)), .int (iI (M 7)), .ref s1, .ref s2, .ref s3], zA cy s1 80 (sl M 12), zO r0 1 [.int (iI (M 9)), .int (iI L), .int (iI (M 10)), .int (iI (M 11)), .ref r1, .ref r2, .ref r3, .ref r4], zA cy r1 80 (sl M 604)] (rdWrong M) [zO w0 5 [.ref d0, .ref d0k, .int (iI iK), .ref w1, .int (iI n), .ref t0, .ref w2], zO d0 3 [.int (iI (M 5)), .ref a0, .ref s0, .ref r0], zO s0 2 [.int (iI (M 6)), .int (iI (M 7)), .ref s1, .ref s2, .ref s3], zA cy s1 80 (sl M 12), zO r0 1 [.int (iI (M 9)), .int (iI L), .int (iI (M 10)), .int (iI (M 11)), .ref r1, .ref r2, .ref r3, .ref r4], zA cy r1 80 (sl M 604)] := by
  intro sz
  refine zM_mk (cc := cX5_wrongBits) (maxL := 4) (ret := (some .int)) (own := RX5) (Qc := fun sz => va_Qi (fun r (_ : Unit) => r = iI (rdWrong M)) (fun _ t => zQ D (zT cy cs) (va_A [zO w0 5 [.ref d0, .ref d0k, .int (iI iK), .ref w1, .int (iI n), .ref t0, .ref w2], zO d0 3 [.int (iI (M 5)), .ref a0, .ref s0, .ref r0], zO s0 2 [.int (iI (M 6)), .int (iI (M 7)), .ref s1, .ref s2, .ref s3], zA cy s1 80 (sl M 12), zO r0 1 [.int (iI (M 9)), .int (iI L), .int (iI (M 10)), .int (iI (M 11)), .ref r1, .ref r2, .ref r3, .ref r4], zA cy r1 80 (sl M 604)] sz) [zO w0 5 [.ref d0, .ref d0k, .int (iI iK), .ref w1, .int (iI n), .ref t0, .ref w2], zO d0 3 [.int (iI (M 5)), .ref a0, .ref s0, .ref r0], zO s0 2 [.int (iI (M 6)), .int (iI (M 7)), .ref s1, .ref s2, .ref s3], zA cy s1 80 (sl M 12), zO r0 1 [.int (iI (M 9)), .int (iI L), .int (iI (M 10)), .int (iI (M 11)), .ref r1, .ref r2, .ref r3, .ref r4], zA cy r1 80 (sl M 604)] t) (va_A [zO w0 5 [.ref d0, .ref d0k, .int (iI iK), .ref w1, .int (iI n), .ref t0, .ref w2], zO d0 3 [.int (iI (M 5)), .ref a0, .ref s0, .ref r0], zO s0 2 [.int (iI (M 6)), .int (iI (M 7)), .ref s1, .ref s2, .ref s3], zA cy s1 80 (sl M 12), zO r0 1 [.int (iI (M 9)), .int (iI L), .int (iI (M 10)), .int (iI (M 11)), .ref r1, .ref r2, .ref r3, .ref r4], zA cy r1 80 (sl M 604)] sz)) (by decide) rfl rfl (Nat.le_of_ble_eq_true rfl) rfl sz ?_
  intro p e s m args below meth c ls C hr hlk hnm hl hsz hA wd
  subst hsz
  have hl : lv_has ls 4 [(0, .ref w0)] := hl
  have iX1 : ∀ w ∈ u_ws RX1 TX1 8, w ∈ wsX5_wrongBits := by decide +kernel
  have iX2 : ∀ w ∈ u_ws RX2 TX2 5, w ∈ wsX5_wrongBits := by decide +kernel
  have iX3 : ∀ w ∈ u_ws RX3 TX3 4, w ∈ wsX5_wrongBits := by decide +kernel
  have iX5 : ∀ w ∈ u_ws RX5 TX5 7, w ∈ wsX5_wrongBits := by decide +kernel
  have L12 := C.2.2.2.2 (.fieldLink RX5 12 "LikelyWalks" "now" "LLikelyWalks$State;") (by decide +kernel)
  have L55 := C.2.2.2.2 (.fieldLink RX5 55 "LikelyWalks$State" "sender" "LLikelyWalks$Sender;") (by decide +kernel)
  have L64 := C.2.2.2.2 (.fieldLink RX5 64 "LikelyWalks$State" "reader" "LLikelyWalks$Reader;") (by decide +kernel)
  have L84 := C.2.2.2.2 (.fieldLink RX5 84 "LikelyWalks$Sender" "bitCount" "I") (by decide +kernel)
  have L120 := C.2.2.2.2 (.fieldLink RX5 120 "LikelyWalks$Reader" "releasedCount" "I") (by decide +kernel)
  have L155 := C.2.2.2.2 (.fieldLink RX5 155 "LikelyWalks$Sender" "bits" "[I") (by decide +kernel)
  have L158 := C.2.2.2.2 (.fieldLink RX5 158 "LikelyWalks$Reader" "releasedBits" "[I") (by decide +kernel)
  have hmn := mn_le (M 10) (M 7)
  refine lv_aload_n C.1 C.2.1 dX5_wrongBits_0 rfl (lv_at hl 0 rfl) ?_
  refine z_get C wd (Cn := RX5) (TT := TX5) (N := 7) (ci := 5) iX5 0 rfl rfl 0 (by decide) L12 (fun _ h => h) rfl dX5_wrongBits_1 ?_
  refine z_get C wd (Cn := RX3) (TT := TX3) (N := 4) (ci := 3) iX3 1 rfl rfl 3 (by decide) L64 (fun _ h => h) rfl dX5_wrongBits_4 ?_
  refine z_get C wd (Cn := RX1) (TT := TX1) (N := 8) (ci := 1) iX1 4 rfl rfl 2 (by decide) L120 (fun _ h => h) rfl dX5_wrongBits_7 ?_
  refine lv_aload_n C.1 C.2.1 dX5_wrongBits_10 rfl (lv_at hl 0 rfl) ?_
  refine z_get C wd (Cn := RX5) (TT := TX5) (N := 7) (ci := 5) iX5 0 rfl rfl 0 (by decide) L12 (fun _ h => h) rfl dX5_wrongBits_11 ?_
  refine z_get C wd (Cn := RX3) (TT := TX3) (N := 4) (ci := 3) iX3 1 rfl rfl 2 (by decide) L55 (fun _ h => h) rfl dX5_wrongBits_14 ?_
  refine z_get C wd (Cn := RX2) (TT := TX2) (N := 5) (ci := 2) iX2 2 rfl rfl 1 (by decide) L84 (fun _ h => h) rfl dX5_wrongBits_17 ?_
  refine z_mmin C hl.1 (rest := []) (C.2.2.2.2 (.methodLink RX5 176 Lib.Math.min.name) (by decide +kernel)) (C.2.2.2.2 (.static Lib.Math.min.name) (by decide +kernel)) (C.2.2.2.2 (.initialized "java/lang/Math") (by decide +kernel)) (C.2.2.2.2 (.code Lib.Math.min.name Lib.Math.min.code 2 (some .int)) (by decide +kernel)) (Nat.le_of_ble_eq_true rfl) (Nat.le_of_ble_eq_true rfl) ⟨Nat.zero_le _, Nat.zero_le _⟩ (by omega) dX5_wrongBits_20 ?_
  refine lv_istore_n (lv' := [(1, .int (iI (mn (M 10) (M 7)))), (0, .ref w0)]) C.1 C.2.1 dX5_wrongBits_23 rfl hl (by decide) rfl (fun ls hl => ?_)
  refine z_iconst C dX5_wrongBits_24 ?_
  refine lv_istore_n (lv' := [(2, .int (iI 0)), (1, .int (iI (mn (M 10) (M 7)))), (0, .ref w0)]) C.1 C.2.1 dX5_wrongBits_25 rfl hl (by decide) rfl (fun ls hl => ?_)
  refine z_iconst C dX5_wrongBits_26 ?_
  refine lv_istore_n (lv' := [(3, .int (iI 0)), (2, .int (iI 0)), (1, .int (iI (mn (M 10) (M 7)))), (0, .ref w0)]) C.1 C.2.1 dX5_wrongBits_27 rfl hl (by decide) rfl (fun ls hl => ?_)
  refine z_loop2 (P := fun (x : Int) (k : Int) => (0 ≤ k ∧ k ≤ mn (M 10) (M 7)) ∧ (x = sm (wr1 M) k.toNat)) (mu := fun (x : Int) (k : Int) => (mn (M 10) (M 7) - k).toNat) (ws := fun (x : Int) (k : Int) => [zO w0 5 [.ref d0, .ref d0k, .int (iI iK), .ref w1, .int (iI n), .ref t0, .ref w2], zO d0 3 [.int (iI (M 5)), .ref a0, .ref s0, .ref r0], zO s0 2 [.int (iI (M 6)), .int (iI (M 7)), .ref s1, .ref s2, .ref s3], zA cy s1 80 (sl M 12), zO r0 1 [.int (iI (M 9)), .int (iI L), .int (iI (M 10)), .int (iI (M 11)), .ref r1, .ref r2, .ref r3, .ref r4], zA cy r1 80 (sl M 604)]) (lv := fun (x : Int) (k : Int) => [(0, .ref w0), (1, .int (iI (mn (M 10) (M 7)))), (2, .int (iI x)), (3, .int (iI k))]) 0 0 C ⟨(by omega), rfl⟩ wd (lv_sub hl [3, 2, 1, 0] rfl) ?_
  intro x k hP28 ih28 H locs ls wd hl
  obtain ⟨h28_0, h28_1⟩ := hP28
  try dsimp only at h28_0 h28_1
  have wd : Wd D (zT cy cs) _ s.heap s [zO w0 5 [.ref d0, .ref d0k, .int (iI iK), .ref w1, .int (iI n), .ref t0, .ref w2], zO d0 3 [.int (iI (M 5)), .ref a0, .ref s0, .ref r0], zO s0 2 [.int (iI (M 6)), .int (iI (M 7)), .ref s1, .ref s2, .ref s3], zA cy s1 80 (sl M 12), zO r0 1 [.int (iI (M 9)), .int (iI L), .int (iI (M 10)), .int (iI (M 11)), .ref r1, .ref r2, .ref r3, .ref r4], zA cy r1 80 (sl M 604)] H locs := wd
  have hl : lv_has ls 4 [(0, .ref w0), (1, .int (iI (mn (M 10) (M 7)))), (2, .int (iI x)), (3, .int (iI k))] := hl
  refine lv_iload_n C.1 C.2.1 dX5_wrongBits_28 rfl (lv_at hl 3 rfl) ?_
  refine lv_iload_n C.1 C.2.1 dX5_wrongBits_29 rfl (lv_at hl 1 rfl) ?_
  refine z_icmp_ge C (tgt := 69) dX5_wrongBits_30 (by decide) (by omega) (fun c_1 => ?_) (fun c_1 => ?_)
  · skip
    refine lv_iload_n C.1 C.2.1 dX5_wrongBits_69 rfl (lv_at hl 2 rfl) ?_
    exact z_iret C hr hlk wd (by rw [h28_1, rdWrong, show k = mn (M 10) (M 7) by omega]) dX5_wrongBits_70
  · skip
    have hx := hb1 k h28_0.1 (by omega)
    have hy := hb2 k h28_0.1 (by omega)
    refine lv_aload_n C.1 C.2.1 dX5_wrongBits_33 rfl (lv_at hl 0 rfl) ?_
    refine z_get C wd (Cn := RX5) (TT := TX5) (N := 7) (ci := 5) iX5 0 rfl rfl 0 (by decide) L12 (fun _ h => h) rfl dX5_wrongBits_34 ?_
    refine z_get C wd (Cn := RX3) (TT := TX3) (N := 4) (ci := 3) iX3 1 rfl rfl 3 (by decide) L64 (fun _ h => h) rfl dX5_wrongBits_37 ?_
    refine z_get C wd (Cn := RX1) (TT := TX1) (N := 8) (ci := 1) iX1 4 rfl rfl 4 (by decide) L158 (fun _ h => h) rfl dX5_wrongBits_40 ?_
    refine lv_iload_n C.1 C.2.1 dX5_wrongBits_43 rfl (lv_at hl 3 rfl) ?_
    refine z_iald C wd 5 rfl (by omega) (by decide) dX5_wrongBits_44 ?_
    refine lv_aload_n C.1 C.2.1 dX5_wrongBits_45 rfl (lv_at hl 0 rfl) ?_
    refine z_get C wd (Cn := RX5) (TT := TX5) (N := 7) (ci := 5) iX5 0 rfl rfl 0 (by decide) L12 (fun _ h => h) rfl dX5_wrongBits_46 ?_
    refine z_get C wd (Cn := RX3) (TT := TX3) (N := 4) (ci := 3) iX3 1 rfl rfl 2 (by decide) L55 (fun _ h => h) rfl dX5_wrongBits_49 ?_
    refine z_get C wd (Cn := RX2) (TT := TX2) (N := 5) (ci := 2) iX2 2 rfl rfl 2 (by decide) L155 (fun _ h => h) rfl dX5_wrongBits_52 ?_
    refine lv_iload_n C.1 C.2.1 dX5_wrongBits_55 rfl (lv_at hl 3 rfl) ?_
    refine z_iald C wd 3 rfl (by omega) (by decide) dX5_wrongBits_56 ?_
    refine z_icmp_eq C (tgt := 63) dX5_wrongBits_57 (by decide) (by omega) (fun c_2 => ?_) (fun c_2 => ?_)
    · skip
      refine z_iinc C (lv' := [(3, .int (iI (k + 1))), (0, .ref w0), (1, .int (iI (mn (M 10) (M 7)))), (2, .int (iI x))]) hl 3 dX5_wrongBits_63 rfl (by decide) rfl (fun ls hl => ?_)
      refine z_goto C (tgt := 28) dX5_wrongBits_66 (by decide) ?_
      exact ih28 x (k + 1) ⟨(by omega), (by first | exact sm_zero h28_0.1 h28_1 (by first | exact if_pos (by omega) | exact if_neg (by omega)) | exact sm_one h28_0.1 h28_1 (by first | exact if_pos (by omega) | exact if_neg (by omega)))⟩ (by omega) H locs _ wd (lv_sub hl [1, 2, 3, 0] rfl)
    · skip
      refine z_iinc C (lv' := [(2, .int (iI (x + 1))), (0, .ref w0), (1, .int (iI (mn (M 10) (M 7)))), (3, .int (iI k))]) hl 2 dX5_wrongBits_60 rfl (by decide) rfl (fun ls hl => ?_)
      refine z_iinc C (lv' := [(3, .int (iI (k + 1))), (2, .int (iI (x + 1))), (0, .ref w0), (1, .int (iI (mn (M 10) (M 7))))]) hl 3 dX5_wrongBits_63 rfl (by decide) rfl (fun ls hl => ?_)
      refine z_goto C (tgt := 28) dX5_wrongBits_66 (by decide) ?_
      exact ih28 (x + 1) (k + 1) ⟨(by omega), (by first | exact sm_zero h28_0.1 h28_1 (by first | exact if_pos (by omega) | exact if_neg (by omega)) | exact sm_one h28_0.1 h28_1 (by first | exact if_pos (by omega) | exact if_neg (by omega)))⟩ (by omega) H locs _ wd (lv_sub hl [2, 3, 1, 0] rfl)
set_option maxRecDepth 100000 in
set_option maxHeartbeats 4000000 in
theorem c_typeA (l : Launch) (D : va_G) (cy cs : ClassId) (w0 w1 w2 t0 d0 d0k a0 a1 s0 s1 s2 s3 r0 r1 r2 r3 r4 : Nat) (iK n L : Int) (M : Int → Int) (t1 : Nat) (ty x : Int) (fv : Int → Int) (hx : 0 ≤ x ∧ x < 65536) (hty : 0 ≤ ty ∧ ty < 60) : zCi l D (zT cy cs) yX5_type wsX5_type ({ frames := 2, cells := 0, slots := 0, locals := 41 } : Room) [.ref w0, .int (iI x)] [zO w0 5 [.ref d0, .ref d0k, .int (iI iK), .ref w1, .int (iI n), .ref t0, .ref w2], zO t0 4 [.int (iI ty), .ref t1], zA cy t1 60 fv] (ty + 1) [zO w0 5 [.ref d0, .ref d0k, .int (iI iK), .ref w1, .int (iI n), .ref t0, .ref w2], zO t0 4 [.int (iI (ty + 1)), .ref t1], zA cy t1 60 (uZ fv ty (vc x))] := by
  intro sz
  refine zM_mk (cc := cX5_type) (maxL := 2) (ret := (some .int)) (own := RX5) (Qc := fun sz => va_Qi (fun r (_ : Unit) => r = iI (ty + 1)) (fun _ t => zQ D (zT cy cs) (va_A [zO w0 5 [.ref d0, .ref d0k, .int (iI iK), .ref w1, .int (iI n), .ref t0, .ref w2], zO t0 4 [.int (iI ty), .ref t1], zA cy t1 60 fv] sz) [zO w0 5 [.ref d0, .ref d0k, .int (iI iK), .ref w1, .int (iI n), .ref t0, .ref w2], zO t0 4 [.int (iI (ty + 1)), .ref t1], zA cy t1 60 (uZ fv ty (vc x))] t) (va_A [zO w0 5 [.ref d0, .ref d0k, .int (iI iK), .ref w1, .int (iI n), .ref t0, .ref w2], zO t0 4 [.int (iI ty), .ref t1], zA cy t1 60 fv] sz)) (by decide) rfl rfl (Nat.le_of_ble_eq_true rfl) rfl sz ?_
  intro p e s m args below meth c ls C hr hlk hnm hl hsz hA wd
  subst hsz
  have hl : lv_has ls 2 [(0, .ref w0), (1, .int (iI x))] := hl
  have iX4 : ∀ w ∈ u_ws RX4 TX4 2, w ∈ wsX5_type := by decide +kernel
  have iX5 : ∀ w ∈ u_ws RX5 TX5 7, w ∈ wsX5_type := by decide +kernel
  have L34 := C.2.2.2.2 (.fieldLink RX5 34 "LikelyWalks" "text" "LLikelyWalks$Text;") (by decide +kernel)
  have L87 := C.2.2.2.2 (.fieldLink RX5 87 "LikelyWalks$Text" "length" "I") (by decide +kernel)
  refine lv_aload_n C.1 C.2.1 dX5_type_0 rfl (lv_at hl 0 rfl) ?_
  refine z_get C wd (Cn := RX5) (TT := TX5) (N := 7) (ci := 5) iX5 0 rfl rfl 5 (by decide) L34 (fun _ h => h) rfl dX5_type_1 ?_
  refine z_get C wd (Cn := RX4) (TT := TX4) (N := 2) (ci := 4) iX4 1 rfl rfl 0 (by decide) L87 (fun _ h => h) rfl dX5_type_4 ?_
  refine z_bipush C dX5_type_7 (by decide +kernel) ?_
  refine z_icmp_lt C (tgt := 15) dX5_type_9 (by decide) (by omega) (fun c_1 => ?_) (fun c_1 => ?_)
  · skip
    refine lv_aload_n C.1 C.2.1 dX5_type_15 rfl (lv_at hl 0 rfl) ?_
    refine z_get C wd (Cn := RX5) (TT := TX5) (N := 7) (ci := 5) iX5 0 rfl rfl 5 (by decide) L34 (fun _ h => h) rfl dX5_type_16 ?_
    refine lv_iload_n C.1 C.2.1 dX5_type_19 rfl (lv_at hl 1 rfl) ?_
    refine z_cvv C wd hA (As := [.int (iI x)]) (rest := []) (ws2 := [zO w0 5 [.ref d0, .ref d0k, .int (iI iK), .ref w1, .int (iI n), .ref t0, .ref w2], zO t0 4 [.int (iI (ty + 1)), .ref t1], zA cy t1 60 (uZ fv ty (vc x))]) (c_X4_append l D cy cs t0 t1 ty x fv (by omega) (by omega)) (cwV 1 C.2.2.2.2 gX5_type_X4_append rfl rfl rfl (by decide +kernel) ⟨Nat.le_of_ble_eq_true rfl, Nat.le_of_ble_eq_true rfl⟩) [1, 2] rfl rfl rfl ⟨rfl, [0], [zO w0 5 [.ref d0, .ref d0k, .int (iI iK), .ref w1, .int (iI n), .ref t0, .ref w2]], 3, rfl, rfl, rfl, by decide +kernel⟩ rfl rfl rfl rfl (Nat.le_of_ble_eq_true rfl) hl.1 dX5_type_20 ⟨Nat.zero_le _, Nat.zero_le _⟩ (fun H locs wd => ?_)
    refine lv_aload_n C.1 C.2.1 dX5_type_23 rfl (lv_at hl 0 rfl) ?_
    refine z_get C wd (Cn := RX5) (TT := TX5) (N := 7) (ci := 5) iX5 0 rfl rfl 5 (by decide) L34 (fun _ h => h) rfl dX5_type_24 ?_
    refine z_get C wd (Cn := RX4) (TT := TX4) (N := 2) (ci := 4) iX4 1 rfl rfl 0 (by decide) L87 (fun _ h => h) rfl dX5_type_27 ?_
    exact z_iret C hr hlk wd (by first | rfl | omega) dX5_type_30
  · skip
    exact False.elim (by omega)
set_option maxRecDepth 100000 in
set_option maxHeartbeats 4000000 in
theorem c_typeB (l : Launch) (D : va_G) (cy cs : ClassId) (w0 w1 w2 t0 d0 d0k a0 a1 s0 s1 s2 s3 r0 r1 r2 r3 r4 : Nat) (iK n L : Int) (M : Int → Int) (t1 : Nat) (ty x : Int) (hx : 0 ≤ x ∧ x < 65536) (hty : ty = 60) : zCi l D (zT cy cs) yX5_type wsX5_type ({ frames := 2, cells := 0, slots := 0, locals := 41 } : Room) [.ref w0, .int (iI x)] [zO w0 5 [.ref d0, .ref d0k, .int (iI iK), .ref w1, .int (iI n), .ref t0, .ref w2], zO t0 4 [.int (iI ty), .ref t1]] (-3) [zO w0 5 [.ref d0, .ref d0k, .int (iI iK), .ref w1, .int (iI n), .ref t0, .ref w2], zO t0 4 [.int (iI ty), .ref t1]] := by
  intro sz
  refine zM_mk (cc := cX5_type) (maxL := 2) (ret := (some .int)) (own := RX5) (Qc := fun sz => va_Qi (fun r (_ : Unit) => r = iI (-3)) (fun _ t => zQ D (zT cy cs) (va_A [zO w0 5 [.ref d0, .ref d0k, .int (iI iK), .ref w1, .int (iI n), .ref t0, .ref w2], zO t0 4 [.int (iI ty), .ref t1]] sz) [zO w0 5 [.ref d0, .ref d0k, .int (iI iK), .ref w1, .int (iI n), .ref t0, .ref w2], zO t0 4 [.int (iI ty), .ref t1]] t) (va_A [zO w0 5 [.ref d0, .ref d0k, .int (iI iK), .ref w1, .int (iI n), .ref t0, .ref w2], zO t0 4 [.int (iI ty), .ref t1]] sz)) (by decide) rfl rfl (Nat.le_of_ble_eq_true rfl) rfl sz ?_
  intro p e s m args below meth c ls C hr hlk hnm hl hsz hA wd
  subst hsz
  have hl : lv_has ls 2 [(0, .ref w0), (1, .int (iI x))] := hl
  have iX4 : ∀ w ∈ u_ws RX4 TX4 2, w ∈ wsX5_type := by decide +kernel
  have iX5 : ∀ w ∈ u_ws RX5 TX5 7, w ∈ wsX5_type := by decide +kernel
  have L34 := C.2.2.2.2 (.fieldLink RX5 34 "LikelyWalks" "text" "LLikelyWalks$Text;") (by decide +kernel)
  have L87 := C.2.2.2.2 (.fieldLink RX5 87 "LikelyWalks$Text" "length" "I") (by decide +kernel)
  refine lv_aload_n C.1 C.2.1 dX5_type_0 rfl (lv_at hl 0 rfl) ?_
  refine z_get C wd (Cn := RX5) (TT := TX5) (N := 7) (ci := 5) iX5 0 rfl rfl 5 (by decide) L34 (fun _ h => h) rfl dX5_type_1 ?_
  refine z_get C wd (Cn := RX4) (TT := TX4) (N := 2) (ci := 4) iX4 1 rfl rfl 0 (by decide) L87 (fun _ h => h) rfl dX5_type_4 ?_
  refine z_bipush C dX5_type_7 (by decide +kernel) ?_
  refine z_icmp_lt C (tgt := 15) dX5_type_9 (by decide) (by omega) (fun c_1 => ?_) (fun c_1 => ?_)
  · skip
    exact False.elim (by omega)
  · skip
    refine z_bipush C dX5_type_12 (by decide +kernel) ?_
    exact z_iret C hr hlk wd (by first | rfl | omega) dX5_type_14
set_option maxRecDepth 100000 in
set_option maxHeartbeats 4000000 in
theorem c_X5_clearText (l : Launch) (D : va_G) (cy cs : ClassId) (w0 w1 w2 t0 d0 d0k a0 a1 s0 s1 s2 s3 r0 r1 r2 r3 r4 : Nat) (iK n L : Int) (M : Int → Int) (t1 : Nat) (ty : Int) (hty : 0 ≤ ty ∧ ty ≤ 60) : zCi l D (zT cy cs) yX5_clearText wsX5_clearText ({ frames := 0, cells := 0, slots := 0, locals := 0 } : Room) [.ref w0] [zO w0 5 [.ref d0, .ref d0k, .int (iI iK), .ref w1, .int (iI n), .ref t0, .ref w2], zO t0 4 [.int (iI ty), .ref t1]] ty [zO w0 5 [.ref d0, .ref d0k, .int (iI iK), .ref w1, .int (iI n), .ref t0, .ref w2], zO t0 4 [.int (iI 0), .ref t1]] := by
  intro sz
  refine zM_mk (cc := cX5_clearText) (maxL := 2) (ret := (some .int)) (own := RX5) (Qc := fun sz => va_Qi (fun r (_ : Unit) => r = iI ty) (fun _ t => zQ D (zT cy cs) (va_A [zO w0 5 [.ref d0, .ref d0k, .int (iI iK), .ref w1, .int (iI n), .ref t0, .ref w2], zO t0 4 [.int (iI ty), .ref t1]] sz) [zO w0 5 [.ref d0, .ref d0k, .int (iI iK), .ref w1, .int (iI n), .ref t0, .ref w2], zO t0 4 [.int (iI 0), .ref t1]] t) (va_A [zO w0 5 [.ref d0, .ref d0k, .int (iI iK), .ref w1, .int (iI n), .ref t0, .ref w2], zO t0 4 [.int (iI ty), .ref t1]] sz)) (by decide) rfl rfl (Nat.le_of_ble_eq_true rfl) rfl sz ?_
  intro p e s m args below meth c ls C hr hlk hnm hl hsz hA wd
  subst hsz
  have hl : lv_has ls 2 [(0, .ref w0)] := hl
  have iX4 : ∀ w ∈ u_ws RX4 TX4 2, w ∈ wsX5_clearText := by decide +kernel
  have iX5 : ∀ w ∈ u_ws RX5 TX5 7, w ∈ wsX5_clearText := by decide +kernel
  have L34 := C.2.2.2.2 (.fieldLink RX5 34 "LikelyWalks" "text" "LLikelyWalks$Text;") (by decide +kernel)
  have L87 := C.2.2.2.2 (.fieldLink RX5 87 "LikelyWalks$Text" "length" "I") (by decide +kernel)
  refine lv_aload_n C.1 C.2.1 dX5_clearText_0 rfl (lv_at hl 0 rfl) ?_
  refine z_get C wd (Cn := RX5) (TT := TX5) (N := 7) (ci := 5) iX5 0 rfl rfl 5 (by decide) L34 (fun _ h => h) rfl dX5_clearText_1 ?_
  refine z_get C wd (Cn := RX4) (TT := TX4) (N := 2) (ci := 4) iX4 1 rfl rfl 0 (by decide) L87 (fun _ h => h) rfl dX5_clearText_4 ?_
  refine lv_istore_n (lv' := [(1, .int (iI ty)), (0, .ref w0)]) C.1 C.2.1 dX5_clearText_7 rfl hl (by decide) rfl (fun ls hl => ?_)
  refine lv_aload_n C.1 C.2.1 dX5_clearText_8 rfl (lv_at hl 1 rfl) ?_
  refine z_get C wd (Cn := RX5) (TT := TX5) (N := 7) (ci := 5) iX5 0 rfl rfl 5 (by decide) L34 (fun _ h => h) rfl dX5_clearText_9 ?_
  refine z_iconst C dX5_clearText_12 ?_
  refine z_put C wd (Cn := RX4) (TT := TX4) (N := 2) (ci := 4) (ws2 := [zO w0 5 [.ref d0, .ref d0k, .int (iI iK), .ref w1, .int (iI n), .ref t0, .ref w2], zO t0 4 [.int (iI 0), .ref t1]]) iX4 tyX4 tyX4_ok nmX4 1 rfl rfl 0 (by decide) L87 (fun _ h => h) rfl (ty := .int) (by decide +kernel) rfl rfl (Nat.le_of_ble_eq_true rfl) rfl dX5_clearText_13 (fun H locs wd => ?_)
  refine lv_iload_n C.1 C.2.1 dX5_clearText_16 rfl (lv_at hl 0 rfl) ?_
  exact z_iret C hr hlk wd (by first | rfl | omega) dX5_clearText_17
end
