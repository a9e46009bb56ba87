set_option maxRecDepth 100000 in
set_option maxHeartbeats 4000000 in
theorem c_X5_takeB (l : Launch) (D : va_G) (cy cs : ClassId) (w0 w1 w2 t0 d0 d0k a0 a1 s0 s1 s2 s3 r0 r1 r2 r3 r4 : Nat) (iK n L : Int) (M : Int → Int) (q0 : Int) (h7 : 0 ≤ M 7 ∧ M 7 ≤ 80) (h9 : 0 ≤ M 9 ∧ M 9 ≤ 80) (hL : 0 ≤ L ∧ L ≤ 80) (h11 : M 11 = 0 ∨ M 11 = 1) (hq0 : -2147483648 ≤ q0 ∧ q0 < 2147483648) (hno : ¬ (1 ≤ q0 ∧ q0 ≤ 80) ∨ M 11 = 1 ∨ M 7 < L + q0 ∨ 80 < M 9 + q0) : zCi l D (zT cy cs) yX5_take wsX5_take ({ frames := 0, cells := 0, slots := 0, locals := 0 } : Room) [.ref w0, .int (iI q0)] [zO w0 5 [.ref d0, .ref d0k, .int (iI iK), .ref w1, .int (iI n), .ref t0, .ref w2], zO d0 3 [.int (iI (M 5)), .ref a0, .ref s0, .ref r0], zO s0 2 [.int (iI (M 6)), .int (iI (M 7)), .ref s1, .ref s2, .ref s3], zO r0 1 [.int (iI (M 9)), .int (iI L), .int (iI (M 10)), .int (iI (M 11)), .ref r1, .ref r2, .ref r3, .ref r4]] (tkNo M L q0) [zO w0 5 [.ref d0, .ref d0k, .int (iI iK), .ref w1, .int (iI n), .ref t0, .ref w2], zO d0 3 [.int (iI (M 5)), .ref a0, .ref s0, .ref r0], zO s0 2 [.int (iI (M 6)), .int (iI (M 7)), .ref s1, .ref s2, .ref s3], zO r0 1 [.int (iI (M 9)), .int (iI L), .int (iI (M 10)), .int (iI (M 11)), .ref r1, .ref r2, .ref r3, .ref r4]] := by
  intro sz
  refine zM_mk (cc := cX5_take) (maxL := 5) (ret := (some .int)) (own := RX5) (Qc := fun sz => va_Qi (fun r (_ : Unit) => r = iI (tkNo M L q0)) (fun _ t9 => zQ D (zT cy cs) (va_A [zO w0 5 [.ref d0, .ref d0k, .int (iI iK), .ref w1, .int (iI n), .ref t0, .ref w2], zO d0 3 [.int (iI (M 5)), .ref a0, .ref s0, .ref r0], zO s0 2 [.int (iI (M 6)), .int (iI (M 7)), .ref s1, .ref s2, .ref s3], zO r0 1 [.int (iI (M 9)), .int (iI L), .int (iI (M 10)), .int (iI (M 11)), .ref r1, .ref r2, .ref r3, .ref r4]] sz) [zO w0 5 [.ref d0, .ref d0k, .int (iI iK), .ref w1, .int (iI n), .ref t0, .ref w2], zO d0 3 [.int (iI (M 5)), .ref a0, .ref s0, .ref r0], zO s0 2 [.int (iI (M 6)), .int (iI (M 7)), .ref s1, .ref s2, .ref s3], zO r0 1 [.int (iI (M 9)), .int (iI L), .int (iI (M 10)), .int (iI (M 11)), .ref r1, .ref r2, .ref r3, .ref r4]] t9) (va_A [zO w0 5 [.ref d0, .ref d0k, .int (iI iK), .ref w1, .int (iI n), .ref t0, .ref w2], zO d0 3 [.int (iI (M 5)), .ref a0, .ref s0, .ref r0], zO s0 2 [.int (iI (M 6)), .int (iI (M 7)), .ref s1, .ref s2, .ref s3], zO r0 1 [.int (iI (M 9)), .int (iI L), .int (iI (M 10)), .int (iI (M 11)), .ref r1, .ref r2, .ref r3, .ref r4]] sz)) (by decide) rfl rfl (Nat.le_of_ble_eq_true rfl) rfl sz ?_
  intro p e s m args below meth c ls C hr hlk hnm hl hsz hA wd
  subst hsz
  have hl : lv_has ls 5 [(0, .ref w0), (1, .int (iI q0))] := hl
  have iX1 : ∀ w ∈ u_ws RX1 TX1 8, w ∈ wsX5_take := by decide +kernel
  have iX2 : ∀ w ∈ u_ws RX2 TX2 5, w ∈ wsX5_take := by decide +kernel
  have iX3 : ∀ w ∈ u_ws RX3 TX3 4, w ∈ wsX5_take := by decide +kernel
  have iX5 : ∀ w ∈ u_ws RX5 TX5 7, w ∈ wsX5_take := by decide +kernel
  have L12 := C.2.2.2.2 (.fieldLink RX5 12 "LikelyWalks" "now" "LLikelyWalks$State;") (by decide +kernel)
  have L55 := C.2.2.2.2 (.fieldLink RX5 55 "LikelyWalks$State" "sender" "LLikelyWalks$Sender;") (by decide +kernel)
  have L64 := C.2.2.2.2 (.fieldLink RX5 64 "LikelyWalks$State" "reader" "LLikelyWalks$Reader;") (by decide +kernel)
  have L74 := C.2.2.2.2 (.fieldLink RX5 74 "LikelyWalks$Reader" "steps" "I") (by decide +kernel)
  have L84 := C.2.2.2.2 (.fieldLink RX5 84 "LikelyWalks$Sender" "bitCount" "I") (by decide +kernel)
  have L110 := C.2.2.2.2 (.fieldLink RX5 110 "LikelyWalks$Reader" "isFinished" "Z") (by decide +kernel)
  have L113 := C.2.2.2.2 (.fieldLink RX5 113 "LikelyWalks$Reader" "lineSteps" "I") (by decide +kernel)
  refine lv_aload_n C.1 C.2.1 dX5_take_0 rfl (lv_at hl 0 rfl) ?_
  refine z_get C wd (Cn := RX5) (TT := TX5) (N := 7) (ci := 5) iX5 0 rfl rfl 0 (by decide) L12 (fun _ h => h) rfl dX5_take_1 ?_
  refine z_get C wd (Cn := RX3) (TT := TX3) (N := 4) (ci := 3) iX3 1 rfl rfl 3 (by decide) L64 (fun _ h => h) rfl dX5_take_4 ?_
  refine lv_astore_n (lv' := [(2, .ref r0), (0, .ref w0), (1, .int (iI q0))]) C.1 C.2.1 dX5_take_7 rfl hl (by decide) rfl (fun ls hl => ?_)
  refine lv_iload_n C.1 C.2.1 dX5_take_8 rfl (lv_at hl 2 rfl) ?_
  refine z_iconst C dX5_take_9 ?_
  refine z_icmp_lt C (tgt := 19) dX5_take_10 (by decide) (by omega) (fun c_1 => ?_) (fun c_1 => ?_)
  · skip
    refine z_bipush C dX5_take_19 (by decide +kernel) ?_
    exact z_iret C hr hlk wd (by unfold tkNo; (repeat (first | rw [if_pos (by omega)] | rw [if_neg (by omega)])); first | done | rfl) dX5_take_21
  · skip
    refine lv_iload_n C.1 C.2.1 dX5_take_13 rfl (lv_at hl 2 rfl) ?_
    refine z_bipush C dX5_take_14 (by decide +kernel) ?_
    refine z_icmp_le C (tgt := 22) dX5_take_16 (by decide) (by omega) (fun c_2 => ?_) (fun c_2 => ?_)
    · skip
      refine lv_aload_n C.1 C.2.1 dX5_take_22 rfl (lv_at hl 0 rfl) ?_
      refine z_get C wd (Cn := RX1) (TT := TX1) (N := 8) (ci := 1) iX1 3 rfl rfl 3 (by decide) L110 (fun _ h => h) rfl dX5_take_23 ?_
      refine z_if_ne C (tgt := 48) dX5_take_26 (by decide) (by omega) (fun c_3 => ?_) (fun c_3 => ?_)
      · skip
        refine z_bipush C dX5_take_48 (by decide +kernel) ?_
        exact z_iret C hr hlk wd (by unfold tkNo; (repeat (first | rw [if_pos (by omega)] | rw [if_neg (by omega)])); first | done | rfl) dX5_take_50
      · skip
        refine lv_aload_n C.1 C.2.1 dX5_take_29 rfl (lv_at hl 0 rfl) ?_
        refine z_get C wd (Cn := RX1) (TT := TX1) (N := 8) (ci := 1) iX1 3 rfl rfl 1 (by decide) L113 (fun _ h => h) rfl dX5_take_30 ?_
        refine lv_iload_n C.1 C.2.1 dX5_take_33 rfl (lv_at hl 2 rfl) ?_
        refine z_iadd C dX5_take_34 ?_
        refine lv_aload_n C.1 C.2.1 dX5_take_35 rfl (lv_at hl 1 rfl) ?_
        refine z_get C wd (Cn := RX5) (TT := TX5) (N := 7) (ci := 5) iX5 0 rfl rfl 0 (by decide) L12 (fun _ h => h) rfl dX5_take_36 ?_
        refine z_get C wd (Cn := RX3) (TT := TX3) (N := 4) (ci := 3) iX3 1 rfl rfl 2 (by decide) L55 (fun _ h => h) rfl dX5_take_39 ?_
        refine z_get C wd (Cn := RX2) (TT := TX2) (N := 5) (ci := 2) iX2 2 rfl rfl 1 (by decide) L84 (fun _ h => h) rfl dX5_take_42 ?_
        refine z_icmp_le C (tgt := 51) dX5_take_45 (by decide) (by omega) (fun c_4 => ?_) (fun c_4 => ?_)
        · skip
          refine lv_aload_n C.1 C.2.1 dX5_take_51 rfl (lv_at hl 0 rfl) ?_
          refine z_get C wd (Cn := RX1) (TT := TX1) (N := 8) (ci := 1) iX1 3 rfl rfl 0 (by decide) L74 (fun _ h => h) rfl dX5_take_52 ?_
          refine lv_iload_n C.1 C.2.1 dX5_take_55 rfl (lv_at hl 2 rfl) ?_
          refine z_iadd C dX5_take_56 ?_
          refine z_bipush C dX5_take_57 (by decide +kernel) ?_
          refine z_icmp_le C (tgt := 65) dX5_take_59 (by decide) (by omega) (fun c_5 => ?_) (fun c_5 => ?_)
          · skip
            exact False.elim (by omega)
          · skip
            refine z_bipush C dX5_take_62 (by decide +kernel) ?_
            exact z_iret C hr hlk wd (by unfold tkNo; (repeat (first | rw [if_pos (by omega)] | rw [if_neg (by omega)])); first | done | rfl) dX5_take_64
        · skip
          refine z_bipush C dX5_take_48 (by decide +kernel) ?_
          exact z_iret C hr hlk wd (by unfold tkNo; (repeat (first | rw [if_pos (by omega)] | rw [if_neg (by omega)])); first | done | rfl) dX5_take_50
    · skip
      refine z_bipush C dX5_take_19 (by decide +kernel) ?_
      exact z_iret C hr hlk wd (by unfold tkNo; (repeat (first | rw [if_pos (by omega)] | rw [if_neg (by omega)])); first | done | rfl) dX5_take_21
set_option maxRecDepth 100000 in
set_option maxHeartbeats 4000000 in
theorem c_X5_hearB (l : Launch) (D : va_G) (cy cs : ClassId) (w0 w1 w2 t0 d0 d0k a0 a1 s0 s1 s2 s3 r0 r1 r2 r3 r4 : Nat) (iK n L : Int) (M : Int → Int) (t1 : Nat) (ty : Int) (fv : Int → Int) (ho : 2 ≤ M 1 ∧ M 1 ≤ 3) (h9 : 0 ≤ M 9 ∧ M 9 ≤ 80) (h11 : M 11 = 0 ∨ M 11 = 1) (hty : 0 ≤ ty ∧ ty ≤ 60) (hfv : ∀ k : Int, 0 ≤ k → k < 60 → 0 ≤ fv k ∧ fv k ≤ 3) (hfl : -1 ≤ ff fv ty 2 ∧ ff fv ty 2 ≤ 60) (hno : ff fv ty 2 ≠ -1 ∨ ¬ ty % M 1 = 0 ∨ M 11 = 1 ∨ 80 < M 9 + ty / M 1) : zCi l D (zT cy cs) yX5_hear wsX5_hear ({ frames := 1, cells := 0, slots := 0, locals := 22 } : Room) [.ref w0] [zO w0 5 [.ref d0, .ref d0k, .int (iI iK), .ref w1, .int (iI n), .ref t0, .ref w2], zO d0 3 [.int (iI (M 5)), .ref a0, .ref s0, .ref r0], zO a0 0 [.int (iI (M 0)), .int (iI (M 1)), .ref a1], zO r0 1 [.int (iI (M 9)), .int (iI L), .int (iI (M 10)), .int (iI (M 11)), .ref r1, .ref r2, .ref r3, .ref r4], zO t0 4 [.int (iI ty), .ref t1], zA cy t1 60 fv] (hrNo M (ff fv ty 2) ty) [zO w0 5 [.ref d0, .ref d0k, .int (iI iK), .ref w1, .int (iI n), .ref t0, .ref w2], zO d0 3 [.int (iI (M 5)), .ref a0, .ref s0, .ref r0], zO a0 0 [.int (iI (M 0)), .int (iI (M 1)), .ref a1], zO r0 1 [.int (iI (M 9)), .int (iI L), .int (iI (M 10)), .int (iI (M 11)), .ref r1, .ref r2, .ref r3, .ref r4], zO t0 4 [.int (iI ty), .ref t1], zA cy t1 60 fv] := by
  intro sz
  refine zM_mk (cc := cX5_hear) (maxL := 6) (ret := (some .int)) (own := RX5) (Qc := fun sz => va_Qi (fun r (_ : Unit) => r = iI (hrNo M (ff fv ty 2) ty)) (fun _ t9 => zQ D (zT cy cs) (va_A [zO w0 5 [.ref d0, .ref d0k, .int (iI iK), .ref w1, .int (iI n), .ref t0, .ref w2], zO d0 3 [.int (iI (M 5)), .ref a0, .ref s0, .ref r0], zO a0 0 [.int (iI (M 0)), .int (iI (M 1)), .ref a1], zO r0 1 [.int (iI (M 9)), .int (iI L), .int (iI (M 10)), .int (iI (M 11)), .ref r1, .ref r2, .ref r3, .ref r4], zO t0 4 [.int (iI ty), .ref t1], zA cy t1 60 fv] sz) [zO w0 5 [.ref d0, .ref d0k, .int (iI iK), .ref w1, .int (iI n), .ref t0, .ref w2], zO d0 3 [.int (iI (M 5)), .ref a0, .ref s0, .ref r0], zO a0 0 [.int (iI (M 0)), .int (iI (M 1)), .ref a1], zO r0 1 [.int (iI (M 9)), .int (iI L), .int (iI (M 10)), .int (iI (M 11)), .ref r1, .ref r2, .ref r3, .ref r4], zO t0 4 [.int (iI ty), .ref t1], zA cy t1 60 fv] t9) (va_A [zO w0 5 [.ref d0, .ref d0k, .int (iI iK), .ref w1, .int (iI n), .ref t0, .ref w2], zO d0 3 [.int (iI (M 5)), .ref a0, .ref s0, .ref r0], zO a0 0 [.int (iI (M 0)), .int (iI (M 1)), .ref a1], zO r0 1 [.int (iI (M 9)), .int (iI L), .int (iI (M 10)), .int (iI (M 11)), .ref r1, .ref r2, .ref r3, .ref r4], zO t0 4 [.int (iI ty), .ref t1], zA cy t1 60 fv] sz)) (by decide) rfl rfl (Nat.le_of_ble_eq_true rfl) rfl sz ?_
  intro p e s m args below meth c ls C hr hlk hnm hl hsz hA wd
  subst hsz
  have hl : lv_has ls 6 [(0, .ref w0)] := hl
  have iX0 : ∀ w ∈ u_ws RX0 TX0 3, w ∈ wsX5_hear := by decide +kernel
  have iX1 : ∀ w ∈ u_ws RX1 TX1 8, w ∈ wsX5_hear := by decide +kernel
  have iX3 : ∀ w ∈ u_ws RX3 TX3 4, w ∈ wsX5_hear := by decide +kernel
  have iX4 : ∀ w ∈ u_ws RX4 TX4 2, w ∈ wsX5_hear := by decide +kernel
  have iX5 : ∀ w ∈ u_ws RX5 TX5 7, w ∈ wsX5_hear := by decide +kernel
  have L12 := C.2.2.2.2 (.fieldLink RX5 12 "LikelyWalks" "now" "LLikelyWalks$State;") (by decide +kernel)
  have L34 := C.2.2.2.2 (.fieldLink RX5 34 "LikelyWalks" "text" "LLikelyWalks$Text;") (by decide +kernel)
  have L45 := C.2.2.2.2 (.fieldLink RX5 45 "LikelyWalks$State" "code" "LLikelyWalks$Code;") (by decide +kernel)
  have L64 := C.2.2.2.2 (.fieldLink RX5 64 "LikelyWalks$State" "reader" "LLikelyWalks$Reader;") (by decide +kernel)
  have L71 := C.2.2.2.2 (.fieldLink RX5 71 "LikelyWalks$Code" "outputs" "I") (by decide +kernel)
  have L74 := C.2.2.2.2 (.fieldLink RX5 74 "LikelyWalks$Reader" "steps" "I") (by decide +kernel)
  have L87 := C.2.2.2.2 (.fieldLink RX5 87 "LikelyWalks$Text" "length" "I") (by decide +kernel)
  have L110 := C.2.2.2.2 (.fieldLink RX5 110 "LikelyWalks$Reader" "isFinished" "Z") (by decide +kernel)
  have hld := lin_div (a := ty) ho
  have hlp := lin_pos (a := ty) ho hty.1
  refine lv_aload_n C.1 C.2.1 dX5_hear_0 rfl (lv_at hl 0 rfl) ?_
  refine z_get C wd (Cn := RX5) (TT := TX5) (N := 7) (ci := 5) iX5 0 rfl rfl 0 (by decide) L12 (fun _ h => h) rfl dX5_hear_1 ?_
  refine z_get C wd (Cn := RX3) (TT := TX3) (N := 4) (ci := 3) iX3 1 rfl rfl 3 (by decide) L64 (fun _ h => h) rfl dX5_hear_4 ?_
  refine lv_astore_n (lv' := [(1, .ref r0), (0, .ref w0)]) C.1 C.2.1 dX5_hear_7 rfl hl (by decide) rfl (fun ls hl => ?_)
  refine lv_aload_n C.1 C.2.1 dX5_hear_8 rfl (lv_at hl 1 rfl) ?_
  refine z_get C wd (Cn := RX5) (TT := TX5) (N := 7) (ci := 5) iX5 0 rfl rfl 5 (by decide) L34 (fun _ h => h) rfl dX5_hear_9 ?_
  refine z_iconst C dX5_hear_12 ?_
  refine z_cvi C wd hA (As := [.int (iI 2)]) (rest := []) (ws2 := [zO w0 5 [.ref d0, .ref d0k, .int (iI iK), .ref w1, .int (iI n), .ref t0, .ref w2], zO d0 3 [.int (iI (M 5)), .ref a0, .ref s0, .ref r0], zO a0 0 [.int (iI (M 0)), .int (iI (M 1)), .ref a1], zO r0 1 [.int (iI (M 9)), .int (iI L), .int (iI (M 10)), .int (iI (M 11)), .ref r1, .ref r2, .ref r3, .ref r4], zO t0 4 [.int (iI ty), .ref t1], zA cy t1 60 fv]) (c_X4_firstFault l D cy cs t0 t1 ty 2 fv (by omega) (by omega) hfv) (cwV 1 C.2.2.2.2 gX5_hear_X4_firstFault rfl rfl rfl (by decide +kernel) ⟨Nat.le_of_ble_eq_true rfl, Nat.le_of_ble_eq_true rfl⟩) [4, 5] rfl rfl rfl ⟨rfl, [0, 1, 2, 3], [zO w0 5 [.ref d0, .ref d0k, .int (iI iK), .ref w1, .int (iI n), .ref t0, .ref w2], zO d0 3 [.int (iI (M 5)), .ref a0, .ref s0, .ref r0], zO a0 0 [.int (iI (M 0)), .int (iI (M 1)), .ref a1], zO r0 1 [.int (iI (M 9)), .int (iI L), .int (iI (M 10)), .int (iI (M 11)), .ref r1, .ref r2, .ref r3, .ref r4]], 6, rfl, rfl, rfl, by decide +kernel⟩ rfl rfl rfl rfl (Nat.le_of_ble_eq_true rfl) hl.1 dX5_hear_13 ⟨Nat.zero_le _, Nat.zero_le _⟩ (fun H locs wd => ?_)
  refine lv_istore_n (lv' := [(2, .int (iI (ff fv ty 2))), (1, .ref r0), (0, .ref w0)]) C.1 C.2.1 dX5_hear_16 rfl hl (by decide) rfl (fun ls hl => ?_)
  refine lv_iload_n C.1 C.2.1 dX5_hear_17 rfl (lv_at hl 0 rfl) ?_
  refine z_iconst C dX5_hear_18 ?_
  refine z_icmp_eq C (tgt := 27) dX5_hear_19 (by decide) (by omega) (fun c_1 => ?_) (fun c_1 => ?_)
  · skip
    refine lv_aload_n C.1 C.2.1 dX5_hear_27 rfl (lv_at hl 2 rfl) ?_
    refine z_get C wd (Cn := RX5) (TT := TX5) (N := 7) (ci := 5) iX5 0 rfl rfl 0 (by decide) L12 (fun _ h => h) rfl dX5_hear_28 ?_
    refine z_get C wd (Cn := RX3) (TT := TX3) (N := 4) (ci := 3) iX3 1 rfl rfl 1 (by decide) L45 (fun _ h => h) rfl dX5_hear_31 ?_
    refine z_get C wd (Cn := RX0) (TT := TX0) (N := 3) (ci := 0) iX0 2 rfl rfl 1 (by decide) L71 (fun _ h => h) rfl dX5_hear_34 ?_
    refine lv_istore_n (lv' := [(3, .int (iI (M 1))), (2, .int (iI (ff fv ty 2))), (1, .ref r0), (0, .ref w0)]) C.1 C.2.1 dX5_hear_37 rfl hl (by decide) rfl (fun ls hl => ?_)
    refine lv_iload_n C.1 C.2.1 dX5_hear_38 rfl (lv_at hl 0 rfl) ?_
    refine z_if_le C (tgt := 54) dX5_hear_39 (by decide) (by omega) (fun c_2 => ?_) (fun c_2 => ?_)
    · skip
      exact False.elim (by omega)
    · skip
      refine lv_aload_n C.1 C.2.1 dX5_hear_42 rfl (lv_at hl 3 rfl) ?_
      refine z_get C wd (Cn := RX5) (TT := TX5) (N := 7) (ci := 5) iX5 0 rfl rfl 5 (by decide) L34 (fun _ h => h) rfl dX5_hear_43 ?_
      refine z_get C wd (Cn := RX4) (TT := TX4) (N := 2) (ci := 4) iX4 4 rfl rfl 0 (by decide) L87 (fun _ h => h) rfl dX5_hear_46 ?_
      refine lv_iload_n C.1 C.2.1 dX5_hear_49 rfl (lv_at hl 0 rfl) ?_
      refine z_idiv C dX5_hear_50 (by omega) ?_
      refine z_goto C (tgt := 55) dX5_hear_51 (by decide) ?_
      refine lv_istore (lv' := [(4, .int (iI (ty / (M 1)))), (3, .int (iI (M 1))), (2, .int (iI (ff fv ty 2))), (1, .ref r0), (0, .ref w0)]) C.1 C.2.1 dX5_hear_55 hl (by decide) rfl (fun ls hl => ?_)
      refine lv_iload C.1 C.2.1 dX5_hear_57 (lv_at hl 0 rfl) ?_
      refine lv_iload_n C.1 C.2.1 dX5_hear_59 rfl (lv_at hl 1 rfl) ?_
      refine z_imul C dX5_hear_60 ?_
      refine lv_aload_n C.1 C.2.1 dX5_hear_61 rfl (lv_at hl 4 rfl) ?_
      refine z_get C wd (Cn := RX5) (TT := TX5) (N := 7) (ci := 5) iX5 0 rfl rfl 5 (by decide) L34 (fun _ h => h) rfl dX5_hear_62 ?_
      refine z_get C wd (Cn := RX4) (TT := TX4) (N := 2) (ci := 4) iX4 4 rfl rfl 0 (by decide) L87 (fun _ h => h) rfl dX5_hear_65 ?_
      refine z_icmp_eq C (tgt := 74) dX5_hear_68 (by decide) (by omega) (fun c_3 => ?_) (fun c_3 => ?_)
      · skip
        refine lv_aload_n C.1 C.2.1 dX5_hear_74 rfl (lv_at hl 3 rfl) ?_
        refine z_get C wd (Cn := RX1) (TT := TX1) (N := 8) (ci := 1) iX1 3 rfl rfl 3 (by decide) L110 (fun _ h => h) rfl dX5_hear_75 ?_
        refine z_if_eq C (tgt := 84) dX5_hear_78 (by decide) (by omega) (fun c_4 => ?_) (fun c_4 => ?_)
        · skip
          refine lv_aload_n C.1 C.2.1 dX5_hear_84 rfl (lv_at hl 3 rfl) ?_
          refine z_get C wd (Cn := RX1) (TT := TX1) (N := 8) (ci := 1) iX1 3 rfl rfl 0 (by decide) L74 (fun _ h => h) rfl dX5_hear_85 ?_
          refine lv_iload C.1 C.2.1 dX5_hear_88 (lv_at hl 0 rfl) ?_
          refine z_iadd C dX5_hear_90 ?_
          refine z_bipush C dX5_hear_91 (by decide +kernel) ?_
          refine z_icmp_le C (tgt := 99) dX5_hear_93 (by decide) (by omega) (fun c_5 => ?_) (fun c_5 => ?_)
          · skip
            exact False.elim (by omega)
          · skip
            refine z_bipush C dX5_hear_96 (by decide +kernel) ?_
            exact z_iret C hr hlk wd (by unfold hrNo; (repeat (first | rw [if_pos (by omega)] | rw [if_neg (by omega)])); first | done | rfl) dX5_hear_98
        · skip
          refine z_bipush C dX5_hear_81 (by decide +kernel) ?_
          exact z_iret C hr hlk wd (by unfold hrNo; (repeat (first | rw [if_pos (by omega)] | rw [if_neg (by omega)])); first | done | rfl) dX5_hear_83
      · skip
        refine z_bipush C dX5_hear_71 (by decide +kernel) ?_
        exact z_iret C hr hlk wd (by unfold hrNo; (repeat (first | rw [if_pos (by omega)] | rw [if_neg (by omega)])); first | done | rfl) dX5_hear_73
  · skip
    refine z_bipush C dX5_hear_22 (by decide +kernel) ?_
    refine lv_iload_n C.1 C.2.1 dX5_hear_24 rfl (lv_at hl 0 rfl) ?_
    refine z_isub C dX5_hear_25 ?_
    exact z_iret C hr hlk wd (by unfold hrNo; (repeat (first | rw [if_pos (by omega)] | rw [if_neg (by omega)])); first | done | rfl) dX5_hear_26
set_option maxRecDepth 100000 in
set_option maxHeartbeats 4000000 in
theorem c_X5_finishB (l : Launch) (D : va_G) (cy cs : ClassId) (w0 w1 w2 t0 d0 d0k a0 a1 s0 s1 s2 s3 r0 r1 r2 r3 r4 : Nat) (iK n L : Int) (M : Int → Int) (be : Int) (hS : 0 ≤ M 9 ∧ M 9 ≤ 80) (hme : mtOk (sl M 572) (M 9)) (h11 : M 11 = 0 ∨ M 11 = 1) (hbe : 0 ≤ be ∧ be ≤ 1) (hno : M 11 = 1 ∨ (be = 1 ∧ sl M 572 0 < 0)) : zCi l D (zT cy cs) yX5_finish wsX5_finish ({ frames := 0, cells := 0, slots := 0, locals := 0 } : Room) [.ref w0, .int (iI be)] [zO w0 5 [.ref d0, .ref d0k, .int (iI iK), .ref w1, .int (iI n), .ref t0, .ref w2], zO d0 3 [.int (iI (M 5)), .ref a0, .ref s0, .ref r0], zO r0 1 [.int (iI (M 9)), .int (iI L), .int (iI (M 10)), .int (iI (M 11)), .ref r1, .ref r2, .ref r3, .ref r4], zA cy r2 32 (sl M 572)] (-4) [zO w0 5 [.ref d0, .ref d0k, .int (iI iK), .ref w1, .int (iI n), .ref t0, .ref w2], zO d0 3 [.int (iI (M 5)), .ref a0, .ref s0, .ref r0], zO r0 1 [.int (iI (M 9)), .int (iI L), .int (iI (M 10)), .int (iI (M 11)), .ref r1, .ref r2, .ref r3, .ref r4], zA cy r2 32 (sl M 572)] := by
  intro sz
  refine zM_mk (cc := cX5_finish) (maxL := 4) (ret := (some .int)) (own := RX5) (Qc := fun sz => va_Qi (fun r (_ : Unit) => r = iI (-4)) (fun _ t9 => zQ D (zT cy cs) (va_A [zO w0 5 [.ref d0, .ref d0k, .int (iI iK), .ref w1, .int (iI n), .ref t0, .ref w2], zO d0 3 [.int (iI (M 5)), .ref a0, .ref s0, .ref r0], zO r0 1 [.int (iI (M 9)), .int (iI L), .int (iI (M 10)), .int (iI (M 11)), .ref r1, .ref r2, .ref r3, .ref r4], zA cy r2 32 (sl M 572)] sz) [zO w0 5 [.ref d0, .ref d0k, .int (iI iK), .ref w1, .int (iI n), .ref t0, .ref w2], zO d0 3 [.int (iI (M 5)), .ref a0, .ref s0, .ref r0], zO r0 1 [.int (iI (M 9)), .int (iI L), .int (iI (M 10)), .int (iI (M 11)), .ref r1, .ref r2, .ref r3, .ref r4], zA cy r2 32 (sl M 572)] t9) (va_A [zO w0 5 [.ref d0, .ref d0k, .int (iI iK), .ref w1, .int (iI n), .ref t0, .ref w2], zO d0 3 [.int (iI (M 5)), .ref a0, .ref s0, .ref r0], zO r0 1 [.int (iI (M 9)), .int (iI L), .int (iI (M 10)), .int (iI (M 11)), .ref r1, .ref r2, .ref r3, .ref r4], zA cy r2 32 (sl M 572)] sz)) (by decide) rfl rfl (Nat.le_of_ble_eq_true rfl) rfl sz ?_
  intro p e s m args below meth c ls C hr hlk hnm hl hsz hA wd
  subst hsz
  have hl : lv_has ls 4 [(0, .ref w0), (1, .int (iI be))] := hl
  have iX1 : ∀ w ∈ u_ws RX1 TX1 8, w ∈ wsX5_finish := by decide +kernel
  have iX3 : ∀ w ∈ u_ws RX3 TX3 4, w ∈ wsX5_finish := by decide +kernel
  have iX5 : ∀ w ∈ u_ws RX5 TX5 7, w ∈ wsX5_finish := by decide +kernel
  have L12 := C.2.2.2.2 (.fieldLink RX5 12 "LikelyWalks" "now" "LLikelyWalks$State;") (by decide +kernel)
  have L64 := C.2.2.2.2 (.fieldLink RX5 64 "LikelyWalks$State" "reader" "LLikelyWalks$Reader;") (by decide +kernel)
  have L110 := C.2.2.2.2 (.fieldLink RX5 110 "LikelyWalks$Reader" "isFinished" "Z") (by decide +kernel)
  have L123 := C.2.2.2.2 (.fieldLink RX5 123 "LikelyWalks$Reader" "metrics" "[I") (by decide +kernel)
  have hx := hme 0 (by omega) (by omega)
  refine lv_aload_n C.1 C.2.1 dX5_finish_0 rfl (lv_at hl 0 rfl) ?_
  refine z_get C wd (Cn := RX5) (TT := TX5) (N := 7) (ci := 5) iX5 0 rfl rfl 0 (by decide) L12 (fun _ h => h) rfl dX5_finish_1 ?_
  refine z_get C wd (Cn := RX3) (TT := TX3) (N := 4) (ci := 3) iX3 1 rfl rfl 3 (by decide) L64 (fun _ h => h) rfl dX5_finish_4 ?_
  refine lv_astore_n (lv' := [(2, .ref r0), (0, .ref w0), (1, .int (iI be))]) C.1 C.2.1 dX5_finish_7 rfl hl (by decide) rfl (fun ls hl => ?_)
  refine lv_aload_n C.1 C.2.1 dX5_finish_8 rfl (lv_at hl 0 rfl) ?_
  refine z_get C wd (Cn := RX1) (TT := TX1) (N := 8) (ci := 1) iX1 2 rfl rfl 3 (by decide) L110 (fun _ h => h) rfl dX5_finish_9 ?_
  refine z_if_ne C (tgt := 29) dX5_finish_12 (by decide) (by omega) (fun c_1 => ?_) (fun c_1 => ?_)
  · skip
    refine z_bipush C dX5_finish_29 (by decide +kernel) ?_
    exact z_iret C hr hlk wd rfl dX5_finish_31
  · skip
    refine lv_iload_n C.1 C.2.1 dX5_finish_15 rfl (lv_at hl 2 rfl) ?_
    refine z_if_eq C (tgt := 32) dX5_finish_16 (by decide) (by omega) (fun c_2 => ?_) (fun c_2 => ?_)
    · skip
      exact False.elim (by omega)
    · skip
      refine lv_aload_n C.1 C.2.1 dX5_finish_19 rfl (lv_at hl 0 rfl) ?_
      refine z_get C wd (Cn := RX1) (TT := TX1) (N := 8) (ci := 1) iX1 2 rfl rfl 5 (by decide) L123 (fun _ h => h) rfl dX5_finish_20 ?_
      refine z_iconst C dX5_finish_23 ?_
      refine z_iald C wd 3 rfl (by omega) (by decide) dX5_finish_24 ?_
      refine z_iconst C dX5_finish_25 ?_
      refine z_icmp_ne C (tgt := 32) dX5_finish_26 (by decide) (by omega) (fun c_3 => ?_) (fun c_3 => ?_)
      · skip
        exact False.elim (by omega)
      · skip
        refine z_bipush C dX5_finish_29 (by decide +kernel) ?_
        exact z_iret C hr hlk wd rfl dX5_finish_31
set_option maxRecDepth 100000 in
set_option maxHeartbeats 4000000 in
theorem c_mtakeB (l : Launch) (D : va_G) (cy cs : ClassId) (m0 m1 m2 m3 m4 m5 m6 m7 m8 : Nat) (st iss ty : Int) (M : Int → Int) (L q0 : Int) (ho : 2 ≤ M 1 ∧ M 1 ≤ 3) (h7 : 0 ≤ M 7 ∧ M 7 ≤ 80) (h9 : 0 ≤ M 9 ∧ M 9 ≤ 80) (hL : 0 ≤ L ∧ L ≤ 80) (h8 : M 8 = L * M 1) (h11 : M 11 = 0 ∨ M 11 = 1) (hq0 : -2147483648 ≤ q0 ∧ q0 < 2147483648) (hno : ¬ (1 ≤ q0 ∧ q0 ≤ 80) ∨ M 11 = 1 ∨ M 7 < L + q0 ∨ 80 < M 9 + q0) : zCi l D (zT cy cs) yX6_take wsX6_take ({ frames := 1, cells := 0, slots := 0, locals := 22 } : Room) [.ref m0, .int (iI q0)] [zO m0 6 [.ref m1, .ref m2, .int (iI st), .ref m3, .int (iI iss), .ref m4, .int (iI ty), .ref m5, .ref m6, .ref m7, .ref m8], zA cy m1 780 M] (tkNo M L q0) [zO m0 6 [.ref m1, .ref m2, .int (iI st), .ref m3, .int (iI iss), .ref m4, .int (iI ty), .ref m5, .ref m6, .ref m7, .ref m8], zA cy m1 780 M] := by
  intro sz
  refine zM_mk (cc := cX6_take) (maxL := 4) (ret := (some .int)) (own := RX6) (Qc := fun sz => va_Qi (fun r (_ : Unit) => r = iI (tkNo M L q0)) (fun _ t9 => zQ D (zT cy cs) (va_A [zO m0 6 [.ref m1, .ref m2, .int (iI st), .ref m3, .int (iI iss), .ref m4, .int (iI ty), .ref m5, .ref m6, .ref m7, .ref m8], zA cy m1 780 M] sz) [zO m0 6 [.ref m1, .ref m2, .int (iI st), .ref m3, .int (iI iss), .ref m4, .int (iI ty), .ref m5, .ref m6, .ref m7, .ref m8], zA cy m1 780 M] t9) (va_A [zO m0 6 [.ref m1, .ref m2, .int (iI st), .ref m3, .int (iI iss), .ref m4, .int (iI ty), .ref m5, .ref m6, .ref m7, .ref m8], zA cy m1 780 M] sz)) (by decide) rfl rfl (Nat.le_of_ble_eq_true rfl) rfl sz ?_
  intro p e s m args below meth c ls C hr hlk hnm hl hsz hA wd
  subst hsz
  have hl : lv_has ls 4 [(0, .ref m0), (1, .int (iI q0))] := hl
  have iX6 : ∀ w ∈ u_ws RX6 TX6 11, w ∈ wsX6_take := by decide +kernel
  have L7 := C.2.2.2.2 (.fieldLink RX6 7 "LikelyWalksModel" "now" "[I") (by decide +kernel)
  have h77 := nO_le h7.1 ho h7.2
  have hLO := nO_le hL.1 ho hL.2
  have hlt := lin_take (a := M 7) (b := L) (n := q0) ho
  refine lv_iload_n C.1 C.2.1 dX6_take_0 rfl (lv_at hl 1 rfl) ?_
  refine z_iconst C dX6_take_1 ?_
  refine z_bipush C dX6_take_2 (by decide +kernel) ?_
  refine z_csi C wd hA (As := [.int (iI q0), .int (iI 1), .int (iI 80)]) (rest := []) (ws2 := [zO m0 6 [.ref m1, .ref m2, .int (iI st), .ref m3, .int (iI iss), .ref m4, .int (iI ty), .ref m5, .ref m6, .ref m7, .ref m8], zA cy m1 780 M]) (c_X6_in l D cy cs q0 1 80 (by omega) (by omega) (by omega)) (cwS 3 C.2.2.2.2 gX6_take_X6_in rfl rfl rfl (by decide +kernel) ⟨Nat.le_of_ble_eq_true rfl, Nat.le_of_ble_eq_true rfl⟩) [] rfl rfl rfl ⟨rfl, [0, 1], [zO m0 6 [.ref m1, .ref m2, .int (iI st), .ref m3, .int (iI iss), .ref m4, .int (iI ty), .ref m5, .ref m6, .ref m7, .ref m8], zA cy m1 780 M], 2, rfl, rfl, rfl, by decide +kernel⟩ rfl rfl (Nat.le_of_ble_eq_true rfl) hl.1 dX6_take_4 ⟨Nat.zero_le _, Nat.zero_le _⟩ (fun H locs wd => ?_)
  refine z_ifb_ne C (tgt := 13) dX6_take_7 (by decide) (fun c_1 => ?_) (fun c_1 => ?_)
  · skip
    refine lv_aload_n C.1 C.2.1 dX6_take_13 rfl (lv_at hl 0 rfl) ?_
    refine z_get C wd (Cn := RX6) (TT := TX6) (N := 11) (ci := 6) iX6 0 rfl rfl 0 (by decide) L7 (fun _ h => h) rfl dX6_take_14 ?_
    refine z_bipush C dX6_take_17 (by decide +kernel) ?_
    refine z_iald C wd 1 rfl (by omega) (by decide) dX6_take_19 ?_
    refine z_iconst C dX6_take_20 ?_
    refine z_icmp_eq C (tgt := 47) dX6_take_21 (by decide) (by omega) (fun c_2 => ?_) (fun c_2 => ?_)
    · skip
      refine z_bipush C dX6_take_47 (by decide +kernel) ?_
      exact z_iret C hr hlk wd (by unfold tkNo; (repeat (first | rw [if_pos (by omega)] | rw [if_neg (by omega)])); first | done | rfl) dX6_take_49
    · skip
      refine lv_aload_n C.1 C.2.1 dX6_take_24 rfl (lv_at hl 0 rfl) ?_
      refine z_cvi C wd hA (As := []) (rest := []) (ws2 := [zO m0 6 [.ref m1, .ref m2, .int (iI st), .ref m3, .int (iI iss), .ref m4, .int (iI ty), .ref m5, .ref m6, .ref m7, .ref m8], zA cy m1 780 M]) (c_X6_symbols l D cy cs m0 m1 m2 m3 m4 m5 m6 m7 m8 st iss ty M ) (cwV 0 C.2.2.2.2 gX6_take_X6_symbols rfl rfl rfl (by decide +kernel) ⟨Nat.le_of_ble_eq_true rfl, Nat.le_of_ble_eq_true rfl⟩) [0, 1] rfl rfl rfl ⟨rfl, [], [], 2, rfl, rfl, rfl, by decide +kernel⟩ rfl rfl rfl rfl (Nat.le_of_ble_eq_true rfl) hl.1 dX6_take_25 ⟨Nat.zero_le _, Nat.zero_le _⟩ (fun H locs wd => ?_)
      refine lv_aload_n C.1 C.2.1 dX6_take_28 rfl (lv_at hl 0 rfl) ?_
      refine z_get C wd (Cn := RX6) (TT := TX6) (N := 11) (ci := 6) iX6 0 rfl rfl 0 (by decide) L7 (fun _ h => h) rfl dX6_take_29 ?_
      refine z_bipush C dX6_take_32 (by decide +kernel) ?_
      refine z_iald C wd 1 rfl (by omega) (by decide) dX6_take_34 ?_
      refine z_isub C dX6_take_35 ?_
      refine lv_iload_n C.1 C.2.1 dX6_take_36 rfl (lv_at hl 1 rfl) ?_
      refine lv_aload_n C.1 C.2.1 dX6_take_37 rfl (lv_at hl 0 rfl) ?_
      refine z_get C wd (Cn := RX6) (TT := TX6) (N := 11) (ci := 6) iX6 0 rfl rfl 0 (by decide) L7 (fun _ h => h) rfl dX6_take_38 ?_
      refine z_iconst C dX6_take_41 ?_
      refine z_iald C wd 1 rfl (by omega) (by decide) dX6_take_42 ?_
      have hnO := nO_le (n := q0) (by omega) ho (by omega)
      refine z_imul C dX6_take_43 ?_
      refine z_icmp_ge C (tgt := 50) dX6_take_44 (by decide) (by omega) (fun c_3 => ?_) (fun c_3 => ?_)
      · skip
        refine lv_aload_n C.1 C.2.1 dX6_take_50 rfl (lv_at hl 0 rfl) ?_
        refine z_get C wd (Cn := RX6) (TT := TX6) (N := 11) (ci := 6) iX6 0 rfl rfl 0 (by decide) L7 (fun _ h => h) rfl dX6_take_51 ?_
        refine z_bipush C dX6_take_54 (by decide +kernel) ?_
        refine z_iald C wd 1 rfl (by omega) (by decide) dX6_take_56 ?_
        refine lv_iload_n C.1 C.2.1 dX6_take_57 rfl (lv_at hl 1 rfl) ?_
        refine z_iadd C dX6_take_58 ?_
        refine z_bipush C dX6_take_59 (by decide +kernel) ?_
        refine z_icmp_le C (tgt := 67) dX6_take_61 (by decide) (by omega) (fun c_4 => ?_) (fun c_4 => ?_)
        · skip
          exact False.elim (by omega)
        · skip
          refine z_bipush C dX6_take_64 (by decide +kernel) ?_
          exact z_iret C hr hlk wd (by unfold tkNo; (repeat (first | rw [if_pos (by omega)] | rw [if_neg (by omega)])); first | done | rfl) dX6_take_66
      · skip
        refine z_bipush C dX6_take_47 (by decide +kernel) ?_
        exact z_iret C hr hlk wd (by unfold tkNo; (repeat (first | rw [if_pos (by omega)] | rw [if_neg (by omega)])); first | done | rfl) dX6_take_49
  · skip
    refine z_bipush C dX6_take_10 (by decide +kernel) ?_
    exact z_iret C hr hlk wd (by unfold tkNo; (repeat (first | rw [if_pos (by omega)] | rw [if_neg (by omega)])); first | done | rfl) dX6_take_12
set_option maxRecDepth 100000 in
set_option maxHeartbeats 4000000 in
theorem c_mhearB (l : Launch) (D : va_G) (cy cs : ClassId) (m0 m1 m2 m3 m4 m5 m6 m7 m8 : Nat) (st iss ty : Int) (M : Int → Int) (tx : Int → Int) (ho : 2 ≤ M 1 ∧ M 1 ≤ 3) (h9 : 0 ≤ M 9 ∧ M 9 ≤ 80) (h11 : M 11 = 0 ∨ M 11 = 1) (hty : 0 ≤ ty ∧ ty ≤ 60) (htx : ∀ k : Int, 0 ≤ k → k < 60 → 0 ≤ tx k ∧ tx k < 65536) (hfl : -1 ≤ ff (fun z9 => vc (tx z9)) ty (1 + 1) ∧ ff (fun z9 => vc (tx z9)) ty (1 + 1) ≤ 60) (hno : ff (fun z9 => vc (tx z9)) ty (1 + 1) ≠ -1 ∨ ¬ ty % M 1 = 0 ∨ M 11 = 1 ∨ 80 < M 9 + ty / M 1) : zCi l D (zT cy cs) yX6_hear wsX6_hear ({ frames := 1, cells := 0, slots := 0, locals := 22 } : Room) [.ref m0] [zO m0 6 [.ref m1, .ref m2, .int (iI st), .ref m3, .int (iI iss), .ref m4, .int (iI ty), .ref m5, .ref m6, .ref m7, .ref m8], zA cy m1 780 M, zA cy m4 60 tx] (hrNo M (ff (fun z9 => vc (tx z9)) ty (1 + 1)) ty) [zO m0 6 [.ref m1, .ref m2, .int (iI st), .ref m3, .int (iI iss), .ref m4, .int (iI ty), .ref m5, .ref m6, .ref m7, .ref m8], zA cy m1 780 M, zA cy m4 60 tx] := by
  intro sz
  refine zM_mk (cc := cX6_hear) (maxL := 4) (ret := (some .int)) (own := RX6) (Qc := fun sz => va_Qi (fun r (_ : Unit) => r = iI (hrNo M (ff (fun z9 => vc (tx z9)) ty (1 + 1)) ty)) (fun _ t9 => zQ D (zT cy cs) (va_A [zO m0 6 [.ref m1, .ref m2, .int (iI st), .ref m3, .int (iI iss), .ref m4, .int (iI ty), .ref m5, .ref m6, .ref m7, .ref m8], zA cy m1 780 M, zA cy m4 60 tx] sz) [zO m0 6 [.ref m1, .ref m2, .int (iI st), .ref m3, .int (iI iss), .ref m4, .int (iI ty), .ref m5, .ref m6, .ref m7, .ref m8], zA cy m1 780 M, zA cy m4 60 tx] t9) (va_A [zO m0 6 [.ref m1, .ref m2, .int (iI st), .ref m3, .int (iI iss), .ref m4, .int (iI ty), .ref m5, .ref m6, .ref m7, .ref m8], zA cy m1 780 M, zA cy m4 60 tx] sz)) (by decide) rfl rfl (Nat.le_of_ble_eq_true rfl) rfl sz ?_
  intro p e s m args below meth c ls C hr hlk hnm hl hsz hA wd
  subst hsz
  have hl : lv_has ls 4 [(0, .ref m0)] := hl
  have iX6 : ∀ w ∈ u_ws RX6 TX6 11, w ∈ wsX6_hear := by decide +kernel
  have L7 := C.2.2.2.2 (.fieldLink RX6 7 "LikelyWalksModel" "now" "[I") (by decide +kernel)
  have L56 := C.2.2.2.2 (.fieldLink RX6 56 "LikelyWalksModel" "typed" "I") (by decide +kernel)
  have hlp := lin_pos (a := ty) ho hty.1
  refine lv_aload_n C.1 C.2.1 dX6_hear_0 rfl (lv_at hl 0 rfl) ?_
  refine z_iconst C dX6_hear_1 ?_
  refine z_cvi C wd hA (As := [.int (iI 1)]) (rest := []) (ws2 := [zO m0 6 [.ref m1, .ref m2, .int (iI st), .ref m3, .int (iI iss), .ref m4, .int (iI ty), .ref m5, .ref m6, .ref m7, .ref m8], zA cy m1 780 M, zA cy m4 60 tx]) (c_X6_fault l D cy cs m0 m1 m2 m3 m4 m5 m6 m7 m8 st iss ty (fun _ => 0) 1 tx (by omega) (by omega) htx) (cwV 1 C.2.2.2.2 gX6_hear_X6_fault rfl rfl rfl (by decide +kernel) ⟨Nat.le_of_ble_eq_true rfl, Nat.le_of_ble_eq_true rfl⟩) [0, 2] rfl rfl rfl ⟨rfl, [1], [zA cy m1 780 M], 3, rfl, rfl, rfl, by decide +kernel⟩ rfl rfl rfl rfl (Nat.le_of_ble_eq_true rfl) hl.1 dX6_hear_2 ⟨Nat.zero_le _, Nat.zero_le _⟩ (fun H locs wd => ?_)
  refine lv_istore_n (lv' := [(1, .int (iI (ff (fun z9 => vc (tx z9)) ty (1 + 1)))), (0, .ref m0)]) C.1 C.2.1 dX6_hear_5 rfl hl (by decide) rfl (fun ls hl => ?_)
  refine lv_iload_n C.1 C.2.1 dX6_hear_6 rfl (lv_at hl 0 rfl) ?_
  refine z_if_lt C (tgt := 15) dX6_hear_7 (by decide) (by omega) (fun c_1 => ?_) (fun c_1 => ?_)
  · skip
    refine lv_aload_n C.1 C.2.1 dX6_hear_15 rfl (lv_at hl 1 rfl) ?_
    refine z_get C wd (Cn := RX6) (TT := TX6) (N := 11) (ci := 6) iX6 0 rfl rfl 6 (by decide) L56 (fun _ h => h) rfl dX6_hear_16 ?_
    refine lv_aload_n C.1 C.2.1 dX6_hear_19 rfl (lv_at hl 1 rfl) ?_
    refine z_get C wd (Cn := RX6) (TT := TX6) (N := 11) (ci := 6) iX6 0 rfl rfl 0 (by decide) L7 (fun _ h => h) rfl dX6_hear_20 ?_
    refine z_iconst C dX6_hear_23 ?_
    refine z_iald C wd 1 rfl (by omega) (by decide) dX6_hear_24 ?_
    refine z_irem C dX6_hear_25 (by omega) ?_
    refine z_if_le C (tgt := 32) dX6_hear_26 (by decide) (by omega) (fun c_2 => ?_) (fun c_2 => ?_)
    · skip
      refine lv_aload_n C.1 C.2.1 dX6_hear_32 rfl (lv_at hl 1 rfl) ?_
      refine z_get C wd (Cn := RX6) (TT := TX6) (N := 11) (ci := 6) iX6 0 rfl rfl 0 (by decide) L7 (fun _ h => h) rfl dX6_hear_33 ?_
      refine z_bipush C dX6_hear_36 (by decide +kernel) ?_
      refine z_iald C wd 1 rfl (by omega) (by decide) dX6_hear_38 ?_
      refine z_iconst C dX6_hear_39 ?_
      refine z_icmp_ne C (tgt := 46) dX6_hear_40 (by decide) (by omega) (fun c_3 => ?_) (fun c_3 => ?_)
      · skip
        refine lv_aload_n C.1 C.2.1 dX6_hear_46 rfl (lv_at hl 1 rfl) ?_
        refine z_get C wd (Cn := RX6) (TT := TX6) (N := 11) (ci := 6) iX6 0 rfl rfl 0 (by decide) L7 (fun _ h => h) rfl dX6_hear_47 ?_
        refine z_bipush C dX6_hear_50 (by decide +kernel) ?_
        refine z_iald C wd 1 rfl (by omega) (by decide) dX6_hear_52 ?_
        refine lv_aload_n C.1 C.2.1 dX6_hear_53 rfl (lv_at hl 1 rfl) ?_
        refine z_get C wd (Cn := RX6) (TT := TX6) (N := 11) (ci := 6) iX6 0 rfl rfl 6 (by decide) L56 (fun _ h => h) rfl dX6_hear_54 ?_
        refine lv_aload_n C.1 C.2.1 dX6_hear_57 rfl (lv_at hl 1 rfl) ?_
        refine z_get C wd (Cn := RX6) (TT := TX6) (N := 11) (ci := 6) iX6 0 rfl rfl 0 (by decide) L7 (fun _ h => h) rfl dX6_hear_58 ?_
        refine z_iconst C dX6_hear_61 ?_
        refine z_iald C wd 1 rfl (by omega) (by decide) dX6_hear_62 ?_
        refine z_idiv C dX6_hear_63 (by omega) ?_
        refine z_iadd C dX6_hear_64 ?_
        refine z_bipush C dX6_hear_65 (by decide +kernel) ?_
        refine z_icmp_le C (tgt := 73) dX6_hear_67 (by decide) (by omega) (fun c_4 => ?_) (fun c_4 => ?_)
        · skip
          exact False.elim (by omega)
        · skip
          refine z_bipush C dX6_hear_70 (by decide +kernel) ?_
          exact z_iret C hr hlk wd (by unfold hrNo; (repeat (first | rw [if_pos (by omega)] | rw [if_neg (by omega)])); first | done | rfl) dX6_hear_72
      · skip
        refine z_bipush C dX6_hear_43 (by decide +kernel) ?_
        exact z_iret C hr hlk wd (by unfold hrNo; (repeat (first | rw [if_pos (by omega)] | rw [if_neg (by omega)])); first | done | rfl) dX6_hear_45
    · skip
      refine z_bipush C dX6_hear_29 (by decide +kernel) ?_
      exact z_iret C hr hlk wd (by unfold hrNo; (repeat (first | rw [if_pos (by omega)] | rw [if_neg (by omega)])); first | done | rfl) dX6_hear_31
  · skip
    refine z_bipush C dX6_hear_10 (by decide +kernel) ?_
    refine lv_iload_n C.1 C.2.1 dX6_hear_12 rfl (lv_at hl 0 rfl) ?_
    refine z_isub C dX6_hear_13 ?_
    exact z_iret C hr hlk wd (by unfold hrNo; (repeat (first | rw [if_pos (by omega)] | rw [if_neg (by omega)])); first | done | rfl) dX6_hear_14
set_option maxRecDepth 100000 in
set_option maxHeartbeats 4000000 in
theorem c_mfinishB (l : Launch) (D : va_G) (cy cs : ClassId) (m0 m1 m2 m3 m4 m5 m6 m7 m8 : Nat) (st iss ty : Int) (M : Int → Int) (be : Int) (h572 : -1 ≤ M 572 ∧ M 572 ≤ 1000) (h11 : M 11 = 0 ∨ M 11 = 1) (hbe : 0 ≤ be ∧ be ≤ 1) (hno : M 11 = 1 ∨ (be = 1 ∧ M 572 < 0)) : zCi l D (zT cy cs) yX6_finish wsX6_finish ({ frames := 0, cells := 0, slots := 0, locals := 0 } : Room) [.ref m0, .int (iI be)] [zO m0 6 [.ref m1, .ref m2, .int (iI st), .ref m3, .int (iI iss), .ref m4, .int (iI ty), .ref m5, .ref m6, .ref m7, .ref m8], zA cy m1 780 M] (-4) [zO m0 6 [.ref m1, .ref m2, .int (iI st), .ref m3, .int (iI iss), .ref m4, .int (iI ty), .ref m5, .ref m6, .ref m7, .ref m8], zA cy m1 780 M] := by
  intro sz
  refine zM_mk (cc := cX6_finish) (maxL := 3) (ret := (some .int)) (own := RX6) (Qc := fun sz => va_Qi (fun r (_ : Unit) => r = iI (-4)) (fun _ t9 => zQ D (zT cy cs) (va_A [zO m0 6 [.ref m1, .ref m2, .int (iI st), .ref m3, .int (iI iss), .ref m4, .int (iI ty), .ref m5, .ref m6, .ref m7, .ref m8], zA cy m1 780 M] sz) [zO m0 6 [.ref m1, .ref m2, .int (iI st), .ref m3, .int (iI iss), .ref m4, .int (iI ty), .ref m5, .ref m6, .ref m7, .ref m8], zA cy m1 780 M] t9) (va_A [zO m0 6 [.ref m1, .ref m2, .int (iI st), .ref m3, .int (iI iss), .ref m4, .int (iI ty), .ref m5, .ref m6, .ref m7, .ref m8], zA cy m1 780 M] sz)) (by decide) rfl rfl (Nat.le_of_ble_eq_true rfl) rfl sz ?_
  intro p e s m args below meth c ls C hr hlk hnm hl hsz hA wd
  subst hsz
  have hl : lv_has ls 3 [(0, .ref m0), (1, .int (iI be))] := hl
  have iX6 : ∀ w ∈ u_ws RX6 TX6 11, w ∈ wsX6_finish := by decide +kernel
  have L7 := C.2.2.2.2 (.fieldLink RX6 7 "LikelyWalksModel" "now" "[I") (by decide +kernel)
  refine lv_aload_n C.1 C.2.1 dX6_finish_0 rfl (lv_at hl 0 rfl) ?_
  refine z_get C wd (Cn := RX6) (TT := TX6) (N := 11) (ci := 6) iX6 0 rfl rfl 0 (by decide) L7 (fun _ h => h) rfl dX6_finish_1 ?_
  refine z_bipush C dX6_finish_4 (by decide +kernel) ?_
  refine z_iald C wd 1 rfl (by omega) (by decide) dX6_finish_6 ?_
  refine z_iconst C dX6_finish_7 ?_
  refine z_icmp_eq C (tgt := 26) dX6_finish_8 (by decide) (by omega) (fun c_1 => ?_) (fun c_1 => ?_)
  · skip
    refine z_bipush C dX6_finish_26 (by decide +kernel) ?_
    exact z_iret C hr hlk wd rfl dX6_finish_28
  · skip
    refine lv_iload_n C.1 C.2.1 dX6_finish_11 rfl (lv_at hl 1 rfl) ?_
    refine z_if_eq C (tgt := 29) dX6_finish_12 (by decide) (by omega) (fun c_2 => ?_) (fun c_2 => ?_)
    · skip
      exact False.elim (by omega)
    · skip
      refine lv_aload_n C.1 C.2.1 dX6_finish_15 rfl (lv_at hl 0 rfl) ?_
      refine z_get C wd (Cn := RX6) (TT := TX6) (N := 11) (ci := 6) iX6 0 rfl rfl 0 (by decide) L7 (fun _ h => h) rfl dX6_finish_16 ?_
      refine z_sipush C dX6_finish_19 (by decide +kernel) ?_
      refine z_iald C wd 1 rfl (by omega) (by decide) dX6_finish_22 ?_
      refine z_if_ge C (tgt := 29) dX6_finish_23 (by decide) (by omega) (fun c_3 => ?_) (fun c_3 => ?_)
      · skip
        exact False.elim (by omega)
      · skip
        refine z_bipush C dX6_finish_26 (by decide +kernel) ?_
        exact z_iret C hr hlk wd rfl dX6_finish_28
