set_option maxRecDepth 100000 in
set_option maxHeartbeats 4000000 in
theorem c_X5_lineLength (l : Launch) (D : va_G) (cy cs : ClassId) (w0 w1 w2 t0 d0 d0k a0 a1 s0 s1 s2 s3 r0 r1 r2 r3 r4 : Nat) (iK n L : Int) (M : Int → Int)  : zCi l D (zT cy cs) yX5_lineLength wsX5_lineLength ({ frames := 0, cells := 0, slots := 0, locals := 0 } : Room) [.ref w0] [zO w0 5 [.ref d0, .ref d0k, .int (iI iK), .ref w1, .int (iI n), .ref t0, .ref w2], zO d0 3 [.int (iI (M 5)), .ref a0, .ref s0, .ref r0], zO a0 0 [.int (iI (M 0)), .int (iI (M 1)), .ref a1], zO s0 2 [.int (iI (M 6)), .int (iI (M 7)), .ref s1, .ref s2, .ref s3]] (M 7 * M 1) [zO w0 5 [.ref d0, .ref d0k, .int (iI iK), .ref w1, .int (iI n), .ref t0, .ref w2], zO d0 3 [.int (iI (M 5)), .ref a0, .ref s0, .ref r0], zO a0 0 [.int (iI (M 0)), .int (iI (M 1)), .ref a1], zO s0 2 [.int (iI (M 6)), .int (iI (M 7)), .ref s1, .ref s2, .ref s3]] := by
  intro sz
  refine zM_mk (cc := cX5_lineLength) (maxL := 1) (ret := (some .int)) (own := RX5) (Qc := fun sz => va_Qi (fun r (_ : Unit) => r = iI (M 7 * M 1)) (fun _ t => zQ D (zT cy cs) (va_A [zO w0 5 [.ref d0, .ref d0k, .int (iI iK), .ref w1, .int (iI n), .ref t0, .ref w2], zO d0 3 [.int (iI (M 5)), .ref a0, .ref s0, .ref r0], zO a0 0 [.int (iI (M 0)), .int (iI (M 1)), .ref a1], zO s0 2 [.int (iI (M 6)), .int (iI (M 7)), .ref s1, .ref s2, .ref s3]] sz) [zO w0 5 [.ref d0, .ref d0k, .int (iI iK), .ref w1, .int (iI n), .ref t0, .ref w2], zO d0 3 [.int (iI (M 5)), .ref a0, .ref s0, .ref r0], zO a0 0 [.int (iI (M 0)), .int (iI (M 1)), .ref a1], zO s0 2 [.int (iI (M 6)), .int (iI (M 7)), .ref s1, .ref s2, .ref s3]] t) (va_A [zO w0 5 [.ref d0, .ref d0k, .int (iI iK), .ref w1, .int (iI n), .ref t0, .ref w2], zO d0 3 [.int (iI (M 5)), .ref a0, .ref s0, .ref r0], zO a0 0 [.int (iI (M 0)), .int (iI (M 1)), .ref a1], zO s0 2 [.int (iI (M 6)), .int (iI (M 7)), .ref s1, .ref s2, .ref s3]] sz)) (by decide) rfl rfl (Nat.le_of_ble_eq_true rfl) rfl sz ?_
  intro p e s m args below meth c ls C hr hlk hnm hl hsz hA wd
  subst hsz
  have hl : lv_has ls 1 [(0, .ref w0)] := hl
  have iX0 : ∀ w ∈ u_ws RX0 TX0 3, w ∈ wsX5_lineLength := by decide +kernel
  have iX2 : ∀ w ∈ u_ws RX2 TX2 5, w ∈ wsX5_lineLength := by decide +kernel
  have iX3 : ∀ w ∈ u_ws RX3 TX3 4, w ∈ wsX5_lineLength := by decide +kernel
  have iX5 : ∀ w ∈ u_ws RX5 TX5 7, w ∈ wsX5_lineLength := by decide +kernel
  have L12 := C.2.2.2.2 (.fieldLink RX5 12 "LikelyWalks" "now" "LLikelyWalks$State;") (by decide +kernel)
  have L45 := C.2.2.2.2 (.fieldLink RX5 45 "LikelyWalks$State" "code" "LLikelyWalks$Code;") (by decide +kernel)
  have L55 := C.2.2.2.2 (.fieldLink RX5 55 "LikelyWalks$State" "sender" "LLikelyWalks$Sender;") (by decide +kernel)
  have L71 := C.2.2.2.2 (.fieldLink RX5 71 "LikelyWalks$Code" "outputs" "I") (by decide +kernel)
  have L84 := C.2.2.2.2 (.fieldLink RX5 84 "LikelyWalks$Sender" "bitCount" "I") (by decide +kernel)
  refine lv_aload_n C.1 C.2.1 dX5_lineLength_0 rfl (lv_at hl 0 rfl) ?_
  refine z_get C wd (Cn := RX5) (TT := TX5) (N := 7) (ci := 5) iX5 0 rfl rfl 0 (by decide) L12 (fun _ h => h) rfl dX5_lineLength_1 ?_
  refine z_get C wd (Cn := RX3) (TT := TX3) (N := 4) (ci := 3) iX3 1 rfl rfl 2 (by decide) L55 (fun _ h => h) rfl dX5_lineLength_4 ?_
  refine z_get C wd (Cn := RX2) (TT := TX2) (N := 5) (ci := 2) iX2 3 rfl rfl 1 (by decide) L84 (fun _ h => h) rfl dX5_lineLength_7 ?_
  refine lv_aload_n C.1 C.2.1 dX5_lineLength_10 rfl (lv_at hl 0 rfl) ?_
  refine z_get C wd (Cn := RX5) (TT := TX5) (N := 7) (ci := 5) iX5 0 rfl rfl 0 (by decide) L12 (fun _ h => h) rfl dX5_lineLength_11 ?_
  refine z_get C wd (Cn := RX3) (TT := TX3) (N := 4) (ci := 3) iX3 1 rfl rfl 1 (by decide) L45 (fun _ h => h) rfl dX5_lineLength_14 ?_
  refine z_get C wd (Cn := RX0) (TT := TX0) (N := 3) (ci := 0) iX0 2 rfl rfl 1 (by decide) L71 (fun _ h => h) rfl dX5_lineLength_17 ?_
  refine z_imul C dX5_lineLength_20 ?_
  exact z_iret C hr hlk wd (by first | rfl | omega) dX5_lineLength_21
set_option maxRecDepth 100000 in
set_option maxHeartbeats 4000000 in
theorem c_X5_isOnLine (l : Launch) (D : va_G) (cy cs : ClassId) (w0 w1 w2 t0 d0 d0k a0 a1 s0 s1 s2 s3 r0 r1 r2 r3 r4 : Nat) (iK n L : Int) (M : Int → Int) (k : Int) (hln : 0 ≤ M 7 * M 1 ∧ M 7 * M 1 ≤ 240) (hk : -2147483648 ≤ k ∧ k < 2147483648) : zCi l D (zT cy cs) yX5_isOnLine wsX5_isOnLine ({ frames := 1, cells := 0, slots := 0, locals := 20 } : Room) [.ref w0, .int (iI k)] [zO w0 5 [.ref d0, .ref d0k, .int (iI iK), .ref w1, .int (iI n), .ref t0, .ref w2], zO d0 3 [.int (iI (M 5)), .ref a0, .ref s0, .ref r0], zO a0 0 [.int (iI (M 0)), .int (iI (M 1)), .ref a1], zO s0 2 [.int (iI (M 6)), .int (iI (M 7)), .ref s1, .ref s2, .ref s3]] (bI (0 ≤ k ∧ k < M 7 * M 1)) [zO w0 5 [.ref d0, .ref d0k, .int (iI iK), .ref w1, .int (iI n), .ref t0, .ref w2], zO d0 3 [.int (iI (M 5)), .ref a0, .ref s0, .ref r0], zO a0 0 [.int (iI (M 0)), .int (iI (M 1)), .ref a1], zO s0 2 [.int (iI (M 6)), .int (iI (M 7)), .ref s1, .ref s2, .ref s3]] := by
  intro sz
  refine zM_mk (cc := cX5_isOnLine) (maxL := 2) (ret := (some .boolean)) (own := RX5) (Qc := fun sz => va_Qi (fun r (_ : Unit) => r = iI (bI (0 ≤ k ∧ k < M 7 * M 1))) (fun _ t => zQ D (zT cy cs) (va_A [zO w0 5 [.ref d0, .ref d0k, .int (iI iK), .ref w1, .int (iI n), .ref t0, .ref w2], zO d0 3 [.int (iI (M 5)), .ref a0, .ref s0, .ref r0], zO a0 0 [.int (iI (M 0)), .int (iI (M 1)), .ref a1], zO s0 2 [.int (iI (M 6)), .int (iI (M 7)), .ref s1, .ref s2, .ref s3]] sz) [zO w0 5 [.ref d0, .ref d0k, .int (iI iK), .ref w1, .int (iI n), .ref t0, .ref w2], zO d0 3 [.int (iI (M 5)), .ref a0, .ref s0, .ref r0], zO a0 0 [.int (iI (M 0)), .int (iI (M 1)), .ref a1], zO s0 2 [.int (iI (M 6)), .int (iI (M 7)), .ref s1, .ref s2, .ref s3]] t) (va_A [zO w0 5 [.ref d0, .ref d0k, .int (iI iK), .ref w1, .int (iI n), .ref t0, .ref w2], zO d0 3 [.int (iI (M 5)), .ref a0, .ref s0, .ref r0], zO a0 0 [.int (iI (M 0)), .int (iI (M 1)), .ref a1], zO s0 2 [.int (iI (M 6)), .int (iI (M 7)), .ref s1, .ref s2, .ref s3]] sz)) (by decide) rfl rfl (Nat.le_of_ble_eq_true rfl) rfl sz ?_
  intro p e s m args below meth c ls C hr hlk hnm hl hsz hA wd
  subst hsz
  have hl : lv_has ls 2 [(0, .ref w0), (1, .int (iI k))] := hl
  refine lv_iload_n C.1 C.2.1 dX5_isOnLine_0 rfl (lv_at hl 1 rfl) ?_
  refine z_if_lt C (tgt := 16) dX5_isOnLine_1 (by decide) (by omega) (fun c_1 => ?_) (fun c_1 => ?_)
  · skip
    refine z_iconst C dX5_isOnLine_16 ?_
    exact z_zret C hr hlk (by omega) wd (by first | rfl | exact (bI_t (by omega)).symm | exact (bI_f (by omega)).symm) dX5_isOnLine_17
  · skip
    refine lv_iload_n C.1 C.2.1 dX5_isOnLine_4 rfl (lv_at hl 1 rfl) ?_
    refine lv_aload_n C.1 C.2.1 dX5_isOnLine_5 rfl (lv_at hl 0 rfl) ?_
    refine z_cvi C wd hA (As := []) (rest := [.int (iI k)]) (ws2 := [zO w0 5 [.ref d0, .ref d0k, .int (iI iK), .ref w1, .int (iI n), .ref t0, .ref w2], zO d0 3 [.int (iI (M 5)), .ref a0, .ref s0, .ref r0], zO a0 0 [.int (iI (M 0)), .int (iI (M 1)), .ref a1], zO s0 2 [.int (iI (M 6)), .int (iI (M 7)), .ref s1, .ref s2, .ref s3]]) (c_X5_lineLength l D cy cs w0 w1 w2 t0 d0 d0k a0 a1 s0 s1 s2 s3 r0 0 0 0 0 iK n 0 M ) (cwV 0 C.2.2.2.2 gX5_isOnLine_X5_lineLength rfl rfl rfl (by decide +kernel) ⟨Nat.le_of_ble_eq_true rfl, Nat.le_of_ble_eq_true rfl⟩) [0, 1, 2, 3] rfl rfl rfl ⟨rfl, [], [], 4, rfl, rfl, rfl, by decide +kernel⟩ rfl rfl rfl rfl (Nat.le_of_ble_eq_true rfl) hl.1 dX5_isOnLine_6 ⟨Nat.zero_le _, Nat.zero_le _⟩ (fun H locs wd => ?_)
    refine z_icmp_ge C (tgt := 16) dX5_isOnLine_9 (by decide) (by omega) (fun c_2 => ?_) (fun c_2 => ?_)
    · skip
      refine z_iconst C dX5_isOnLine_16 ?_
      exact z_zret C hr hlk (by omega) wd (by first | rfl | exact (bI_t (by omega)).symm | exact (bI_f (by omega)).symm) dX5_isOnLine_17
    · skip
      refine z_iconst C dX5_isOnLine_12 ?_
      refine z_goto C (tgt := 17) dX5_isOnLine_13 (by decide) ?_
      exact z_zret C hr hlk (by omega) wd (by first | rfl | exact (bI_t (by omega)).symm | exact (bI_f (by omega)).symm) dX5_isOnLine_17
set_option maxRecDepth 100000 in
set_option maxHeartbeats 4000000 in
theorem c_X5_isTaken (l : Launch) (D : va_G) (cy cs : ClassId) (w0 w1 w2 t0 d0 d0k a0 a1 s0 s1 s2 s3 r0 r1 r2 r3 r4 : Nat) (iK n L : Int) (M : Int → Int) (k : Int) (hlt : 0 ≤ L * M 1 ∧ L * M 1 ≤ 240) (hk : -2147483648 ≤ k ∧ k < 2147483648) : zCi l D (zT cy cs) yX5_isTaken wsX5_isTaken ({ frames := 0, cells := 0, slots := 0, locals := 0 } : Room) [.ref w0, .int (iI k)] [zO w0 5 [.ref d0, .ref d0k, .int (iI iK), .ref w1, .int (iI n), .ref t0, .ref w2], zO d0 3 [.int (iI (M 5)), .ref a0, .ref s0, .ref r0], zO a0 0 [.int (iI (M 0)), .int (iI (M 1)), .ref a1], zO r0 1 [.int (iI (M 9)), .int (iI L), .int (iI (M 10)), .int (iI (M 11)), .ref r1, .ref r2, .ref r3, .ref r4]] (bI (k < L * M 1)) [zO w0 5 [.ref d0, .ref d0k, .int (iI iK), .ref w1, .int (iI n), .ref t0, .ref w2], zO d0 3 [.int (iI (M 5)), .ref a0, .ref s0, .ref r0], zO a0 0 [.int (iI (M 0)), .int (iI (M 1)), .ref a1], zO r0 1 [.int (iI (M 9)), .int (iI L), .int (iI (M 10)), .int (iI (M 11)), .ref r1, .ref r2, .ref r3, .ref r4]] := by
  intro sz
  refine zM_mk (cc := cX5_isTaken) (maxL := 2) (ret := (some .boolean)) (own := RX5) (Qc := fun sz => va_Qi (fun r (_ : Unit) => r = iI (bI (k < L * M 1))) (fun _ t => zQ D (zT cy cs) (va_A [zO w0 5 [.ref d0, .ref d0k, .int (iI iK), .ref w1, .int (iI n), .ref t0, .ref w2], zO d0 3 [.int (iI (M 5)), .ref a0, .ref s0, .ref r0], zO a0 0 [.int (iI (M 0)), .int (iI (M 1)), .ref a1], zO r0 1 [.int (iI (M 9)), .int (iI L), .int (iI (M 10)), .int (iI (M 11)), .ref r1, .ref r2, .ref r3, .ref r4]] sz) [zO w0 5 [.ref d0, .ref d0k, .int (iI iK), .ref w1, .int (iI n), .ref t0, .ref w2], zO d0 3 [.int (iI (M 5)), .ref a0, .ref s0, .ref r0], zO a0 0 [.int (iI (M 0)), .int (iI (M 1)), .ref a1], zO r0 1 [.int (iI (M 9)), .int (iI L), .int (iI (M 10)), .int (iI (M 11)), .ref r1, .ref r2, .ref r3, .ref r4]] t) (va_A [zO w0 5 [.ref d0, .ref d0k, .int (iI iK), .ref w1, .int (iI n), .ref t0, .ref w2], zO d0 3 [.int (iI (M 5)), .ref a0, .ref s0, .ref r0], zO a0 0 [.int (iI (M 0)), .int (iI (M 1)), .ref a1], zO r0 1 [.int (iI (M 9)), .int (iI L), .int (iI (M 10)), .int (iI (M 11)), .ref r1, .ref r2, .ref r3, .ref r4]] sz)) (by decide) rfl rfl (Nat.le_of_ble_eq_true rfl) rfl sz ?_
  intro p e s m args below meth c ls C hr hlk hnm hl hsz hA wd
  subst hsz
  have hl : lv_has ls 2 [(0, .ref w0), (1, .int (iI k))] := hl
  have iX0 : ∀ w ∈ u_ws RX0 TX0 3, w ∈ wsX5_isTaken := by decide +kernel
  have iX1 : ∀ w ∈ u_ws RX1 TX1 8, w ∈ wsX5_isTaken := by decide +kernel
  have iX3 : ∀ w ∈ u_ws RX3 TX3 4, w ∈ wsX5_isTaken := by decide +kernel
  have iX5 : ∀ w ∈ u_ws RX5 TX5 7, w ∈ wsX5_isTaken := by decide +kernel
  have L12 := C.2.2.2.2 (.fieldLink RX5 12 "LikelyWalks" "now" "LLikelyWalks$State;") (by decide +kernel)
  have L45 := C.2.2.2.2 (.fieldLink RX5 45 "LikelyWalks$State" "code" "LLikelyWalks$Code;") (by decide +kernel)
  have L64 := C.2.2.2.2 (.fieldLink RX5 64 "LikelyWalks$State" "reader" "LLikelyWalks$Reader;") (by decide +kernel)
  have L71 := C.2.2.2.2 (.fieldLink RX5 71 "LikelyWalks$Code" "outputs" "I") (by decide +kernel)
  have L113 := C.2.2.2.2 (.fieldLink RX5 113 "LikelyWalks$Reader" "lineSteps" "I") (by decide +kernel)
  refine lv_iload_n C.1 C.2.1 dX5_isTaken_0 rfl (lv_at hl 1 rfl) ?_
  refine lv_aload_n C.1 C.2.1 dX5_isTaken_1 rfl (lv_at hl 0 rfl) ?_
  refine z_get C wd (Cn := RX5) (TT := TX5) (N := 7) (ci := 5) iX5 0 rfl rfl 0 (by decide) L12 (fun _ h => h) rfl dX5_isTaken_2 ?_
  refine z_get C wd (Cn := RX3) (TT := TX3) (N := 4) (ci := 3) iX3 1 rfl rfl 3 (by decide) L64 (fun _ h => h) rfl dX5_isTaken_5 ?_
  refine z_get C wd (Cn := RX1) (TT := TX1) (N := 8) (ci := 1) iX1 3 rfl rfl 1 (by decide) L113 (fun _ h => h) rfl dX5_isTaken_8 ?_
  refine lv_aload_n C.1 C.2.1 dX5_isTaken_11 rfl (lv_at hl 0 rfl) ?_
  refine z_get C wd (Cn := RX5) (TT := TX5) (N := 7) (ci := 5) iX5 0 rfl rfl 0 (by decide) L12 (fun _ h => h) rfl dX5_isTaken_12 ?_
  refine z_get C wd (Cn := RX3) (TT := TX3) (N := 4) (ci := 3) iX3 1 rfl rfl 1 (by decide) L45 (fun _ h => h) rfl dX5_isTaken_15 ?_
  refine z_get C wd (Cn := RX0) (TT := TX0) (N := 3) (ci := 0) iX0 2 rfl rfl 1 (by decide) L71 (fun _ h => h) rfl dX5_isTaken_18 ?_
  refine z_imul C dX5_isTaken_21 ?_
  refine z_icmp_ge C (tgt := 29) dX5_isTaken_22 (by decide) (by omega) (fun c_1 => ?_) (fun c_1 => ?_)
  · skip
    refine z_iconst C dX5_isTaken_29 ?_
    exact z_zret C hr hlk (by omega) wd (by first | rfl | exact (bI_t (by omega)).symm | exact (bI_f (by omega)).symm) dX5_isTaken_30
  · skip
    refine z_iconst C dX5_isTaken_25 ?_
    refine z_goto C (tgt := 30) dX5_isTaken_26 (by decide) ?_
    exact z_zret C hr hlk (by omega) wd (by first | rfl | exact (bI_t (by omega)).symm | exact (bI_f (by omega)).symm) dX5_isTaken_30
set_option maxRecDepth 100000 in
set_option maxHeartbeats 4000000 in
theorem c_X5_erasedSymbols (l : Launch) (D : va_G) (cy cs : ClassId) (w0 w1 w2 t0 d0 d0k a0 a1 s0 s1 s2 s3 r0 r1 r2 r3 r4 : Nat) (iK n L : Int) (M : Int → Int) (hln : 0 ≤ M 7 * M 1 ∧ M 7 * M 1 ≤ 240) (hli : ∀ j : Int, 0 ≤ j → j < 240 → 0 ≤ sl M 92 j ∧ sl M 92 j ≤ 2) : zCi l D (zT cy cs) yX5_erasedSymbols wsX5_erasedSymbols ({ frames := 1, cells := 0, slots := 0, locals := 20 } : Room) [.ref w0] [zO w0 5 [.ref d0, .ref d0k, .int (iI iK), .ref w1, .int (iI n), .ref t0, .ref w2], zO d0 3 [.int (iI (M 5)), .ref a0, .ref s0, .ref r0], zO a0 0 [.int (iI (M 0)), .int (iI (M 1)), .ref a1], zO s0 2 [.int (iI (M 6)), .int (iI (M 7)), .ref s1, .ref s2, .ref s3], zA cy s2 240 (sl M 92)] (cntE M) [zO w0 5 [.ref d0, .ref d0k, .int (iI iK), .ref w1, .int (iI n), .ref t0, .ref w2], zO d0 3 [.int (iI (M 5)), .ref a0, .ref s0, .ref r0], zO a0 0 [.int (iI (M 0)), .int (iI (M 1)), .ref a1], zO s0 2 [.int (iI (M 6)), .int (iI (M 7)), .ref s1, .ref s2, .ref s3], zA cy s2 240 (sl M 92)] := by
  intro sz
  refine zM_mk (cc := cX5_erasedSymbols) (maxL := 4) (ret := (some .int)) (own := RX5) (Qc := fun sz => va_Qi (fun r (_ : Unit) => r = iI (cntE M)) (fun _ t => zQ D (zT cy cs) (va_A [zO w0 5 [.ref d0, .ref d0k, .int (iI iK), .ref w1, .int (iI n), .ref t0, .ref w2], zO d0 3 [.int (iI (M 5)), .ref a0, .ref s0, .ref r0], zO a0 0 [.int (iI (M 0)), .int (iI (M 1)), .ref a1], zO s0 2 [.int (iI (M 6)), .int (iI (M 7)), .ref s1, .ref s2, .ref s3], zA cy s2 240 (sl M 92)] sz) [zO w0 5 [.ref d0, .ref d0k, .int (iI iK), .ref w1, .int (iI n), .ref t0, .ref w2], zO d0 3 [.int (iI (M 5)), .ref a0, .ref s0, .ref r0], zO a0 0 [.int (iI (M 0)), .int (iI (M 1)), .ref a1], zO s0 2 [.int (iI (M 6)), .int (iI (M 7)), .ref s1, .ref s2, .ref s3], zA cy s2 240 (sl M 92)] t) (va_A [zO w0 5 [.ref d0, .ref d0k, .int (iI iK), .ref w1, .int (iI n), .ref t0, .ref w2], zO d0 3 [.int (iI (M 5)), .ref a0, .ref s0, .ref r0], zO a0 0 [.int (iI (M 0)), .int (iI (M 1)), .ref a1], zO s0 2 [.int (iI (M 6)), .int (iI (M 7)), .ref s1, .ref s2, .ref s3], zA cy s2 240 (sl M 92)] sz)) (by decide) rfl rfl (Nat.le_of_ble_eq_true rfl) rfl sz ?_
  intro p e s m args below meth c ls C hr hlk hnm hl hsz hA wd
  subst hsz
  have hl : lv_has ls 4 [(0, .ref w0)] := hl
  have iX2 : ∀ w ∈ u_ws RX2 TX2 5, w ∈ wsX5_erasedSymbols := by decide +kernel
  have iX3 : ∀ w ∈ u_ws RX3 TX3 4, w ∈ wsX5_erasedSymbols := by decide +kernel
  have iX5 : ∀ w ∈ u_ws RX5 TX5 7, w ∈ wsX5_erasedSymbols := by decide +kernel
  have L12 := C.2.2.2.2 (.fieldLink RX5 12 "LikelyWalks" "now" "LLikelyWalks$State;") (by decide +kernel)
  have L55 := C.2.2.2.2 (.fieldLink RX5 55 "LikelyWalks$State" "sender" "LLikelyWalks$Sender;") (by decide +kernel)
  have L104 := C.2.2.2.2 (.fieldLink RX5 104 "LikelyWalks$Sender" "symbols" "[I") (by decide +kernel)
  refine lv_aload_n C.1 C.2.1 dX5_erasedSymbols_0 rfl (lv_at hl 0 rfl) ?_
  refine z_cvi C wd hA (As := []) (rest := []) (ws2 := [zO w0 5 [.ref d0, .ref d0k, .int (iI iK), .ref w1, .int (iI n), .ref t0, .ref w2], zO d0 3 [.int (iI (M 5)), .ref a0, .ref s0, .ref r0], zO a0 0 [.int (iI (M 0)), .int (iI (M 1)), .ref a1], zO s0 2 [.int (iI (M 6)), .int (iI (M 7)), .ref s1, .ref s2, .ref s3], zA cy s2 240 (sl M 92)]) (c_X5_lineLength l D cy cs w0 w1 w2 t0 d0 d0k a0 a1 s0 s1 s2 s3 r0 0 0 0 0 iK n 0 M ) (cwV 0 C.2.2.2.2 gX5_erasedSymbols_X5_lineLength rfl rfl rfl (by decide +kernel) ⟨Nat.le_of_ble_eq_true rfl, Nat.le_of_ble_eq_true rfl⟩) [0, 1, 2, 3] rfl rfl rfl ⟨rfl, [4], [zA cy s2 240 (sl M 92)], 5, rfl, rfl, rfl, by decide +kernel⟩ rfl rfl rfl rfl (Nat.le_of_ble_eq_true rfl) hl.1 dX5_erasedSymbols_1 ⟨Nat.zero_le _, Nat.zero_le _⟩ (fun H locs wd => ?_)
  refine lv_istore_n (lv' := [(1, .int (iI (M 7 * M 1))), (0, .ref w0)]) C.1 C.2.1 dX5_erasedSymbols_4 rfl hl (by decide) rfl (fun ls hl => ?_)
  refine z_iconst C dX5_erasedSymbols_5 ?_
  refine lv_istore_n (lv' := [(2, .int (iI 0)), (1, .int (iI (M 7 * M 1))), (0, .ref w0)]) C.1 C.2.1 dX5_erasedSymbols_6 rfl hl (by decide) rfl (fun ls hl => ?_)
  refine z_iconst C dX5_erasedSymbols_7 ?_
  refine lv_istore_n (lv' := [(3, .int (iI 0)), (2, .int (iI 0)), (1, .int (iI (M 7 * M 1))), (0, .ref w0)]) C.1 C.2.1 dX5_erasedSymbols_8 rfl hl (by decide) rfl (fun ls hl => ?_)
  refine z_loop2 (P := fun (x : Int) (k : Int) => (0 ≤ k ∧ k ≤ M 7 * M 1) ∧ (x = sm (er1 M) k.toNat)) (mu := fun (x : Int) (k : Int) => (M 7 * M 1 - k).toNat) (ws := fun (x : Int) (k : Int) => [zO w0 5 [.ref d0, .ref d0k, .int (iI iK), .ref w1, .int (iI n), .ref t0, .ref w2], zO d0 3 [.int (iI (M 5)), .ref a0, .ref s0, .ref r0], zO a0 0 [.int (iI (M 0)), .int (iI (M 1)), .ref a1], zO s0 2 [.int (iI (M 6)), .int (iI (M 7)), .ref s1, .ref s2, .ref s3], zA cy s2 240 (sl M 92)]) (lv := fun (x : Int) (k : Int) => [(0, .ref w0), (1, .int (iI (M 7 * M 1))), (2, .int (iI x)), (3, .int (iI k))]) 0 0 C ⟨(by omega), rfl⟩ wd (lv_sub hl [3, 2, 1, 0] rfl) ?_
  intro x k hP9 ih9 H locs ls wd hl
  obtain ⟨h9_0, h9_1⟩ := hP9
  try dsimp only at h9_0 h9_1
  have wd : Wd D (zT cy cs) _ s.heap s [zO w0 5 [.ref d0, .ref d0k, .int (iI iK), .ref w1, .int (iI n), .ref t0, .ref w2], zO d0 3 [.int (iI (M 5)), .ref a0, .ref s0, .ref r0], zO a0 0 [.int (iI (M 0)), .int (iI (M 1)), .ref a1], zO s0 2 [.int (iI (M 6)), .int (iI (M 7)), .ref s1, .ref s2, .ref s3], zA cy s2 240 (sl M 92)] H locs := wd
  have hl : lv_has ls 4 [(0, .ref w0), (1, .int (iI (M 7 * M 1))), (2, .int (iI x)), (3, .int (iI k))] := hl
  refine lv_iload_n C.1 C.2.1 dX5_erasedSymbols_9 rfl (lv_at hl 3 rfl) ?_
  refine lv_iload_n C.1 C.2.1 dX5_erasedSymbols_10 rfl (lv_at hl 1 rfl) ?_
  refine z_icmp_ge C (tgt := 39) dX5_erasedSymbols_11 (by decide) (by omega) (fun c_1 => ?_) (fun c_1 => ?_)
  · skip
    refine lv_iload_n C.1 C.2.1 dX5_erasedSymbols_39 rfl (lv_at hl 2 rfl) ?_
    exact z_iret C hr hlk wd (by rw [h9_1, cntE, show k = M 7 * M 1 by omega]) dX5_erasedSymbols_40
  · skip
    refine lv_aload_n C.1 C.2.1 dX5_erasedSymbols_14 rfl (lv_at hl 0 rfl) ?_
    refine z_get C wd (Cn := RX5) (TT := TX5) (N := 7) (ci := 5) iX5 0 rfl rfl 0 (by decide) L12 (fun _ h => h) rfl dX5_erasedSymbols_15 ?_
    refine z_get C wd (Cn := RX3) (TT := TX3) (N := 4) (ci := 3) iX3 1 rfl rfl 2 (by decide) L55 (fun _ h => h) rfl dX5_erasedSymbols_18 ?_
    refine z_get C wd (Cn := RX2) (TT := TX2) (N := 5) (ci := 2) iX2 3 rfl rfl 3 (by decide) L104 (fun _ h => h) rfl dX5_erasedSymbols_21 ?_
    have hx := hli k h9_0.1 (by omega)
    refine lv_iload_n C.1 C.2.1 dX5_erasedSymbols_24 rfl (lv_at hl 3 rfl) ?_
    refine z_iald C wd 4 rfl (by omega) (by decide) dX5_erasedSymbols_25 ?_
    refine z_iconst C dX5_erasedSymbols_26 ?_
    refine z_icmp_ne C (tgt := 33) dX5_erasedSymbols_27 (by decide) (by omega) (fun c_2 => ?_) (fun c_2 => ?_)
    · skip
      refine z_iinc C (lv' := [(3, .int (iI (k + 1))), (0, .ref w0), (1, .int (iI (M 7 * M 1))), (2, .int (iI x))]) hl 3 dX5_erasedSymbols_33 rfl (by decide) rfl (fun ls hl => ?_)
      refine z_goto C (tgt := 9) dX5_erasedSymbols_36 (by decide) ?_
      exact ih9 x (k + 1) ⟨(by omega), (by first | exact sm_zero h9_0.1 h9_1 (by first | exact if_pos (by omega) | exact if_neg (by omega)) | exact sm_one h9_0.1 h9_1 (by first | exact if_pos (by omega) | exact if_neg (by omega)))⟩ (by omega) H locs _ wd (lv_sub hl [1, 2, 3, 0] rfl)
    · skip
      refine z_iinc C (lv' := [(2, .int (iI (x + 1))), (0, .ref w0), (1, .int (iI (M 7 * M 1))), (3, .int (iI k))]) hl 2 dX5_erasedSymbols_30 rfl (by decide) rfl (fun ls hl => ?_)
      refine z_iinc C (lv' := [(3, .int (iI (k + 1))), (2, .int (iI (x + 1))), (0, .ref w0), (1, .int (iI (M 7 * M 1)))]) hl 3 dX5_erasedSymbols_33 rfl (by decide) rfl (fun ls hl => ?_)
      refine z_goto C (tgt := 9) dX5_erasedSymbols_36 (by decide) ?_
      exact ih9 (x + 1) (k + 1) ⟨(by omega), (by first | exact sm_zero h9_0.1 h9_1 (by first | exact if_pos (by omega) | exact if_neg (by omega)) | exact sm_one h9_0.1 h9_1 (by first | exact if_pos (by omega) | exact if_neg (by omega)))⟩ (by omega) H locs _ wd (lv_sub hl [2, 3, 1, 0] rfl)
set_option maxRecDepth 100000 in
set_option maxHeartbeats 4000000 in
theorem c_X5_flippedSymbols (l : Launch) (D : va_G) (cy cs : ClassId) (w0 w1 w2 t0 d0 d0k a0 a1 s0 s1 s2 s3 r0 r1 r2 r3 r4 : Nat) (iK n L : Int) (M : Int → Int) (hln : 0 ≤ M 7 * M 1 ∧ M 7 * M 1 ≤ 240) (hli : ∀ j : Int, 0 ≤ j → j < 240 → 0 ≤ sl M 92 j ∧ sl M 92 j ≤ 2) (hwa : ∀ j : Int, 0 ≤ j → j < 240 → 0 ≤ sl M 332 j ∧ sl M 332 j ≤ 1) : zCi l D (zT cy cs) yX5_flippedSymbols wsX5_flippedSymbols ({ frames := 1, cells := 0, slots := 0, locals := 20 } : Room) [.ref w0] [zO w0 5 [.ref d0, .ref d0k, .int (iI iK), .ref w1, .int (iI n), .ref t0, .ref w2], zO d0 3 [.int (iI (M 5)), .ref a0, .ref s0, .ref r0], zO a0 0 [.int (iI (M 0)), .int (iI (M 1)), .ref a1], zO s0 2 [.int (iI (M 6)), .int (iI (M 7)), .ref s1, .ref s2, .ref s3], zA cy s2 240 (sl M 92), zA cy s3 240 (sl M 332)] (cntF M) [zO w0 5 [.ref d0, .ref d0k, .int (iI iK), .ref w1, .int (iI n), .ref t0, .ref w2], zO d0 3 [.int (iI (M 5)), .ref a0, .ref s0, .ref r0], zO a0 0 [.int (iI (M 0)), .int (iI (M 1)), .ref a1], zO s0 2 [.int (iI (M 6)), .int (iI (M 7)), .ref s1, .ref s2, .ref s3], zA cy s2 240 (sl M 92), zA cy s3 240 (sl M 332)] := by
  intro sz
  refine zM_mk (cc := cX5_flippedSymbols) (maxL := 5) (ret := (some .int)) (own := RX5) (Qc := fun sz => va_Qi (fun r (_ : Unit) => r = iI (cntF M)) (fun _ t => zQ D (zT cy cs) (va_A [zO w0 5 [.ref d0, .ref d0k, .int (iI iK), .ref w1, .int (iI n), .ref t0, .ref w2], zO d0 3 [.int (iI (M 5)), .ref a0, .ref s0, .ref r0], zO a0 0 [.int (iI (M 0)), .int (iI (M 1)), .ref a1], zO s0 2 [.int (iI (M 6)), .int (iI (M 7)), .ref s1, .ref s2, .ref s3], zA cy s2 240 (sl M 92), zA cy s3 240 (sl M 332)] sz) [zO w0 5 [.ref d0, .ref d0k, .int (iI iK), .ref w1, .int (iI n), .ref t0, .ref w2], zO d0 3 [.int (iI (M 5)), .ref a0, .ref s0, .ref r0], zO a0 0 [.int (iI (M 0)), .int (iI (M 1)), .ref a1], zO s0 2 [.int (iI (M 6)), .int (iI (M 7)), .ref s1, .ref s2, .ref s3], zA cy s2 240 (sl M 92), zA cy s3 240 (sl M 332)] t) (va_A [zO w0 5 [.ref d0, .ref d0k, .int (iI iK), .ref w1, .int (iI n), .ref t0, .ref w2], zO d0 3 [.int (iI (M 5)), .ref a0, .ref s0, .ref r0], zO a0 0 [.int (iI (M 0)), .int (iI (M 1)), .ref a1], zO s0 2 [.int (iI (M 6)), .int (iI (M 7)), .ref s1, .ref s2, .ref s3], zA cy s2 240 (sl M 92), zA cy s3 240 (sl M 332)] sz)) (by decide) rfl rfl (Nat.le_of_ble_eq_true rfl) rfl sz ?_
  intro p e s m args below meth c ls C hr hlk hnm hl hsz hA wd
  subst hsz
  have hl : lv_has ls 5 [(0, .ref w0)] := hl
  have iX2 : ∀ w ∈ u_ws RX2 TX2 5, w ∈ wsX5_flippedSymbols := by decide +kernel
  have iX3 : ∀ w ∈ u_ws RX3 TX3 4, w ∈ wsX5_flippedSymbols := by decide +kernel
  have iX5 : ∀ w ∈ u_ws RX5 TX5 7, w ∈ wsX5_flippedSymbols := by decide +kernel
  have L12 := C.2.2.2.2 (.fieldLink RX5 12 "LikelyWalks" "now" "LLikelyWalks$State;") (by decide +kernel)
  have L55 := C.2.2.2.2 (.fieldLink RX5 55 "LikelyWalks$State" "sender" "LLikelyWalks$Sender;") (by decide +kernel)
  have L104 := C.2.2.2.2 (.fieldLink RX5 104 "LikelyWalks$Sender" "symbols" "[I") (by decide +kernel)
  have L152 := C.2.2.2.2 (.fieldLink RX5 152 "LikelyWalks$Sender" "originals" "[I") (by decide +kernel)
  refine lv_aload_n C.1 C.2.1 dX5_flippedSymbols_0 rfl (lv_at hl 0 rfl) ?_
  refine z_cvi C wd hA (As := []) (rest := []) (ws2 := [zO w0 5 [.ref d0, .ref d0k, .int (iI iK), .ref w1, .int (iI n), .ref t0, .ref w2], zO d0 3 [.int (iI (M 5)), .ref a0, .ref s0, .ref r0], zO a0 0 [.int (iI (M 0)), .int (iI (M 1)), .ref a1], zO s0 2 [.int (iI (M 6)), .int (iI (M 7)), .ref s1, .ref s2, .ref s3], zA cy s2 240 (sl M 92), zA cy s3 240 (sl M 332)]) (c_X5_lineLength l D cy cs w0 w1 w2 t0 d0 d0k a0 a1 s0 s1 s2 s3 r0 0 0 0 0 iK n 0 M ) (cwV 0 C.2.2.2.2 gX5_flippedSymbols_X5_lineLength rfl rfl rfl (by decide +kernel) ⟨Nat.le_of_ble_eq_true rfl, Nat.le_of_ble_eq_true rfl⟩) [0, 1, 2, 3] rfl rfl rfl ⟨rfl, [4, 5], [zA cy s2 240 (sl M 92), zA cy s3 240 (sl M 332)], 6, rfl, rfl, rfl, by decide +kernel⟩ rfl rfl rfl rfl (Nat.le_of_ble_eq_true rfl) hl.1 dX5_flippedSymbols_1 ⟨Nat.zero_le _, Nat.zero_le _⟩ (fun H locs wd => ?_)
  refine lv_istore_n (lv' := [(1, .int (iI (M 7 * M 1))), (0, .ref w0)]) C.1 C.2.1 dX5_flippedSymbols_4 rfl hl (by decide) rfl (fun ls hl => ?_)
  refine z_iconst C dX5_flippedSymbols_5 ?_
  refine lv_istore_n (lv' := [(2, .int (iI 0)), (1, .int (iI (M 7 * M 1))), (0, .ref w0)]) C.1 C.2.1 dX5_flippedSymbols_6 rfl hl (by decide) rfl (fun ls hl => ?_)
  refine z_iconst C dX5_flippedSymbols_7 ?_
  refine lv_istore_n (lv' := [(3, .int (iI 0)), (2, .int (iI 0)), (1, .int (iI (M 7 * M 1))), (0, .ref w0)]) C.1 C.2.1 dX5_flippedSymbols_8 rfl hl (by decide) rfl (fun ls hl => ?_)
  refine z_loop2 (P := fun (x : Int) (k : Int) => (0 ≤ k ∧ k ≤ M 7 * M 1) ∧ (x = sm (fl1 M) k.toNat)) (mu := fun (x : Int) (k : Int) => (M 7 * M 1 - k).toNat) (ws := fun (x : Int) (k : Int) => [zO w0 5 [.ref d0, .ref d0k, .int (iI iK), .ref w1, .int (iI n), .ref t0, .ref w2], zO d0 3 [.int (iI (M 5)), .ref a0, .ref s0, .ref r0], zO a0 0 [.int (iI (M 0)), .int (iI (M 1)), .ref a1], zO s0 2 [.int (iI (M 6)), .int (iI (M 7)), .ref s1, .ref s2, .ref s3], zA cy s2 240 (sl M 92), zA cy s3 240 (sl M 332)]) (lv := fun (x : Int) (k : Int) => [(0, .ref w0), (1, .int (iI (M 7 * M 1))), (2, .int (iI x)), (3, .int (iI k))]) 0 0 C ⟨(by omega), rfl⟩ wd (lv_sub hl [3, 2, 1, 0] rfl) ?_
  intro x k hP9 ih9 H locs ls wd hl
  obtain ⟨h9_0, h9_1⟩ := hP9
  try dsimp only at h9_0 h9_1
  have wd : Wd D (zT cy cs) _ s.heap s [zO w0 5 [.ref d0, .ref d0k, .int (iI iK), .ref w1, .int (iI n), .ref t0, .ref w2], zO d0 3 [.int (iI (M 5)), .ref a0, .ref s0, .ref r0], zO a0 0 [.int (iI (M 0)), .int (iI (M 1)), .ref a1], zO s0 2 [.int (iI (M 6)), .int (iI (M 7)), .ref s1, .ref s2, .ref s3], zA cy s2 240 (sl M 92), zA cy s3 240 (sl M 332)] H locs := wd
  have hl : lv_has ls 5 [(0, .ref w0), (1, .int (iI (M 7 * M 1))), (2, .int (iI x)), (3, .int (iI k))] := hl
  refine lv_iload_n C.1 C.2.1 dX5_flippedSymbols_9 rfl (lv_at hl 3 rfl) ?_
  refine lv_iload_n C.1 C.2.1 dX5_flippedSymbols_10 rfl (lv_at hl 1 rfl) ?_
  refine z_icmp_ge C (tgt := 60) dX5_flippedSymbols_11 (by decide) (by omega) (fun c_1 => ?_) (fun c_1 => ?_)
  · skip
    refine lv_iload_n C.1 C.2.1 dX5_flippedSymbols_60 rfl (lv_at hl 2 rfl) ?_
    exact z_iret C hr hlk wd (by rw [h9_1, cntF, show k = M 7 * M 1 by omega]) dX5_flippedSymbols_61
  · skip
    refine lv_aload_n C.1 C.2.1 dX5_flippedSymbols_14 rfl (lv_at hl 0 rfl) ?_
    refine z_get C wd (Cn := RX5) (TT := TX5) (N := 7) (ci := 5) iX5 0 rfl rfl 0 (by decide) L12 (fun _ h => h) rfl dX5_flippedSymbols_15 ?_
    refine z_get C wd (Cn := RX3) (TT := TX3) (N := 4) (ci := 3) iX3 1 rfl rfl 2 (by decide) L55 (fun _ h => h) rfl dX5_flippedSymbols_18 ?_
    refine z_get C wd (Cn := RX2) (TT := TX2) (N := 5) (ci := 2) iX2 3 rfl rfl 3 (by decide) L104 (fun _ h => h) rfl dX5_flippedSymbols_21 ?_
    refine lv_iload_n C.1 C.2.1 dX5_flippedSymbols_24 rfl (lv_at hl 3 rfl) ?_
    have hx := hli k h9_0.1 (by omega)
    have hy := hwa k h9_0.1 (by omega)
    refine z_iald C wd 4 rfl (by omega) (by decide) dX5_flippedSymbols_25 ?_
    refine lv_istore (lv' := [(4, .int (iI ((sl M 92) k))), (0, .ref w0), (1, .int (iI (M 7 * M 1))), (2, .int (iI x)), (3, .int (iI k))]) C.1 C.2.1 dX5_flippedSymbols_26 hl (by decide) rfl (fun ls hl => ?_)
    refine lv_iload C.1 C.2.1 dX5_flippedSymbols_28 (lv_at hl 0 rfl) ?_
    refine z_iconst C dX5_flippedSymbols_30 ?_
    refine z_icmp_eq C (tgt := 54) dX5_flippedSymbols_31 (by decide) (by omega) (fun c_2 => ?_) (fun c_2 => ?_)
    · skip
      refine z_iinc C (lv' := [(3, .int (iI (k + 1))), (4, .int (iI ((sl M 92) k))), (0, .ref w0), (1, .int (iI (M 7 * M 1))), (2, .int (iI x))]) hl 4 dX5_flippedSymbols_54 rfl (by decide) rfl (fun ls hl => ?_)
      refine z_goto C (tgt := 9) dX5_flippedSymbols_57 (by decide) ?_
      exact ih9 x (k + 1) ⟨(by omega), (by first | exact sm_zero h9_0.1 h9_1 (by first | exact if_pos (by omega) | exact if_neg (by omega)) | exact sm_one h9_0.1 h9_1 (by first | exact if_pos (by omega) | exact if_neg (by omega)))⟩ (by omega) H locs _ wd (lv_sub hl [2, 3, 4, 0] rfl)
    · skip
      refine lv_iload C.1 C.2.1 dX5_flippedSymbols_34 (lv_at hl 0 rfl) ?_
      refine lv_aload_n C.1 C.2.1 dX5_flippedSymbols_36 rfl (lv_at hl 1 rfl) ?_
      refine z_get C wd (Cn := RX5) (TT := TX5) (N := 7) (ci := 5) iX5 0 rfl rfl 0 (by decide) L12 (fun _ h => h) rfl dX5_flippedSymbols_37 ?_
      refine z_get C wd (Cn := RX3) (TT := TX3) (N := 4) (ci := 3) iX3 1 rfl rfl 2 (by decide) L55 (fun _ h => h) rfl dX5_flippedSymbols_40 ?_
      refine z_get C wd (Cn := RX2) (TT := TX2) (N := 5) (ci := 2) iX2 3 rfl rfl 4 (by decide) L152 (fun _ h => h) rfl dX5_flippedSymbols_43 ?_
      refine lv_iload_n C.1 C.2.1 dX5_flippedSymbols_46 rfl (lv_at hl 4 rfl) ?_
      refine z_iald C wd 5 rfl (by omega) (by decide) dX5_flippedSymbols_47 ?_
      refine z_icmp_eq C (tgt := 54) dX5_flippedSymbols_48 (by decide) (by omega) (fun c_3 => ?_) (fun c_3 => ?_)
      · skip
        refine z_iinc C (lv' := [(3, .int (iI (k + 1))), (4, .int (iI ((sl M 92) k))), (0, .ref w0), (1, .int (iI (M 7 * M 1))), (2, .int (iI x))]) hl 4 dX5_flippedSymbols_54 rfl (by decide) rfl (fun ls hl => ?_)
        refine z_goto C (tgt := 9) dX5_flippedSymbols_57 (by decide) ?_
        exact ih9 x (k + 1) ⟨(by omega), (by first | exact sm_zero h9_0.1 h9_1 (by first | exact if_pos (by omega) | exact if_neg (by omega)) | exact sm_one h9_0.1 h9_1 (by first | exact if_pos (by omega) | exact if_neg (by omega)))⟩ (by omega) H locs _ wd (lv_sub hl [2, 3, 4, 0] rfl)
      · skip
        refine z_iinc C (lv' := [(2, .int (iI (x + 1))), (4, .int (iI ((sl M 92) k))), (0, .ref w0), (1, .int (iI (M 7 * M 1))), (3, .int (iI k))]) hl 3 dX5_flippedSymbols_51 rfl (by decide) rfl (fun ls hl => ?_)
        refine z_iinc C (lv' := [(3, .int (iI (k + 1))), (2, .int (iI (x + 1))), (4, .int (iI ((sl M 92) k))), (0, .ref w0), (1, .int (iI (M 7 * M 1)))]) hl 4 dX5_flippedSymbols_54 rfl (by decide) rfl (fun ls hl => ?_)
        refine z_goto C (tgt := 9) dX5_flippedSymbols_57 (by decide) ?_
        exact ih9 (x + 1) (k + 1) ⟨(by omega), (by first | exact sm_zero h9_0.1 h9_1 (by first | exact if_pos (by omega) | exact if_neg (by omega)) | exact sm_one h9_0.1 h9_1 (by first | exact if_pos (by omega) | exact if_neg (by omega)))⟩ (by omega) H locs _ wd (lv_sub hl [3, 4, 1, 0] rfl)
set_option maxRecDepth 100000 in
set_option maxHeartbeats 4000000 in
theorem c_X5_step (l : Launch) (D : va_G) (cy cs : ClassId) (w0 w1 w2 t0 d0 d0k a0 a1 s0 s1 s2 s3 r0 r1 r2 r3 r4 : Nat) (iK n L : Int) (M : Int → Int) (st b x : Int) (hm : 1 ≤ M 0 ∧ M 0 ≤ 5) (ho : 2 ≤ M 1 ∧ M 1 ≤ 3) (ht : tpOk (sl M 2)) (hst : -2147483648 ≤ st ∧ st < 2147483648) (hb : -2147483648 ≤ b ∧ b < 2147483648) (hx : -2147483648 ≤ x ∧ x < 2147483648) : zCi l D (zT cy cs) yX5_step wsX5_step ({ frames := 3, cells := 0, slots := 0, locals := 67 } : Room) [.ref w0, .int (iI st), .int (iI b), .int (iI x)] [zO w0 5 [.ref d0, .ref d0k, .int (iI iK), .ref w1, .int (iI n), .ref t0, .ref w2], zO d0 3 [.int (iI (M 5)), .ref a0, .ref s0, .ref r0], zO a0 0 [.int (iI (M 0)), .int (iI (M 1)), .ref a1], zA cy a1 3 (sl M 2)] (rdStep M st b x) [zO w0 5 [.ref d0, .ref d0k, .int (iI iK), .ref w1, .int (iI n), .ref t0, .ref w2], zO d0 3 [.int (iI (M 5)), .ref a0, .ref s0, .ref r0], zO a0 0 [.int (iI (M 0)), .int (iI (M 1)), .ref a1], zA cy a1 3 (sl M 2)] := by
  intro sz
  refine zM_mk (cc := cX5_step) (maxL := 4) (ret := (some .int)) (own := RX5) (Qc := fun sz => va_Qi (fun r (_ : Unit) => r = iI (rdStep M st b x)) (fun _ t => zQ D (zT cy cs) (va_A [zO w0 5 [.ref d0, .ref d0k, .int (iI iK), .ref w1, .int (iI n), .ref t0, .ref w2], zO d0 3 [.int (iI (M 5)), .ref a0, .ref s0, .ref r0], zO a0 0 [.int (iI (M 0)), .int (iI (M 1)), .ref a1], zA cy a1 3 (sl M 2)] sz) [zO w0 5 [.ref d0, .ref d0k, .int (iI iK), .ref w1, .int (iI n), .ref t0, .ref w2], zO d0 3 [.int (iI (M 5)), .ref a0, .ref s0, .ref r0], zO a0 0 [.int (iI (M 0)), .int (iI (M 1)), .ref a1], zA cy a1 3 (sl M 2)] t) (va_A [zO w0 5 [.ref d0, .ref d0k, .int (iI iK), .ref w1, .int (iI n), .ref t0, .ref w2], zO d0 3 [.int (iI (M 5)), .ref a0, .ref s0, .ref r0], zO a0 0 [.int (iI (M 0)), .int (iI (M 1)), .ref a1], zA cy a1 3 (sl M 2)] sz)) (by decide) rfl rfl (Nat.le_of_ble_eq_true rfl) rfl sz ?_
  intro p e s m args below meth c ls C hr hlk hnm hl hsz hA wd
  subst hsz
  have hl : lv_has ls 4 [(0, .ref w0), (1, .int (iI st)), (2, .int (iI b)), (3, .int (iI x))] := hl
  have iX3 : ∀ w ∈ u_ws RX3 TX3 4, w ∈ wsX5_step := by decide +kernel
  have iX5 : ∀ w ∈ u_ws RX5 TX5 7, w ∈ wsX5_step := by decide +kernel
  have L12 := C.2.2.2.2 (.fieldLink RX5 12 "LikelyWalks" "now" "LLikelyWalks$State;") (by decide +kernel)
  have L45 := C.2.2.2.2 (.fieldLink RX5 45 "LikelyWalks$State" "code" "LLikelyWalks$Code;") (by decide +kernel)
  have hp := p2_all hm.1 hm.2
  refine lv_aload_n C.1 C.2.1 dX5_step_0 rfl (lv_at hl 0 rfl) ?_
  refine z_get C wd (Cn := RX5) (TT := TX5) (N := 7) (ci := 5) iX5 0 rfl rfl 0 (by decide) L12 (fun _ h => h) rfl dX5_step_1 ?_
  refine z_get C wd (Cn := RX3) (TT := TX3) (N := 4) (ci := 3) iX3 1 rfl rfl 1 (by decide) L45 (fun _ h => h) rfl dX5_step_4 ?_
  refine lv_iload_n C.1 C.2.1 dX5_step_7 rfl (lv_at hl 1 rfl) ?_
  refine z_cvi C wd hA (As := [.int (iI st)]) (rest := []) (ws2 := [zO w0 5 [.ref d0, .ref d0k, .int (iI iK), .ref w1, .int (iI n), .ref t0, .ref w2], zO d0 3 [.int (iI (M 5)), .ref a0, .ref s0, .ref r0], zO a0 0 [.int (iI (M 0)), .int (iI (M 1)), .ref a1], zA cy a1 3 (sl M 2)]) (c_X0_hasState l D cy cs a0 a1 (M 0) (M 1) st (by omega) (by omega)) (cwV 1 C.2.2.2.2 gX5_step_X0_hasState rfl rfl rfl (by decide +kernel) ⟨Nat.le_of_ble_eq_true rfl, Nat.le_of_ble_eq_true rfl⟩) [2] rfl rfl rfl ⟨rfl, [0, 1, 3], [zO w0 5 [.ref d0, .ref d0k, .int (iI iK), .ref w1, .int (iI n), .ref t0, .ref w2], zO d0 3 [.int (iI (M 5)), .ref a0, .ref s0, .ref r0], zA cy a1 3 (sl M 2)], 4, rfl, rfl, rfl, by decide +kernel⟩ rfl rfl rfl rfl (Nat.le_of_ble_eq_true rfl) hl.1 dX5_step_8 ⟨Nat.zero_le _, Nat.zero_le _⟩ (fun H locs wd => ?_)
  refine z_ifb_ne C (tgt := 16) dX5_step_11 (by decide) (fun c_1 => ?_) (fun c_1 => ?_)
  · skip
    refine lv_iload_n C.1 C.2.1 dX5_step_16 rfl (lv_at hl 2 rfl) ?_
    refine z_if_lt C (tgt := 34) dX5_step_17 (by decide) (by omega) (fun c_2 => ?_) (fun c_2 => ?_)
    · skip
      refine z_bipush C dX5_step_34 (by decide +kernel) ?_
      have wd := z_fld wd (ws2 := [zO w0 5 [.ref d0, .ref d0k, .int (iI iK), .ref w1, .int (iI n), .ref t0, .ref w2], zO d0 3 [.int (iI (M 5)), .ref a0, .ref s0, .ref r0], zO a0 0 [.int (iI (M 0)), .int (iI (M 1)), .ref a1], zA cy a1 3 (sl M 2)]) 2 rfl (congrArg (fun z0 => zO a0 0 [.int (iI z0), .int (iI (M 1)), .ref a1]) (show ((M 0) : Int) = M 0 from (by omega))) rfl
      have wd := z_fld wd (ws2 := [zO w0 5 [.ref d0, .ref d0k, .int (iI iK), .ref w1, .int (iI n), .ref t0, .ref w2], zO d0 3 [.int (iI (M 5)), .ref a0, .ref s0, .ref r0], zO a0 0 [.int (iI (M 0)), .int (iI (M 1)), .ref a1], zA cy a1 3 (sl M 2)]) 2 rfl (congrArg (fun z0 => zO a0 0 [.int (iI (M 0)), .int (iI z0), .ref a1]) (show ((M 1) : Int) = M 1 from (by omega))) rfl
      exact z_iret C hr hlk wd (by unfold rdStep; (repeat (first | rw [if_pos (by omega)] | rw [if_neg (by omega)])); first | done | rfl) dX5_step_36
    · skip
      refine lv_iload_n C.1 C.2.1 dX5_step_20 rfl (lv_at hl 2 rfl) ?_
      refine z_iconst C dX5_step_21 ?_
      refine z_icmp_gt C (tgt := 34) dX5_step_22 (by decide) (by omega) (fun c_3 => ?_) (fun c_3 => ?_)
      · skip
        refine z_bipush C dX5_step_34 (by decide +kernel) ?_
        have wd := z_fld wd (ws2 := [zO w0 5 [.ref d0, .ref d0k, .int (iI iK), .ref w1, .int (iI n), .ref t0, .ref w2], zO d0 3 [.int (iI (M 5)), .ref a0, .ref s0, .ref r0], zO a0 0 [.int (iI (M 0)), .int (iI (M 1)), .ref a1], zA cy a1 3 (sl M 2)]) 2 rfl (congrArg (fun z0 => zO a0 0 [.int (iI z0), .int (iI (M 1)), .ref a1]) (show ((M 0) : Int) = M 0 from (by omega))) rfl
        have wd := z_fld wd (ws2 := [zO w0 5 [.ref d0, .ref d0k, .int (iI iK), .ref w1, .int (iI n), .ref t0, .ref w2], zO d0 3 [.int (iI (M 5)), .ref a0, .ref s0, .ref r0], zO a0 0 [.int (iI (M 0)), .int (iI (M 1)), .ref a1], zA cy a1 3 (sl M 2)]) 2 rfl (congrArg (fun z0 => zO a0 0 [.int (iI (M 0)), .int (iI z0), .ref a1]) (show ((M 1) : Int) = M 1 from (by omega))) rfl
        exact z_iret C hr hlk wd (by unfold rdStep; (repeat (first | rw [if_pos (by omega)] | rw [if_neg (by omega)])); first | done | rfl) dX5_step_36
      · skip
        refine lv_iload_n C.1 C.2.1 dX5_step_25 rfl (lv_at hl 3 rfl) ?_
        refine z_if_lt C (tgt := 34) dX5_step_26 (by decide) (by omega) (fun c_4 => ?_) (fun c_4 => ?_)
        · skip
          refine z_bipush C dX5_step_34 (by decide +kernel) ?_
          have wd := z_fld wd (ws2 := [zO w0 5 [.ref d0, .ref d0k, .int (iI iK), .ref w1, .int (iI n), .ref t0, .ref w2], zO d0 3 [.int (iI (M 5)), .ref a0, .ref s0, .ref r0], zO a0 0 [.int (iI (M 0)), .int (iI (M 1)), .ref a1], zA cy a1 3 (sl M 2)]) 2 rfl (congrArg (fun z0 => zO a0 0 [.int (iI z0), .int (iI (M 1)), .ref a1]) (show ((M 0) : Int) = M 0 from (by omega))) rfl
          have wd := z_fld wd (ws2 := [zO w0 5 [.ref d0, .ref d0k, .int (iI iK), .ref w1, .int (iI n), .ref t0, .ref w2], zO d0 3 [.int (iI (M 5)), .ref a0, .ref s0, .ref r0], zO a0 0 [.int (iI (M 0)), .int (iI (M 1)), .ref a1], zA cy a1 3 (sl M 2)]) 2 rfl (congrArg (fun z0 => zO a0 0 [.int (iI (M 0)), .int (iI z0), .ref a1]) (show ((M 1) : Int) = M 1 from (by omega))) rfl
          exact z_iret C hr hlk wd (by unfold rdStep; (repeat (first | rw [if_pos (by omega)] | rw [if_neg (by omega)])); first | done | rfl) dX5_step_36
        · skip
          refine lv_iload_n C.1 C.2.1 dX5_step_29 rfl (lv_at hl 3 rfl) ?_
          refine z_iconst C dX5_step_30 ?_
          refine z_icmp_le C (tgt := 37) dX5_step_31 (by decide) (by omega) (fun c_5 => ?_) (fun c_5 => ?_)
          · skip
            refine lv_iload_n C.1 C.2.1 dX5_step_37 rfl (lv_at hl 3 rfl) ?_
            refine z_if_ne C (tgt := 56) dX5_step_38 (by decide) (by omega) (fun c_6 => ?_) (fun c_6 => ?_)
            · skip
              refine lv_aload_n C.1 C.2.1 dX5_step_56 rfl (lv_at hl 0 rfl) ?_
              refine z_get C wd (Cn := RX5) (TT := TX5) (N := 7) (ci := 5) iX5 0 rfl rfl 0 (by decide) L12 (fun _ h => h) rfl dX5_step_57 ?_
              refine z_get C wd (Cn := RX3) (TT := TX3) (N := 4) (ci := 3) iX3 1 rfl rfl 1 (by decide) L45 (fun _ h => h) rfl dX5_step_60 ?_
              refine lv_iload_n C.1 C.2.1 dX5_step_63 rfl (lv_at hl 1 rfl) ?_
              refine lv_iload_n C.1 C.2.1 dX5_step_64 rfl (lv_at hl 2 rfl) ?_
              refine z_cvi C wd hA (As := [.int (iI st), .int (iI b)]) (rest := []) (ws2 := [zO w0 5 [.ref d0, .ref d0k, .int (iI iK), .ref w1, .int (iI n), .ref t0, .ref w2], zO d0 3 [.int (iI (M 5)), .ref a0, .ref s0, .ref r0], zO a0 0 [.int (iI (M 0)), .int (iI (M 1)), .ref a1], zA cy a1 3 (sl M 2)]) (c_X0_symbolsOf l D cy cs a0 a1 (M 0) (M 1) (sl M 2) st b (by omega) (by omega) (by omega) (by omega) (by omega)) (cwV 2 C.2.2.2.2 gX5_step_X0_symbolsOf rfl rfl rfl (by decide +kernel) ⟨Nat.le_of_ble_eq_true rfl, Nat.le_of_ble_eq_true rfl⟩) [2, 3] rfl rfl rfl ⟨rfl, [0, 1], [zO w0 5 [.ref d0, .ref d0k, .int (iI iK), .ref w1, .int (iI n), .ref t0, .ref w2], zO d0 3 [.int (iI (M 5)), .ref a0, .ref s0, .ref r0]], 4, rfl, rfl, rfl, by decide +kernel⟩ rfl rfl rfl rfl (Nat.le_of_ble_eq_true rfl) hl.1 dX5_step_65 ⟨Nat.zero_le _, Nat.zero_le _⟩ (fun H locs wd => ?_)
              have wd := z_fld wd (ws2 := [zO w0 5 [.ref d0, .ref d0k, .int (iI iK), .ref w1, .int (iI n), .ref t0, .ref w2], zO d0 3 [.int (iI (M 5)), .ref a0, .ref s0, .ref r0], zO a0 0 [.int (iI (M 0)), .int (iI (M 1)), .ref a1], zA cy a1 3 (sl M 2)]) 2 rfl (congrArg (fun z0 => zO a0 0 [.int (iI z0), .int (iI (M 1)), .ref a1]) (show ((M 0) : Int) = M 0 from (by omega))) rfl
              have wd := z_fld wd (ws2 := [zO w0 5 [.ref d0, .ref d0k, .int (iI iK), .ref w1, .int (iI n), .ref t0, .ref w2], zO d0 3 [.int (iI (M 5)), .ref a0, .ref s0, .ref r0], zO a0 0 [.int (iI (M 0)), .int (iI (M 1)), .ref a1], zA cy a1 3 (sl M 2)]) 2 rfl (congrArg (fun z0 => zO a0 0 [.int (iI (M 0)), .int (iI z0), .ref a1]) (show ((M 1) : Int) = M 1 from (by omega))) rfl
              have wd := z_cell wd (ws2 := [zO w0 5 [.ref d0, .ref d0k, .int (iI iK), .ref w1, .int (iI n), .ref t0, .ref w2], zO d0 3 [.int (iI (M 5)), .ref a0, .ref s0, .ref r0], zO a0 0 [.int (iI (M 0)), .int (iI (M 1)), .ref a1], zA cy a1 3 (sl M 2)]) 3 rfl (by intro k hk0 hk1; first | rfl | omega) rfl
              exact z_iret C hr hlk wd (by unfold rdStep; (repeat (first | rw [if_pos (by omega)] | rw [if_neg (by omega)])); first | done | rfl) dX5_step_68
            · skip
              refine lv_aload_n C.1 C.2.1 dX5_step_41 rfl (lv_at hl 0 rfl) ?_
              refine z_get C wd (Cn := RX5) (TT := TX5) (N := 7) (ci := 5) iX5 0 rfl rfl 0 (by decide) L12 (fun _ h => h) rfl dX5_step_42 ?_
              refine z_get C wd (Cn := RX3) (TT := TX3) (N := 4) (ci := 3) iX3 1 rfl rfl 1 (by decide) L45 (fun _ h => h) rfl dX5_step_45 ?_
              refine lv_iload_n C.1 C.2.1 dX5_step_48 rfl (lv_at hl 1 rfl) ?_
              refine lv_iload_n C.1 C.2.1 dX5_step_49 rfl (lv_at hl 2 rfl) ?_
              refine z_cvi C wd hA (As := [.int (iI st), .int (iI b)]) (rest := []) (ws2 := [zO w0 5 [.ref d0, .ref d0k, .int (iI iK), .ref w1, .int (iI n), .ref t0, .ref w2], zO d0 3 [.int (iI (M 5)), .ref a0, .ref s0, .ref r0], zO a0 0 [.int (iI (M 0)), .int (iI (M 1)), .ref a1], zA cy a1 3 (sl M 2)]) (c_X0_stateAfter l D cy cs a0 a1 (M 0) (M 1) st b (by omega) (by omega) (by omega)) (cwV 2 C.2.2.2.2 gX5_step_X0_stateAfter rfl rfl rfl (by decide +kernel) ⟨Nat.le_of_ble_eq_true rfl, Nat.le_of_ble_eq_true rfl⟩) [2] rfl rfl rfl ⟨rfl, [0, 1, 3], [zO w0 5 [.ref d0, .ref d0k, .int (iI iK), .ref w1, .int (iI n), .ref t0, .ref w2], zO d0 3 [.int (iI (M 5)), .ref a0, .ref s0, .ref r0], zA cy a1 3 (sl M 2)], 4, rfl, rfl, rfl, by decide +kernel⟩ rfl rfl rfl rfl (Nat.le_of_ble_eq_true rfl) hl.1 dX5_step_50 ⟨Nat.zero_le _, Nat.zero_le _⟩ (fun H locs wd => ?_)
              refine z_goto C (tgt := 68) dX5_step_53 (by decide) ?_
              have wd := z_fld wd (ws2 := [zO w0 5 [.ref d0, .ref d0k, .int (iI iK), .ref w1, .int (iI n), .ref t0, .ref w2], zO d0 3 [.int (iI (M 5)), .ref a0, .ref s0, .ref r0], zO a0 0 [.int (iI (M 0)), .int (iI (M 1)), .ref a1], zA cy a1 3 (sl M 2)]) 2 rfl (congrArg (fun z0 => zO a0 0 [.int (iI z0), .int (iI (M 1)), .ref a1]) (show ((M 0) : Int) = M 0 from (by omega))) rfl
              have wd := z_fld wd (ws2 := [zO w0 5 [.ref d0, .ref d0k, .int (iI iK), .ref w1, .int (iI n), .ref t0, .ref w2], zO d0 3 [.int (iI (M 5)), .ref a0, .ref s0, .ref r0], zO a0 0 [.int (iI (M 0)), .int (iI (M 1)), .ref a1], zA cy a1 3 (sl M 2)]) 2 rfl (congrArg (fun z0 => zO a0 0 [.int (iI (M 0)), .int (iI z0), .ref a1]) (show ((M 1) : Int) = M 1 from (by omega))) rfl
              exact z_iret C hr hlk wd (by unfold rdStep; (repeat (first | rw [if_pos (by omega)] | rw [if_neg (by omega)])); first | done | rfl) dX5_step_68
          · skip
            refine z_bipush C dX5_step_34 (by decide +kernel) ?_
            have wd := z_fld wd (ws2 := [zO w0 5 [.ref d0, .ref d0k, .int (iI iK), .ref w1, .int (iI n), .ref t0, .ref w2], zO d0 3 [.int (iI (M 5)), .ref a0, .ref s0, .ref r0], zO a0 0 [.int (iI (M 0)), .int (iI (M 1)), .ref a1], zA cy a1 3 (sl M 2)]) 2 rfl (congrArg (fun z0 => zO a0 0 [.int (iI z0), .int (iI (M 1)), .ref a1]) (show ((M 0) : Int) = M 0 from (by omega))) rfl
            have wd := z_fld wd (ws2 := [zO w0 5 [.ref d0, .ref d0k, .int (iI iK), .ref w1, .int (iI n), .ref t0, .ref w2], zO d0 3 [.int (iI (M 5)), .ref a0, .ref s0, .ref r0], zO a0 0 [.int (iI (M 0)), .int (iI (M 1)), .ref a1], zA cy a1 3 (sl M 2)]) 2 rfl (congrArg (fun z0 => zO a0 0 [.int (iI (M 0)), .int (iI z0), .ref a1]) (show ((M 1) : Int) = M 1 from (by omega))) rfl
            exact z_iret C hr hlk wd (by unfold rdStep; (repeat (first | rw [if_pos (by omega)] | rw [if_neg (by omega)])); first | done | rfl) dX5_step_36
  · skip
    refine z_iconst C dX5_step_14 ?_
    have wd := z_fld wd (ws2 := [zO w0 5 [.ref d0, .ref d0k, .int (iI iK), .ref w1, .int (iI n), .ref t0, .ref w2], zO d0 3 [.int (iI (M 5)), .ref a0, .ref s0, .ref r0], zO a0 0 [.int (iI (M 0)), .int (iI (M 1)), .ref a1], zA cy a1 3 (sl M 2)]) 2 rfl (congrArg (fun z0 => zO a0 0 [.int (iI z0), .int (iI (M 1)), .ref a1]) (show ((M 0) : Int) = M 0 from (by omega))) rfl
    have wd := z_fld wd (ws2 := [zO w0 5 [.ref d0, .ref d0k, .int (iI iK), .ref w1, .int (iI n), .ref t0, .ref w2], zO d0 3 [.int (iI (M 5)), .ref a0, .ref s0, .ref r0], zO a0 0 [.int (iI (M 0)), .int (iI (M 1)), .ref a1], zA cy a1 3 (sl M 2)]) 2 rfl (congrArg (fun z0 => zO a0 0 [.int (iI (M 0)), .int (iI z0), .ref a1]) (show ((M 1) : Int) = M 1 from (by omega))) rfl
    exact z_iret C hr hlk wd (by unfold rdStep; (repeat (first | rw [if_pos (by omega)] | rw [if_neg (by omega)])); first | done | rfl) dX5_step_15
set_option maxRecDepth 100000 in
set_option maxHeartbeats 4000000 in
theorem c_X5_line (l : Launch) (D : va_G) (cy cs : ClassId) (w0 w1 w2 t0 d0 d0k a0 a1 s0 s1 s2 s3 r0 r1 r2 r3 r4 : Nat) (iK n L : Int) (M : Int → Int) (k x : Int) (hln : 0 ≤ M 7 * M 1 ∧ M 7 * M 1 ≤ 240) (hlt : 0 ≤ L * M 1 ∧ L * M 1 ≤ 240) (h8 : M 8 = L * M 1) (hk : -2147483648 ≤ k ∧ k < 2147483648) (hx : -2147483648 ≤ x ∧ x < 2147483648) : zCi l D (zT cy cs) yX5_line wsX5_line ({ frames := 2, cells := 0, slots := 0, locals := 41 } : Room) [.ref w0, .int (iI k), .int (iI x)] [zO w0 5 [.ref d0, .ref d0k, .int (iI iK), .ref w1, .int (iI n), .ref t0, .ref w2], zO d0 3 [.int (iI (M 5)), .ref a0, .ref s0, .ref r0], zO a0 0 [.int (iI (M 0)), .int (iI (M 1)), .ref a1], zO s0 2 [.int (iI (M 6)), .int (iI (M 7)), .ref s1, .ref s2, .ref s3], zA cy s2 240 (sl M 92), zA cy s3 240 (sl M 332), zO r0 1 [.int (iI (M 9)), .int (iI L), .int (iI (M 10)), .int (iI (M 11)), .ref r1, .ref r2, .ref r3, .ref r4]] (rdLine M k x) [zO w0 5 [.ref d0, .ref d0k, .int (iI iK), .ref w1, .int (iI n), .ref t0, .ref w2], zO d0 3 [.int (iI (M 5)), .ref a0, .ref s0, .ref r0], zO a0 0 [.int (iI (M 0)), .int (iI (M 1)), .ref a1], zO s0 2 [.int (iI (M 6)), .int (iI (M 7)), .ref s1, .ref s2, .ref s3], zA cy s2 240 (sl M 92), zA cy s3 240 (sl M 332), zO r0 1 [.int (iI (M 9)), .int (iI L), .int (iI (M 10)), .int (iI (M 11)), .ref r1, .ref r2, .ref r3, .ref r4]] := by
  intro sz
  refine zM_mk (cc := cX5_line) (maxL := 3) (ret := (some .int)) (own := RX5) (Qc := fun sz => va_Qi (fun r (_ : Unit) => r = iI (rdLine M k x)) (fun _ t => zQ D (zT cy cs) (va_A [zO w0 5 [.ref d0, .ref d0k, .int (iI iK), .ref w1, .int (iI n), .ref t0, .ref w2], zO d0 3 [.int (iI (M 5)), .ref a0, .ref s0, .ref r0], zO a0 0 [.int (iI (M 0)), .int (iI (M 1)), .ref a1], zO s0 2 [.int (iI (M 6)), .int (iI (M 7)), .ref s1, .ref s2, .ref s3], zA cy s2 240 (sl M 92), zA cy s3 240 (sl M 332), zO r0 1 [.int (iI (M 9)), .int (iI L), .int (iI (M 10)), .int (iI (M 11)), .ref r1, .ref r2, .ref r3, .ref r4]] sz) [zO w0 5 [.ref d0, .ref d0k, .int (iI iK), .ref w1, .int (iI n), .ref t0, .ref w2], zO d0 3 [.int (iI (M 5)), .ref a0, .ref s0, .ref r0], zO a0 0 [.int (iI (M 0)), .int (iI (M 1)), .ref a1], zO s0 2 [.int (iI (M 6)), .int (iI (M 7)), .ref s1, .ref s2, .ref s3], zA cy s2 240 (sl M 92), zA cy s3 240 (sl M 332), zO r0 1 [.int (iI (M 9)), .int (iI L), .int (iI (M 10)), .int (iI (M 11)), .ref r1, .ref r2, .ref r3, .ref r4]] t) (va_A [zO w0 5 [.ref d0, .ref d0k, .int (iI iK), .ref w1, .int (iI n), .ref t0, .ref w2], zO d0 3 [.int (iI (M 5)), .ref a0, .ref s0, .ref r0], zO a0 0 [.int (iI (M 0)), .int (iI (M 1)), .ref a1], zO s0 2 [.int (iI (M 6)), .int (iI (M 7)), .ref s1, .ref s2, .ref s3], zA cy s2 240 (sl M 92), zA cy s3 240 (sl M 332), zO r0 1 [.int (iI (M 9)), .int (iI L), .int (iI (M 10)), .int (iI (M 11)), .ref r1, .ref r2, .ref r3, .ref r4]] sz)) (by decide) rfl rfl (Nat.le_of_ble_eq_true rfl) rfl sz ?_
  intro p e s m args below meth c ls C hr hlk hnm hl hsz hA wd
  subst hsz
  have hl : lv_has ls 3 [(0, .ref w0), (1, .int (iI k)), (2, .int (iI x))] := hl
  have iX2 : ∀ w ∈ u_ws RX2 TX2 5, w ∈ wsX5_line := by decide +kernel
  have iX3 : ∀ w ∈ u_ws RX3 TX3 4, w ∈ wsX5_line := by decide +kernel
  have iX5 : ∀ w ∈ u_ws RX5 TX5 7, w ∈ wsX5_line := by decide +kernel
  have L12 := C.2.2.2.2 (.fieldLink RX5 12 "LikelyWalks" "now" "LLikelyWalks$State;") (by decide +kernel)
  have L55 := C.2.2.2.2 (.fieldLink RX5 55 "LikelyWalks$State" "sender" "LLikelyWalks$Sender;") (by decide +kernel)
  have L104 := C.2.2.2.2 (.fieldLink RX5 104 "LikelyWalks$Sender" "symbols" "[I") (by decide +kernel)
  have L152 := C.2.2.2.2 (.fieldLink RX5 152 "LikelyWalks$Sender" "originals" "[I") (by decide +kernel)
  refine lv_aload_n C.1 C.2.1 dX5_line_0 rfl (lv_at hl 0 rfl) ?_
  refine lv_iload_n C.1 C.2.1 dX5_line_1 rfl (lv_at hl 1 rfl) ?_
  refine z_cvi C wd hA (As := [.int (iI k)]) (rest := []) (ws2 := [zO w0 5 [.ref d0, .ref d0k, .int (iI iK), .ref w1, .int (iI n), .ref t0, .ref w2], zO d0 3 [.int (iI (M 5)), .ref a0, .ref s0, .ref r0], zO a0 0 [.int (iI (M 0)), .int (iI (M 1)), .ref a1], zO s0 2 [.int (iI (M 6)), .int (iI (M 7)), .ref s1, .ref s2, .ref s3], zA cy s2 240 (sl M 92), zA cy s3 240 (sl M 332), zO r0 1 [.int (iI (M 9)), .int (iI L), .int (iI (M 10)), .int (iI (M 11)), .ref r1, .ref r2, .ref r3, .ref r4]]) (c_X5_isOnLine l D cy cs w0 w1 w2 t0 d0 d0k a0 a1 s0 s1 s2 s3 r0 0 0 0 0 iK n 0 M k (by omega) (by omega)) (cwV 1 C.2.2.2.2 gX5_line_X5_isOnLine rfl rfl rfl (by decide +kernel) ⟨Nat.le_of_ble_eq_true rfl, Nat.le_of_ble_eq_true rfl⟩) [0, 1, 2, 3] rfl rfl rfl ⟨rfl, [4, 5, 6], [zA cy s2 240 (sl M 92), zA cy s3 240 (sl M 332), zO r0 1 [.int (iI (M 9)), .int (iI L), .int (iI (M 10)), .int (iI (M 11)), .ref r1, .ref r2, .ref r3, .ref r4]], 7, rfl, rfl, rfl, by decide +kernel⟩ rfl rfl rfl rfl (Nat.le_of_ble_eq_true rfl) hl.1 dX5_line_2 ⟨Nat.zero_le _, Nat.zero_le _⟩ (fun H locs wd => ?_)
  refine z_ifb_ne C (tgt := 10) dX5_line_5 (by decide) (fun c_1 => ?_) (fun c_1 => ?_)
  · skip
    refine lv_iload_n C.1 C.2.1 dX5_line_10 rfl (lv_at hl 2 rfl) ?_
    rcases Int.lt_or_le x 0 with c_2 | c_2
    · skip
      refine lv_tableOut (tgt := 76) C.1 C.2.1 dX5_line_11 (Or.inl (by rw [iI_toInt (by omega) (by omega)]; exact c_2)) (by decide) ?_
      refine z_bipush C dX5_line_76 (by decide +kernel) ?_
      exact z_iret C hr hlk wd (by unfold rdLine; (repeat (first | rw [if_pos (by omega)] | rw [if_neg (by omega)])); first | done | rfl) dX5_line_78
    rcases Int.lt_or_le 2 x with c_2 | c_2b
    · skip
      refine lv_tableOut (tgt := 76) C.1 C.2.1 dX5_line_11 (Or.inr (by rw [iI_toInt (by omega) (by omega)]; exact c_2)) (by decide) ?_
      refine z_bipush C dX5_line_76 (by decide +kernel) ?_
      exact z_iret C hr hlk wd (by unfold rdLine; (repeat (first | rw [if_pos (by omega)] | rw [if_neg (by omega)])); first | done | rfl) dX5_line_78
    rcases (show x = 0 ∨ x = 1 ∨ x = 2 by omega) with c_2c | c_2c | c_2c
    · skip
      refine lv_tableIn (tgt := 36) (off := 25) C.1 C.2.1 dX5_line_11 (by rw [iI_toInt (by omega) (by omega)]; omega) (by rw [iI_toInt (by omega) (by omega)]; omega) (by rw [iI_toInt (by omega) (by omega), c_2c]; rfl) (by decide) ?_
      refine lv_aload_n C.1 C.2.1 dX5_line_36 rfl (lv_at hl 0 rfl) ?_
      refine z_get C wd (Cn := RX5) (TT := TX5) (N := 7) (ci := 5) iX5 0 rfl rfl 0 (by decide) L12 (fun _ h => h) rfl dX5_line_37 ?_
      refine z_get C wd (Cn := RX3) (TT := TX3) (N := 4) (ci := 3) iX3 1 rfl rfl 2 (by decide) L55 (fun _ h => h) rfl dX5_line_40 ?_
      refine z_get C wd (Cn := RX2) (TT := TX2) (N := 5) (ci := 2) iX2 3 rfl rfl 3 (by decide) L104 (fun _ h => h) rfl dX5_line_43 ?_
      refine lv_iload_n C.1 C.2.1 dX5_line_46 rfl (lv_at hl 1 rfl) ?_
      refine z_iald C wd 4 rfl (by omega) (by decide) dX5_line_47 ?_
      exact z_iret C hr hlk wd (by unfold rdLine; (repeat (first | rw [if_pos (by omega)] | rw [if_neg (by omega)])); first | done | rfl) dX5_line_48
    · skip
      refine lv_tableIn (tgt := 49) (off := 38) C.1 C.2.1 dX5_line_11 (by rw [iI_toInt (by omega) (by omega)]; omega) (by rw [iI_toInt (by omega) (by omega)]; omega) (by rw [iI_toInt (by omega) (by omega), c_2c]; rfl) (by decide) ?_
      refine lv_aload_n C.1 C.2.1 dX5_line_49 rfl (lv_at hl 0 rfl) ?_
      refine z_get C wd (Cn := RX5) (TT := TX5) (N := 7) (ci := 5) iX5 0 rfl rfl 0 (by decide) L12 (fun _ h => h) rfl dX5_line_50 ?_
      refine z_get C wd (Cn := RX3) (TT := TX3) (N := 4) (ci := 3) iX3 1 rfl rfl 2 (by decide) L55 (fun _ h => h) rfl dX5_line_53 ?_
      refine z_get C wd (Cn := RX2) (TT := TX2) (N := 5) (ci := 2) iX2 3 rfl rfl 4 (by decide) L152 (fun _ h => h) rfl dX5_line_56 ?_
      refine lv_iload_n C.1 C.2.1 dX5_line_59 rfl (lv_at hl 1 rfl) ?_
      refine z_iald C wd 5 rfl (by omega) (by decide) dX5_line_60 ?_
      exact z_iret C hr hlk wd (by unfold rdLine; (repeat (first | rw [if_pos (by omega)] | rw [if_neg (by omega)])); first | done | rfl) dX5_line_61
    · skip
      refine lv_tableIn (tgt := 62) (off := 51) C.1 C.2.1 dX5_line_11 (by rw [iI_toInt (by omega) (by omega)]; omega) (by rw [iI_toInt (by omega) (by omega)]; omega) (by rw [iI_toInt (by omega) (by omega), c_2c]; rfl) (by decide) ?_
      refine lv_aload_n C.1 C.2.1 dX5_line_62 rfl (lv_at hl 0 rfl) ?_
      refine lv_iload_n C.1 C.2.1 dX5_line_63 rfl (lv_at hl 1 rfl) ?_
      refine z_cvi C wd hA (As := [.int (iI k)]) (rest := []) (ws2 := [zO w0 5 [.ref d0, .ref d0k, .int (iI iK), .ref w1, .int (iI n), .ref t0, .ref w2], zO d0 3 [.int (iI (M 5)), .ref a0, .ref s0, .ref r0], zO a0 0 [.int (iI (M 0)), .int (iI (M 1)), .ref a1], zO s0 2 [.int (iI (M 6)), .int (iI (M 7)), .ref s1, .ref s2, .ref s3], zA cy s2 240 (sl M 92), zA cy s3 240 (sl M 332), zO r0 1 [.int (iI (M 9)), .int (iI L), .int (iI (M 10)), .int (iI (M 11)), .ref r1, .ref r2, .ref r3, .ref r4]]) (c_X5_isTaken l D cy cs w0 w1 w2 t0 d0 d0k a0 a1 s0 0 0 0 r0 r1 r2 r3 r4 iK n L M k (by omega) (by omega)) (cwV 1 C.2.2.2.2 gX5_line_X5_isTaken rfl rfl rfl (by decide +kernel) ⟨Nat.le_of_ble_eq_true rfl, Nat.le_of_ble_eq_true rfl⟩) [0, 1, 2, 6] rfl rfl rfl ⟨rfl, [3, 4, 5], [zO s0 2 [.int (iI (M 6)), .int (iI (M 7)), .ref s1, .ref s2, .ref s3], zA cy s2 240 (sl M 92), zA cy s3 240 (sl M 332)], 7, rfl, rfl, rfl, by decide +kernel⟩ rfl rfl rfl rfl (Nat.le_of_ble_eq_true rfl) hl.1 dX5_line_64 ⟨Nat.zero_le _, Nat.zero_le _⟩ (fun H locs wd => ?_)
      refine z_ifb_eq C (tgt := 74) dX5_line_67 (by decide) (fun c_3 => ?_) (fun c_3 => ?_)
      · skip
        refine z_iconst C dX5_line_74 ?_
        exact z_iret C hr hlk wd (by unfold rdLine; (repeat (first | rw [if_pos (by omega)] | rw [if_neg (by omega)])); first | done | rfl) dX5_line_75
      · skip
        refine z_iconst C dX5_line_70 ?_
        refine z_goto C (tgt := 75) dX5_line_71 (by decide) ?_
        exact z_iret C hr hlk wd (by unfold rdLine; (repeat (first | rw [if_pos (by omega)] | rw [if_neg (by omega)])); first | done | rfl) dX5_line_75
  · skip
    refine z_iconst C dX5_line_8 ?_
    exact z_iret C hr hlk wd (by unfold rdLine; (repeat (first | rw [if_pos (by omega)] | rw [if_neg (by omega)])); first | done | rfl) dX5_line_9
set_option maxRecDepth 100000 in
set_option maxHeartbeats 4000000 in
theorem c_X5_sent (l : Launch) (D : va_G) (cy cs : ClassId) (w0 w1 w2 t0 d0 d0k a0 a1 s0 s1 s2 s3 r0 r1 r2 r3 r4 : Nat) (iK n L : Int) (M : Int → Int) (k : Int) (h7 : 0 ≤ M 7 ∧ M 7 ≤ 80) (hk : -2147483648 ≤ k ∧ k < 2147483648) : zCi l D (zT cy cs) yX5_sent wsX5_sent ({ frames := 0, cells := 0, slots := 0, locals := 0 } : Room) [.ref w0, .int (iI k)] [zO w0 5 [.ref d0, .ref d0k, .int (iI iK), .ref w1, .int (iI n), .ref t0, .ref w2], zO d0 3 [.int (iI (M 5)), .ref a0, .ref s0, .ref r0], zO s0 2 [.int (iI (M 6)), .int (iI (M 7)), .ref s1, .ref s2, .ref s3], zA cy s1 80 (sl M 12)] (rdSent M k) [zO w0 5 [.ref d0, .ref d0k, .int (iI iK), .ref w1, .int (iI n), .ref t0, .ref w2], zO d0 3 [.int (iI (M 5)), .ref a0, .ref s0, .ref r0], zO s0 2 [.int (iI (M 6)), .int (iI (M 7)), .ref s1, .ref s2, .ref s3], zA cy s1 80 (sl M 12)] := by
  intro sz
  refine zM_mk (cc := cX5_sent) (maxL := 2) (ret := (some .int)) (own := RX5) (Qc := fun sz => va_Qi (fun r (_ : Unit) => r = iI (rdSent M k)) (fun _ t => zQ D (zT cy cs) (va_A [zO w0 5 [.ref d0, .ref d0k, .int (iI iK), .ref w1, .int (iI n), .ref t0, .ref w2], zO d0 3 [.int (iI (M 5)), .ref a0, .ref s0, .ref r0], zO s0 2 [.int (iI (M 6)), .int (iI (M 7)), .ref s1, .ref s2, .ref s3], zA cy s1 80 (sl M 12)] sz) [zO w0 5 [.ref d0, .ref d0k, .int (iI iK), .ref w1, .int (iI n), .ref t0, .ref w2], zO d0 3 [.int (iI (M 5)), .ref a0, .ref s0, .ref r0], zO s0 2 [.int (iI (M 6)), .int (iI (M 7)), .ref s1, .ref s2, .ref s3], zA cy s1 80 (sl M 12)] t) (va_A [zO w0 5 [.ref d0, .ref d0k, .int (iI iK), .ref w1, .int (iI n), .ref t0, .ref w2], zO d0 3 [.int (iI (M 5)), .ref a0, .ref s0, .ref r0], zO s0 2 [.int (iI (M 6)), .int (iI (M 7)), .ref s1, .ref s2, .ref s3], zA cy s1 80 (sl M 12)] sz)) (by decide) rfl rfl (Nat.le_of_ble_eq_true rfl) rfl sz ?_
  intro p e s m args below meth c ls C hr hlk hnm hl hsz hA wd
  subst hsz
  have hl : lv_has ls 2 [(0, .ref w0), (1, .int (iI k))] := hl
  have iX2 : ∀ w ∈ u_ws RX2 TX2 5, w ∈ wsX5_sent := by decide +kernel
  have iX3 : ∀ w ∈ u_ws RX3 TX3 4, w ∈ wsX5_sent := by decide +kernel
  have iX5 : ∀ w ∈ u_ws RX5 TX5 7, w ∈ wsX5_sent := by decide +kernel
  have L12 := C.2.2.2.2 (.fieldLink RX5 12 "LikelyWalks" "now" "LLikelyWalks$State;") (by decide +kernel)
  have L55 := C.2.2.2.2 (.fieldLink RX5 55 "LikelyWalks$State" "sender" "LLikelyWalks$Sender;") (by decide +kernel)
  have L84 := C.2.2.2.2 (.fieldLink RX5 84 "LikelyWalks$Sender" "bitCount" "I") (by decide +kernel)
  have L155 := C.2.2.2.2 (.fieldLink RX5 155 "LikelyWalks$Sender" "bits" "[I") (by decide +kernel)
  refine lv_iload_n C.1 C.2.1 dX5_sent_0 rfl (lv_at hl 1 rfl) ?_
  refine z_if_lt C (tgt := 18) dX5_sent_1 (by decide) (by omega) (fun c_1 => ?_) (fun c_1 => ?_)
  · skip
    refine z_iconst C dX5_sent_18 ?_
    exact z_iret C hr hlk wd (by unfold rdSent; (repeat (first | rw [if_pos (by omega)] | rw [if_neg (by omega)])); first | done | rfl) dX5_sent_19
  · skip
    refine lv_iload_n C.1 C.2.1 dX5_sent_4 rfl (lv_at hl 1 rfl) ?_
    refine lv_aload_n C.1 C.2.1 dX5_sent_5 rfl (lv_at hl 0 rfl) ?_
    refine z_get C wd (Cn := RX5) (TT := TX5) (N := 7) (ci := 5) iX5 0 rfl rfl 0 (by decide) L12 (fun _ h => h) rfl dX5_sent_6 ?_
    refine z_get C wd (Cn := RX3) (TT := TX3) (N := 4) (ci := 3) iX3 1 rfl rfl 2 (by decide) L55 (fun _ h => h) rfl dX5_sent_9 ?_
    refine z_get C wd (Cn := RX2) (TT := TX2) (N := 5) (ci := 2) iX2 2 rfl rfl 1 (by decide) L84 (fun _ h => h) rfl dX5_sent_12 ?_
    refine z_icmp_lt C (tgt := 20) dX5_sent_15 (by decide) (by omega) (fun c_2 => ?_) (fun c_2 => ?_)
    · skip
      refine lv_aload_n C.1 C.2.1 dX5_sent_20 rfl (lv_at hl 0 rfl) ?_
      refine z_get C wd (Cn := RX5) (TT := TX5) (N := 7) (ci := 5) iX5 0 rfl rfl 0 (by decide) L12 (fun _ h => h) rfl dX5_sent_21 ?_
      refine z_get C wd (Cn := RX3) (TT := TX3) (N := 4) (ci := 3) iX3 1 rfl rfl 2 (by decide) L55 (fun _ h => h) rfl dX5_sent_24 ?_
      refine z_get C wd (Cn := RX2) (TT := TX2) (N := 5) (ci := 2) iX2 2 rfl rfl 2 (by decide) L155 (fun _ h => h) rfl dX5_sent_27 ?_
      refine lv_iload_n C.1 C.2.1 dX5_sent_30 rfl (lv_at hl 1 rfl) ?_
      refine z_iald C wd 3 rfl (by omega) (by decide) dX5_sent_31 ?_
      exact z_iret C hr hlk wd (by unfold rdSent; (repeat (first | rw [if_pos (by omega)] | rw [if_neg (by omega)])); first | done | rfl) dX5_sent_32
    · skip
      refine z_iconst C dX5_sent_18 ?_
      exact z_iret C hr hlk wd (by unfold rdSent; (repeat (first | rw [if_pos (by omega)] | rw [if_neg (by omega)])); first | done | rfl) dX5_sent_19
set_option maxRecDepth 100000 in
set_option maxHeartbeats 4000000 in
theorem c_X5_released (l : Launch) (D : va_G) (cy cs : ClassId) (w0 w1 w2 t0 d0 d0k a0 a1 s0 s1 s2 s3 r0 r1 r2 r3 r4 : Nat) (iK n L : Int) (M : Int → Int) (k : Int) (h10 : 0 ≤ M 10 ∧ M 10 ≤ 80) (hk : -2147483648 ≤ k ∧ k < 2147483648) : zCi l D (zT cy cs) yX5_released wsX5_released ({ frames := 0, cells := 0, slots := 0, locals := 0 } : Room) [.ref w0, .int (iI k)] [zO w0 5 [.ref d0, .ref d0k, .int (iI iK), .ref w1, .int (iI n), .ref t0, .ref w2], zO d0 3 [.int (iI (M 5)), .ref a0, .ref s0, .ref r0], zO r0 1 [.int (iI (M 9)), .int (iI L), .int (iI (M 10)), .int (iI (M 11)), .ref r1, .ref r2, .ref r3, .ref r4], zA cy r1 80 (sl M 604)] (rdRel M k) [zO w0 5 [.ref d0, .ref d0k, .int (iI iK), .ref w1, .int (iI n), .ref t0, .ref w2], zO d0 3 [.int (iI (M 5)), .ref a0, .ref s0, .ref r0], zO r0 1 [.int (iI (M 9)), .int (iI L), .int (iI (M 10)), .int (iI (M 11)), .ref r1, .ref r2, .ref r3, .ref r4], zA cy r1 80 (sl M 604)] := by
  intro sz
  refine zM_mk (cc := cX5_released) (maxL := 2) (ret := (some .int)) (own := RX5) (Qc := fun sz => va_Qi (fun r (_ : Unit) => r = iI (rdRel M k)) (fun _ t => zQ D (zT cy cs) (va_A [zO w0 5 [.ref d0, .ref d0k, .int (iI iK), .ref w1, .int (iI n), .ref t0, .ref w2], zO d0 3 [.int (iI (M 5)), .ref a0, .ref s0, .ref r0], zO r0 1 [.int (iI (M 9)), .int (iI L), .int (iI (M 10)), .int (iI (M 11)), .ref r1, .ref r2, .ref r3, .ref r4], zA cy r1 80 (sl M 604)] sz) [zO w0 5 [.ref d0, .ref d0k, .int (iI iK), .ref w1, .int (iI n), .ref t0, .ref w2], zO d0 3 [.int (iI (M 5)), .ref a0, .ref s0, .ref r0], zO r0 1 [.int (iI (M 9)), .int (iI L), .int (iI (M 10)), .int (iI (M 11)), .ref r1, .ref r2, .ref r3, .ref r4], zA cy r1 80 (sl M 604)] t) (va_A [zO w0 5 [.ref d0, .ref d0k, .int (iI iK), .ref w1, .int (iI n), .ref t0, .ref w2], zO d0 3 [.int (iI (M 5)), .ref a0, .ref s0, .ref r0], zO r0 1 [.int (iI (M 9)), .int (iI L), .int (iI (M 10)), .int (iI (M 11)), .ref r1, .ref r2, .ref r3, .ref r4], zA cy r1 80 (sl M 604)] sz)) (by decide) rfl rfl (Nat.le_of_ble_eq_true rfl) rfl sz ?_
  intro p e s m args below meth c ls C hr hlk hnm hl hsz hA wd
  subst hsz
  have hl : lv_has ls 2 [(0, .ref w0), (1, .int (iI k))] := hl
  have iX1 : ∀ w ∈ u_ws RX1 TX1 8, w ∈ wsX5_released := by decide +kernel
  have iX3 : ∀ w ∈ u_ws RX3 TX3 4, w ∈ wsX5_released := by decide +kernel
  have iX5 : ∀ w ∈ u_ws RX5 TX5 7, w ∈ wsX5_released := by decide +kernel
  have L12 := C.2.2.2.2 (.fieldLink RX5 12 "LikelyWalks" "now" "LLikelyWalks$State;") (by decide +kernel)
  have L64 := C.2.2.2.2 (.fieldLink RX5 64 "LikelyWalks$State" "reader" "LLikelyWalks$Reader;") (by decide +kernel)
  have L120 := C.2.2.2.2 (.fieldLink RX5 120 "LikelyWalks$Reader" "releasedCount" "I") (by decide +kernel)
  have L158 := C.2.2.2.2 (.fieldLink RX5 158 "LikelyWalks$Reader" "releasedBits" "[I") (by decide +kernel)
  refine lv_iload_n C.1 C.2.1 dX5_released_0 rfl (lv_at hl 1 rfl) ?_
  refine z_if_lt C (tgt := 18) dX5_released_1 (by decide) (by omega) (fun c_1 => ?_) (fun c_1 => ?_)
  · skip
    refine z_iconst C dX5_released_18 ?_
    exact z_iret C hr hlk wd (by unfold rdRel; (repeat (first | rw [if_pos (by omega)] | rw [if_neg (by omega)])); first | done | rfl) dX5_released_19
  · skip
    refine lv_iload_n C.1 C.2.1 dX5_released_4 rfl (lv_at hl 1 rfl) ?_
    refine lv_aload_n C.1 C.2.1 dX5_released_5 rfl (lv_at hl 0 rfl) ?_
    refine z_get C wd (Cn := RX5) (TT := TX5) (N := 7) (ci := 5) iX5 0 rfl rfl 0 (by decide) L12 (fun _ h => h) rfl dX5_released_6 ?_
    refine z_get C wd (Cn := RX3) (TT := TX3) (N := 4) (ci := 3) iX3 1 rfl rfl 3 (by decide) L64 (fun _ h => h) rfl dX5_released_9 ?_
    refine z_get C wd (Cn := RX1) (TT := TX1) (N := 8) (ci := 1) iX1 2 rfl rfl 2 (by decide) L120 (fun _ h => h) rfl dX5_released_12 ?_
    refine z_icmp_lt C (tgt := 20) dX5_released_15 (by decide) (by omega) (fun c_2 => ?_) (fun c_2 => ?_)
    · skip
      refine lv_aload_n C.1 C.2.1 dX5_released_20 rfl (lv_at hl 0 rfl) ?_
      refine z_get C wd (Cn := RX5) (TT := TX5) (N := 7) (ci := 5) iX5 0 rfl rfl 0 (by decide) L12 (fun _ h => h) rfl dX5_released_21 ?_
      refine z_get C wd (Cn := RX3) (TT := TX3) (N := 4) (ci := 3) iX3 1 rfl rfl 3 (by decide) L64 (fun _ h => h) rfl dX5_released_24 ?_
      refine z_get C wd (Cn := RX1) (TT := TX1) (N := 8) (ci := 1) iX1 2 rfl rfl 4 (by decide) L158 (fun _ h => h) rfl dX5_released_27 ?_
      refine lv_iload_n C.1 C.2.1 dX5_released_30 rfl (lv_at hl 1 rfl) ?_
      refine z_iald C wd 3 rfl (by omega) (by decide) dX5_released_31 ?_
      exact z_iret C hr hlk wd (by unfold rdRel; (repeat (first | rw [if_pos (by omega)] | rw [if_neg (by omega)])); first | done | rfl) dX5_released_32
    · skip
      refine z_iconst C dX5_released_18 ?_
      exact z_iret C hr hlk wd (by unfold rdRel; (repeat (first | rw [if_pos (by omega)] | rw [if_neg (by omega)])); first | done | rfl) dX5_released_19
set_option maxRecDepth 100000 in
set_option maxHeartbeats 4000000 in
theorem c_X5_metric (l : Launch) (D : va_G) (cy cs : ClassId) (w0 w1 w2 t0 d0 d0k a0 a1 s0 s1 s2 s3 r0 r1 r2 r3 r4 : Nat) (iK n L : Int) (M : Int → Int) (st : Int) (hm : 1 ≤ M 0 ∧ M 0 ≤ 5) (hS : 0 ≤ M 9 ∧ M 9 ≤ 80) (hme : mtOk (sl M 572) (M 9)) (hst : -2147483648 ≤ st ∧ st < 2147483648) : zCi l D (zT cy cs) yX5_metric wsX5_metric ({ frames := 2, cells := 0, slots := 0, locals := 41 } : Room) [.ref w0, .int (iI st)] [zO w0 5 [.ref d0, .ref d0k, .int (iI iK), .ref w1, .int (iI n), .ref t0, .ref w2], zO d0 3 [.int (iI (M 5)), .ref a0, .ref s0, .ref r0], zO a0 0 [.int (iI (M 0)), .int (iI (M 1)), .ref a1], zO r0 1 [.int (iI (M 9)), .int (iI L), .int (iI (M 10)), .int (iI (M 11)), .ref r1, .ref r2, .ref r3, .ref r4], zA cy r2 32 (sl M 572)] (rdMet M st) [zO w0 5 [.ref d0, .ref d0k, .int (iI iK), .ref w1, .int (iI n), .ref t0, .ref w2], zO d0 3 [.int (iI (M 5)), .ref a0, .ref s0, .ref r0], zO a0 0 [.int (iI (M 0)), .int (iI (M 1)), .ref a1], zO r0 1 [.int (iI (M 9)), .int (iI L), .int (iI (M 10)), .int (iI (M 11)), .ref r1, .ref r2, .ref r3, .ref r4], zA cy r2 32 (sl M 572)] := by
  intro sz
  refine zM_mk (cc := cX5_metric) (maxL := 3) (ret := (some .int)) (own := RX5) (Qc := fun sz => va_Qi (fun r (_ : Unit) => r = iI (rdMet M st)) (fun _ t => zQ D (zT cy cs) (va_A [zO w0 5 [.ref d0, .ref d0k, .int (iI iK), .ref w1, .int (iI n), .ref t0, .ref w2], zO d0 3 [.int (iI (M 5)), .ref a0, .ref s0, .ref r0], zO a0 0 [.int (iI (M 0)), .int (iI (M 1)), .ref a1], zO r0 1 [.int (iI (M 9)), .int (iI L), .int (iI (M 10)), .int (iI (M 11)), .ref r1, .ref r2, .ref r3, .ref r4], zA cy r2 32 (sl M 572)] sz) [zO w0 5 [.ref d0, .ref d0k, .int (iI iK), .ref w1, .int (iI n), .ref t0, .ref w2], zO d0 3 [.int (iI (M 5)), .ref a0, .ref s0, .ref r0], zO a0 0 [.int (iI (M 0)), .int (iI (M 1)), .ref a1], zO r0 1 [.int (iI (M 9)), .int (iI L), .int (iI (M 10)), .int (iI (M 11)), .ref r1, .ref r2, .ref r3, .ref r4], zA cy r2 32 (sl M 572)] t) (va_A [zO w0 5 [.ref d0, .ref d0k, .int (iI iK), .ref w1, .int (iI n), .ref t0, .ref w2], zO d0 3 [.int (iI (M 5)), .ref a0, .ref s0, .ref r0], zO a0 0 [.int (iI (M 0)), .int (iI (M 1)), .ref a1], zO r0 1 [.int (iI (M 9)), .int (iI L), .int (iI (M 10)), .int (iI (M 11)), .ref r1, .ref r2, .ref r3, .ref r4], zA cy r2 32 (sl M 572)] sz)) (by decide) rfl rfl (Nat.le_of_ble_eq_true rfl) rfl sz ?_
  intro p e s m args below meth c ls C hr hlk hnm hl hsz hA wd
  subst hsz
  have hl : lv_has ls 3 [(0, .ref w0), (1, .int (iI st))] := hl
  have iX1 : ∀ w ∈ u_ws RX1 TX1 8, w ∈ wsX5_metric := by decide +kernel
  have iX3 : ∀ w ∈ u_ws RX3 TX3 4, w ∈ wsX5_metric := by decide +kernel
  have iX5 : ∀ w ∈ u_ws RX5 TX5 7, w ∈ wsX5_metric := by decide +kernel
  have L12 := C.2.2.2.2 (.fieldLink RX5 12 "LikelyWalks" "now" "LLikelyWalks$State;") (by decide +kernel)
  have L45 := C.2.2.2.2 (.fieldLink RX5 45 "LikelyWalks$State" "code" "LLikelyWalks$Code;") (by decide +kernel)
  have L64 := C.2.2.2.2 (.fieldLink RX5 64 "LikelyWalks$State" "reader" "LLikelyWalks$Reader;") (by decide +kernel)
  have L123 := C.2.2.2.2 (.fieldLink RX5 123 "LikelyWalks$Reader" "metrics" "[I") (by decide +kernel)
  have hp := p2_all hm.1 hm.2
  refine lv_aload_n C.1 C.2.1 dX5_metric_0 rfl (lv_at hl 0 rfl) ?_
  refine z_get C wd (Cn := RX5) (TT := TX5) (N := 7) (ci := 5) iX5 0 rfl rfl 0 (by decide) L12 (fun _ h => h) rfl dX5_metric_1 ?_
  refine z_get C wd (Cn := RX3) (TT := TX3) (N := 4) (ci := 3) iX3 1 rfl rfl 1 (by decide) L45 (fun _ h => h) rfl dX5_metric_4 ?_
  refine lv_iload_n C.1 C.2.1 dX5_metric_7 rfl (lv_at hl 1 rfl) ?_
  refine z_cvi C wd hA (As := [.int (iI st)]) (rest := []) (ws2 := [zO w0 5 [.ref d0, .ref d0k, .int (iI iK), .ref w1, .int (iI n), .ref t0, .ref w2], zO d0 3 [.int (iI (M 5)), .ref a0, .ref s0, .ref r0], zO a0 0 [.int (iI (M 0)), .int (iI (M 1)), .ref a1], zO r0 1 [.int (iI (M 9)), .int (iI L), .int (iI (M 10)), .int (iI (M 11)), .ref r1, .ref r2, .ref r3, .ref r4], zA cy r2 32 (sl M 572)]) (c_X0_hasState l D cy cs a0 a1 (M 0) (M 1) st (by omega) (by omega)) (cwV 1 C.2.2.2.2 gX5_metric_X0_hasState rfl rfl rfl (by decide +kernel) ⟨Nat.le_of_ble_eq_true rfl, Nat.le_of_ble_eq_true rfl⟩) [2] rfl rfl rfl ⟨rfl, [0, 1, 3, 4], [zO w0 5 [.ref d0, .ref d0k, .int (iI iK), .ref w1, .int (iI n), .ref t0, .ref w2], zO d0 3 [.int (iI (M 5)), .ref a0, .ref s0, .ref r0], zO r0 1 [.int (iI (M 9)), .int (iI L), .int (iI (M 10)), .int (iI (M 11)), .ref r1, .ref r2, .ref r3, .ref r4], zA cy r2 32 (sl M 572)], 5, rfl, rfl, rfl, by decide +kernel⟩ rfl rfl rfl rfl (Nat.le_of_ble_eq_true rfl) hl.1 dX5_metric_8 ⟨Nat.zero_le _, Nat.zero_le _⟩ (fun H locs wd => ?_)
  refine z_ifb_ne C (tgt := 16) dX5_metric_11 (by decide) (fun c_1 => ?_) (fun c_1 => ?_)
  · skip
    refine lv_aload_n C.1 C.2.1 dX5_metric_16 rfl (lv_at hl 0 rfl) ?_
    refine z_get C wd (Cn := RX5) (TT := TX5) (N := 7) (ci := 5) iX5 0 rfl rfl 0 (by decide) L12 (fun _ h => h) rfl dX5_metric_17 ?_
    refine z_get C wd (Cn := RX3) (TT := TX3) (N := 4) (ci := 3) iX3 1 rfl rfl 3 (by decide) L64 (fun _ h => h) rfl dX5_metric_20 ?_
    refine z_get C wd (Cn := RX1) (TT := TX1) (N := 8) (ci := 1) iX1 3 rfl rfl 5 (by decide) L123 (fun _ h => h) rfl dX5_metric_23 ?_
    refine lv_iload_n C.1 C.2.1 dX5_metric_26 rfl (lv_at hl 1 rfl) ?_
    refine z_iald C wd 4 rfl (by omega) (by decide) dX5_metric_27 ?_
    have hx := hme st (by omega) (by omega)
    refine lv_istore_n (lv' := [(2, .int (iI ((sl M 572) st))), (0, .ref w0), (1, .int (iI st))]) C.1 C.2.1 dX5_metric_28 rfl hl (by decide) rfl (fun ls hl => ?_)
    refine lv_iload_n C.1 C.2.1 dX5_metric_29 rfl (lv_at hl 0 rfl) ?_
    refine z_iconst C dX5_metric_30 ?_
    refine z_icmp_ne C (tgt := 39) dX5_metric_31 (by decide) (by omega) (fun c_2 => ?_) (fun c_2 => ?_)
    · skip
      refine lv_iload_n C.1 C.2.1 dX5_metric_39 rfl (lv_at hl 0 rfl) ?_
      have wd := z_fld wd (ws2 := [zO w0 5 [.ref d0, .ref d0k, .int (iI iK), .ref w1, .int (iI n), .ref t0, .ref w2], zO d0 3 [.int (iI (M 5)), .ref a0, .ref s0, .ref r0], zO a0 0 [.int (iI (M 0)), .int (iI (M 1)), .ref a1], zO r0 1 [.int (iI (M 9)), .int (iI L), .int (iI (M 10)), .int (iI (M 11)), .ref r1, .ref r2, .ref r3, .ref r4], zA cy r2 32 (sl M 572)]) 2 rfl (congrArg (fun z0 => zO a0 0 [.int (iI z0), .int (iI (M 1)), .ref a1]) (show ((M 0) : Int) = M 0 from (by omega))) rfl
      have wd := z_fld wd (ws2 := [zO w0 5 [.ref d0, .ref d0k, .int (iI iK), .ref w1, .int (iI n), .ref t0, .ref w2], zO d0 3 [.int (iI (M 5)), .ref a0, .ref s0, .ref r0], zO a0 0 [.int (iI (M 0)), .int (iI (M 1)), .ref a1], zO r0 1 [.int (iI (M 9)), .int (iI L), .int (iI (M 10)), .int (iI (M 11)), .ref r1, .ref r2, .ref r3, .ref r4], zA cy r2 32 (sl M 572)]) 2 rfl (congrArg (fun z0 => zO a0 0 [.int (iI (M 0)), .int (iI z0), .ref a1]) (show ((M 1) : Int) = M 1 from (by omega))) rfl
      exact z_iret C hr hlk wd (by unfold rdMet; (repeat (first | rw [if_pos (by omega)] | rw [if_neg (by omega)])); first | done | rfl) dX5_metric_40
    · skip
      refine z_bipush C dX5_metric_34 (by decide +kernel) ?_
      refine z_goto C (tgt := 40) dX5_metric_36 (by decide) ?_
      have wd := z_fld wd (ws2 := [zO w0 5 [.ref d0, .ref d0k, .int (iI iK), .ref w1, .int (iI n), .ref t0, .ref w2], zO d0 3 [.int (iI (M 5)), .ref a0, .ref s0, .ref r0], zO a0 0 [.int (iI (M 0)), .int (iI (M 1)), .ref a1], zO r0 1 [.int (iI (M 9)), .int (iI L), .int (iI (M 10)), .int (iI (M 11)), .ref r1, .ref r2, .ref r3, .ref r4], zA cy r2 32 (sl M 572)]) 2 rfl (congrArg (fun z0 => zO a0 0 [.int (iI z0), .int (iI (M 1)), .ref a1]) (show ((M 0) : Int) = M 0 from (by omega))) rfl
      have wd := z_fld wd (ws2 := [zO w0 5 [.ref d0, .ref d0k, .int (iI iK), .ref w1, .int (iI n), .ref t0, .ref w2], zO d0 3 [.int (iI (M 5)), .ref a0, .ref s0, .ref r0], zO a0 0 [.int (iI (M 0)), .int (iI (M 1)), .ref a1], zO r0 1 [.int (iI (M 9)), .int (iI L), .int (iI (M 10)), .int (iI (M 11)), .ref r1, .ref r2, .ref r3, .ref r4], zA cy r2 32 (sl M 572)]) 2 rfl (congrArg (fun z0 => zO a0 0 [.int (iI (M 0)), .int (iI z0), .ref a1]) (show ((M 1) : Int) = M 1 from (by omega))) rfl
      exact z_iret C hr hlk wd (by unfold rdMet; (repeat (first | rw [if_pos (by omega)] | rw [if_neg (by omega)])); first | done | rfl) dX5_metric_40
  · skip
    refine z_iconst C dX5_metric_14 ?_
    have wd := z_fld wd (ws2 := [zO w0 5 [.ref d0, .ref d0k, .int (iI iK), .ref w1, .int (iI n), .ref t0, .ref w2], zO d0 3 [.int (iI (M 5)), .ref a0, .ref s0, .ref r0], zO a0 0 [.int (iI (M 0)), .int (iI (M 1)), .ref a1], zO r0 1 [.int (iI (M 9)), .int (iI L), .int (iI (M 10)), .int (iI (M 11)), .ref r1, .ref r2, .ref r3, .ref r4], zA cy r2 32 (sl M 572)]) 2 rfl (congrArg (fun z0 => zO a0 0 [.int (iI z0), .int (iI (M 1)), .ref a1]) (show ((M 0) : Int) = M 0 from (by omega))) rfl
    have wd := z_fld wd (ws2 := [zO w0 5 [.ref d0, .ref d0k, .int (iI iK), .ref w1, .int (iI n), .ref t0, .ref w2], zO d0 3 [.int (iI (M 5)), .ref a0, .ref s0, .ref r0], zO a0 0 [.int (iI (M 0)), .int (iI (M 1)), .ref a1], zO r0 1 [.int (iI (M 9)), .int (iI L), .int (iI (M 10)), .int (iI (M 11)), .ref r1, .ref r2, .ref r3, .ref r4], zA cy r2 32 (sl M 572)]) 2 rfl (congrArg (fun z0 => zO a0 0 [.int (iI (M 0)), .int (iI z0), .ref a1]) (show ((M 1) : Int) = M 1 from (by omega))) rfl
    exact z_iret C hr hlk wd (by unfold rdMet; (repeat (first | rw [if_pos (by omega)] | rw [if_neg (by omega)])); first | done | rfl) dX5_metric_15
set_option maxRecDepth 100000 in
set_option maxHeartbeats 4000000 in
theorem c_X5_survivor (l : Launch) (D : va_G) (cy cs : ClassId) (w0 w1 w2 t0 d0 d0k a0 a1 s0 s1 s2 s3 r0 r1 r2 r3 r4 : Nat) (iK n L : Int) (M : Int → Int) (fu : Int → Int) (st x : Int) (hm : 1 ≤ M 0 ∧ M 0 ≤ 5) (hS : 0 ≤ M 9 ∧ M 9 ≤ 80) (hme : mtOk (sl M 572) (M 9)) (hu : ∀ k : Int, 0 ≤ k → k < 80 → 0 ≤ fu k ∧ fu k < 4294967296) (hst : -2147483648 ≤ st ∧ st < 2147483648) (hx : -2147483648 ≤ x ∧ x < 2147483648) : zCi l D (zT cy cs) yX5_survivor wsX5_survivor ({ frames := 4, cells := 0, slots := 0, locals := 89 } : Room) [.ref w0, .int (iI st), .int (iI x)] [zO w0 5 [.ref d0, .ref d0k, .int (iI iK), .ref w1, .int (iI n), .ref t0, .ref w2], zO d0 3 [.int (iI (M 5)), .ref a0, .ref s0, .ref r0], zO a0 0 [.int (iI (M 0)), .int (iI (M 1)), .ref a1], zO r0 1 [.int (iI (M 9)), .int (iI L), .int (iI (M 10)), .int (iI (M 11)), .ref r1, .ref r2, .ref r3, .ref r4], zA cy r2 32 (sl M 572), zA cy r4 80 fu] (rdSur M fu st x) [zO w0 5 [.ref d0, .ref d0k, .int (iI iK), .ref w1, .int (iI n), .ref t0, .ref w2], zO d0 3 [.int (iI (M 5)), .ref a0, .ref s0, .ref r0], zO a0 0 [.int (iI (M 0)), .int (iI (M 1)), .ref a1], zO r0 1 [.int (iI (M 9)), .int (iI L), .int (iI (M 10)), .int (iI (M 11)), .ref r1, .ref r2, .ref r3, .ref r4], zA cy r2 32 (sl M 572), zA cy r4 80 fu] := by
  intro sz
  refine zM_mk (cc := cX5_survivor) (maxL := 3) (ret := (some .int)) (own := RX5) (Qc := fun sz => va_Qi (fun r (_ : Unit) => r = iI (rdSur M fu st x)) (fun _ t => zQ D (zT cy cs) (va_A [zO w0 5 [.ref d0, .ref d0k, .int (iI iK), .ref w1, .int (iI n), .ref t0, .ref w2], zO d0 3 [.int (iI (M 5)), .ref a0, .ref s0, .ref r0], zO a0 0 [.int (iI (M 0)), .int (iI (M 1)), .ref a1], zO r0 1 [.int (iI (M 9)), .int (iI L), .int (iI (M 10)), .int (iI (M 11)), .ref r1, .ref r2, .ref r3, .ref r4], zA cy r2 32 (sl M 572), zA cy r4 80 fu] sz) [zO w0 5 [.ref d0, .ref d0k, .int (iI iK), .ref w1, .int (iI n), .ref t0, .ref w2], zO d0 3 [.int (iI (M 5)), .ref a0, .ref s0, .ref r0], zO a0 0 [.int (iI (M 0)), .int (iI (M 1)), .ref a1], zO r0 1 [.int (iI (M 9)), .int (iI L), .int (iI (M 10)), .int (iI (M 11)), .ref r1, .ref r2, .ref r3, .ref r4], zA cy r2 32 (sl M 572), zA cy r4 80 fu] t) (va_A [zO w0 5 [.ref d0, .ref d0k, .int (iI iK), .ref w1, .int (iI n), .ref t0, .ref w2], zO d0 3 [.int (iI (M 5)), .ref a0, .ref s0, .ref r0], zO a0 0 [.int (iI (M 0)), .int (iI (M 1)), .ref a1], zO r0 1 [.int (iI (M 9)), .int (iI L), .int (iI (M 10)), .int (iI (M 11)), .ref r1, .ref r2, .ref r3, .ref r4], zA cy r2 32 (sl M 572), zA cy r4 80 fu] sz)) (by decide) rfl rfl (Nat.le_of_ble_eq_true rfl) rfl sz ?_
  intro p e s m args below meth c ls C hr hlk hnm hl hsz hA wd
  subst hsz
  have hl : lv_has ls 3 [(0, .ref w0), (1, .int (iI st)), (2, .int (iI x))] := hl
  have iX1 : ∀ w ∈ u_ws RX1 TX1 8, w ∈ wsX5_survivor := by decide +kernel
  have iX3 : ∀ w ∈ u_ws RX3 TX3 4, w ∈ wsX5_survivor := by decide +kernel
  have iX5 : ∀ w ∈ u_ws RX5 TX5 7, w ∈ wsX5_survivor := by decide +kernel
  have L12 := C.2.2.2.2 (.fieldLink RX5 12 "LikelyWalks" "now" "LLikelyWalks$State;") (by decide +kernel)
  have L45 := C.2.2.2.2 (.fieldLink RX5 45 "LikelyWalks$State" "code" "LLikelyWalks$Code;") (by decide +kernel)
  have L64 := C.2.2.2.2 (.fieldLink RX5 64 "LikelyWalks$State" "reader" "LLikelyWalks$Reader;") (by decide +kernel)
  have L74 := C.2.2.2.2 (.fieldLink RX5 74 "LikelyWalks$Reader" "steps" "I") (by decide +kernel)
  have L123 := C.2.2.2.2 (.fieldLink RX5 123 "LikelyWalks$Reader" "metrics" "[I") (by decide +kernel)
  have hp := p2_all hm.1 hm.2
  refine lv_aload_n C.1 C.2.1 dX5_survivor_0 rfl (lv_at hl 0 rfl) ?_
  refine z_get C wd (Cn := RX5) (TT := TX5) (N := 7) (ci := 5) iX5 0 rfl rfl 0 (by decide) L12 (fun _ h => h) rfl dX5_survivor_1 ?_
  refine z_get C wd (Cn := RX3) (TT := TX3) (N := 4) (ci := 3) iX3 1 rfl rfl 1 (by decide) L45 (fun _ h => h) rfl dX5_survivor_4 ?_
  refine lv_iload_n C.1 C.2.1 dX5_survivor_7 rfl (lv_at hl 1 rfl) ?_
  refine z_cvi C wd hA (As := [.int (iI st)]) (rest := []) (ws2 := [zO w0 5 [.ref d0, .ref d0k, .int (iI iK), .ref w1, .int (iI n), .ref t0, .ref w2], zO d0 3 [.int (iI (M 5)), .ref a0, .ref s0, .ref r0], zO a0 0 [.int (iI (M 0)), .int (iI (M 1)), .ref a1], zO r0 1 [.int (iI (M 9)), .int (iI L), .int (iI (M 10)), .int (iI (M 11)), .ref r1, .ref r2, .ref r3, .ref r4], zA cy r2 32 (sl M 572), zA cy r4 80 fu]) (c_X0_hasState l D cy cs a0 a1 (M 0) (M 1) st (by omega) (by omega)) (cwV 1 C.2.2.2.2 gX5_survivor_X0_hasState rfl rfl rfl (by decide +kernel) ⟨Nat.le_of_ble_eq_true rfl, Nat.le_of_ble_eq_true rfl⟩) [2] rfl rfl rfl ⟨rfl, [0, 1, 3, 4, 5], [zO w0 5 [.ref d0, .ref d0k, .int (iI iK), .ref w1, .int (iI n), .ref t0, .ref w2], zO d0 3 [.int (iI (M 5)), .ref a0, .ref s0, .ref r0], zO r0 1 [.int (iI (M 9)), .int (iI L), .int (iI (M 10)), .int (iI (M 11)), .ref r1, .ref r2, .ref r3, .ref r4], zA cy r2 32 (sl M 572), zA cy r4 80 fu], 6, rfl, rfl, rfl, by decide +kernel⟩ rfl rfl rfl rfl (Nat.le_of_ble_eq_true rfl) hl.1 dX5_survivor_8 ⟨Nat.zero_le _, Nat.zero_le _⟩ (fun H locs wd => ?_)
  refine z_ifb_ne C (tgt := 16) dX5_survivor_11 (by decide) (fun c_1 => ?_) (fun c_1 => ?_)
  · skip
    refine lv_iload_n C.1 C.2.1 dX5_survivor_16 rfl (lv_at hl 2 rfl) ?_
    refine z_if_ge C (tgt := 23) dX5_survivor_17 (by decide) (by omega) (fun c_2 => ?_) (fun c_2 => ?_)
    · skip
      refine lv_aload_n C.1 C.2.1 dX5_survivor_23 rfl (lv_at hl 0 rfl) ?_
      refine z_get C wd (Cn := RX5) (TT := TX5) (N := 7) (ci := 5) iX5 0 rfl rfl 0 (by decide) L12 (fun _ h => h) rfl dX5_survivor_24 ?_
      refine z_get C wd (Cn := RX3) (TT := TX3) (N := 4) (ci := 3) iX3 1 rfl rfl 3 (by decide) L64 (fun _ h => h) rfl dX5_survivor_27 ?_
      refine z_get C wd (Cn := RX1) (TT := TX1) (N := 8) (ci := 1) iX1 3 rfl rfl 5 (by decide) L123 (fun _ h => h) rfl dX5_survivor_30 ?_
      refine lv_iload_n C.1 C.2.1 dX5_survivor_33 rfl (lv_at hl 1 rfl) ?_
      have hx := hme st (by omega) (by omega)
      refine z_iald C wd 4 rfl (by omega) (by decide) dX5_survivor_34 ?_
      refine z_iconst C dX5_survivor_35 ?_
      refine z_icmp_eq C (tgt := 53) dX5_survivor_36 (by decide) (by omega) (fun c_3 => ?_) (fun c_3 => ?_)
      · skip
        refine z_bipush C dX5_survivor_53 (by decide +kernel) ?_
        have wd := z_fld wd (ws2 := [zO w0 5 [.ref d0, .ref d0k, .int (iI iK), .ref w1, .int (iI n), .ref t0, .ref w2], zO d0 3 [.int (iI (M 5)), .ref a0, .ref s0, .ref r0], zO a0 0 [.int (iI (M 0)), .int (iI (M 1)), .ref a1], zO r0 1 [.int (iI (M 9)), .int (iI L), .int (iI (M 10)), .int (iI (M 11)), .ref r1, .ref r2, .ref r3, .ref r4], zA cy r2 32 (sl M 572), zA cy r4 80 fu]) 2 rfl (congrArg (fun z0 => zO a0 0 [.int (iI z0), .int (iI (M 1)), .ref a1]) (show ((M 0) : Int) = M 0 from (by omega))) rfl
        have wd := z_fld wd (ws2 := [zO w0 5 [.ref d0, .ref d0k, .int (iI iK), .ref w1, .int (iI n), .ref t0, .ref w2], zO d0 3 [.int (iI (M 5)), .ref a0, .ref s0, .ref r0], zO a0 0 [.int (iI (M 0)), .int (iI (M 1)), .ref a1], zO r0 1 [.int (iI (M 9)), .int (iI L), .int (iI (M 10)), .int (iI (M 11)), .ref r1, .ref r2, .ref r3, .ref r4], zA cy r2 32 (sl M 572), zA cy r4 80 fu]) 2 rfl (congrArg (fun z0 => zO a0 0 [.int (iI (M 0)), .int (iI z0), .ref a1]) (show ((M 1) : Int) = M 1 from (by omega))) rfl
        exact z_iret C hr hlk wd (by unfold rdSur; (repeat (first | rw [if_pos (by omega)] | rw [if_neg (by omega)])); first | done | rfl) dX5_survivor_55
      · skip
        refine lv_iload_n C.1 C.2.1 dX5_survivor_39 rfl (lv_at hl 2 rfl) ?_
        refine lv_aload_n C.1 C.2.1 dX5_survivor_40 rfl (lv_at hl 0 rfl) ?_
        refine z_get C wd (Cn := RX5) (TT := TX5) (N := 7) (ci := 5) iX5 0 rfl rfl 0 (by decide) L12 (fun _ h => h) rfl dX5_survivor_41 ?_
        refine z_get C wd (Cn := RX3) (TT := TX3) (N := 4) (ci := 3) iX3 1 rfl rfl 3 (by decide) L64 (fun _ h => h) rfl dX5_survivor_44 ?_
        refine z_get C wd (Cn := RX1) (TT := TX1) (N := 8) (ci := 1) iX1 3 rfl rfl 0 (by decide) L74 (fun _ h => h) rfl dX5_survivor_47 ?_
        refine z_icmp_lt C (tgt := 56) dX5_survivor_50 (by decide) (by omega) (fun c_4 => ?_) (fun c_4 => ?_)
        · skip
          refine lv_aload_n C.1 C.2.1 dX5_survivor_56 rfl (lv_at hl 0 rfl) ?_
          refine z_get C wd (Cn := RX5) (TT := TX5) (N := 7) (ci := 5) iX5 0 rfl rfl 0 (by decide) L12 (fun _ h => h) rfl dX5_survivor_57 ?_
          refine z_get C wd (Cn := RX3) (TT := TX3) (N := 4) (ci := 3) iX3 1 rfl rfl 3 (by decide) L64 (fun _ h => h) rfl dX5_survivor_60 ?_
          refine lv_aload_n C.1 C.2.1 dX5_survivor_63 rfl (lv_at hl 0 rfl) ?_
          refine z_get C wd (Cn := RX5) (TT := TX5) (N := 7) (ci := 5) iX5 0 rfl rfl 0 (by decide) L12 (fun _ h => h) rfl dX5_survivor_64 ?_
          refine z_get C wd (Cn := RX3) (TT := TX3) (N := 4) (ci := 3) iX3 1 rfl rfl 1 (by decide) L45 (fun _ h => h) rfl dX5_survivor_67 ?_
          refine lv_iload_n C.1 C.2.1 dX5_survivor_70 rfl (lv_at hl 1 rfl) ?_
          refine lv_iload_n C.1 C.2.1 dX5_survivor_71 rfl (lv_at hl 2 rfl) ?_
          refine z_cvi C wd hA (As := [.ref a0, .int (iI st), .int (iI x)]) (rest := []) (ws2 := [zO w0 5 [.ref d0, .ref d0k, .int (iI iK), .ref w1, .int (iI n), .ref t0, .ref w2], zO d0 3 [.int (iI (M 5)), .ref a0, .ref s0, .ref r0], zO a0 0 [.int (iI (M 0)), .int (iI (M 1)), .ref a1], zO r0 1 [.int (iI (M 9)), .int (iI L), .int (iI (M 10)), .int (iI (M 11)), .ref r1, .ref r2, .ref r3, .ref r4], zA cy r2 32 (sl M 572), zA cy r4 80 fu]) (c_X1_survivorBit l D cy cs r0 r1 r2 r3 r4 a0 a1 (M 9) L (M 10) (M 11) (M 0) (M 1) fu st x (by omega) (by omega) hu (by omega) (by omega)) (cwV 3 C.2.2.2.2 gX5_survivor_X1_survivorBit rfl rfl rfl (by decide +kernel) ⟨Nat.le_of_ble_eq_true rfl, Nat.le_of_ble_eq_true rfl⟩) [3, 5, 2] rfl rfl rfl ⟨rfl, [0, 1, 4], [zO w0 5 [.ref d0, .ref d0k, .int (iI iK), .ref w1, .int (iI n), .ref t0, .ref w2], zO d0 3 [.int (iI (M 5)), .ref a0, .ref s0, .ref r0], zA cy r2 32 (sl M 572)], 6, rfl, rfl, rfl, by decide +kernel⟩ rfl rfl rfl rfl (Nat.le_of_ble_eq_true rfl) hl.1 dX5_survivor_72 ⟨Nat.zero_le _, Nat.zero_le _⟩ (fun H locs wd => ?_)
          have wd := z_fld wd (ws2 := [zO w0 5 [.ref d0, .ref d0k, .int (iI iK), .ref w1, .int (iI n), .ref t0, .ref w2], zO d0 3 [.int (iI (M 5)), .ref a0, .ref s0, .ref r0], zO a0 0 [.int (iI (M 0)), .int (iI (M 1)), .ref a1], zO r0 1 [.int (iI (M 9)), .int (iI L), .int (iI (M 10)), .int (iI (M 11)), .ref r1, .ref r2, .ref r3, .ref r4], zA cy r2 32 (sl M 572), zA cy r4 80 fu]) 2 rfl (congrArg (fun z0 => zO a0 0 [.int (iI z0), .int (iI (M 1)), .ref a1]) (show ((M 0) : Int) = M 0 from (by omega))) rfl
          have wd := z_fld wd (ws2 := [zO w0 5 [.ref d0, .ref d0k, .int (iI iK), .ref w1, .int (iI n), .ref t0, .ref w2], zO d0 3 [.int (iI (M 5)), .ref a0, .ref s0, .ref r0], zO a0 0 [.int (iI (M 0)), .int (iI (M 1)), .ref a1], zO r0 1 [.int (iI (M 9)), .int (iI L), .int (iI (M 10)), .int (iI (M 11)), .ref r1, .ref r2, .ref r3, .ref r4], zA cy r2 32 (sl M 572), zA cy r4 80 fu]) 2 rfl (congrArg (fun z0 => zO a0 0 [.int (iI (M 0)), .int (iI z0), .ref a1]) (show ((M 1) : Int) = M 1 from (by omega))) rfl
          have wd := z_fld wd (ws2 := [zO w0 5 [.ref d0, .ref d0k, .int (iI iK), .ref w1, .int (iI n), .ref t0, .ref w2], zO d0 3 [.int (iI (M 5)), .ref a0, .ref s0, .ref r0], zO a0 0 [.int (iI (M 0)), .int (iI (M 1)), .ref a1], zO r0 1 [.int (iI (M 9)), .int (iI L), .int (iI (M 10)), .int (iI (M 11)), .ref r1, .ref r2, .ref r3, .ref r4], zA cy r2 32 (sl M 572), zA cy r4 80 fu]) 3 rfl (congrArg (fun z0 => zO r0 1 [.int (iI z0), .int (iI L), .int (iI (M 10)), .int (iI (M 11)), .ref r1, .ref r2, .ref r3, .ref r4]) (show ((M 9) : Int) = M 9 from (by omega))) rfl
          have wd := z_fld wd (ws2 := [zO w0 5 [.ref d0, .ref d0k, .int (iI iK), .ref w1, .int (iI n), .ref t0, .ref w2], zO d0 3 [.int (iI (M 5)), .ref a0, .ref s0, .ref r0], zO a0 0 [.int (iI (M 0)), .int (iI (M 1)), .ref a1], zO r0 1 [.int (iI (M 9)), .int (iI L), .int (iI (M 10)), .int (iI (M 11)), .ref r1, .ref r2, .ref r3, .ref r4], zA cy r2 32 (sl M 572), zA cy r4 80 fu]) 3 rfl (congrArg (fun z0 => zO r0 1 [.int (iI (M 9)), .int (iI L), .int (iI z0), .int (iI (M 11)), .ref r1, .ref r2, .ref r3, .ref r4]) (show ((M 10) : Int) = M 10 from (by omega))) rfl
          have wd := z_fld wd (ws2 := [zO w0 5 [.ref d0, .ref d0k, .int (iI iK), .ref w1, .int (iI n), .ref t0, .ref w2], zO d0 3 [.int (iI (M 5)), .ref a0, .ref s0, .ref r0], zO a0 0 [.int (iI (M 0)), .int (iI (M 1)), .ref a1], zO r0 1 [.int (iI (M 9)), .int (iI L), .int (iI (M 10)), .int (iI (M 11)), .ref r1, .ref r2, .ref r3, .ref r4], zA cy r2 32 (sl M 572), zA cy r4 80 fu]) 3 rfl (congrArg (fun z0 => zO r0 1 [.int (iI (M 9)), .int (iI L), .int (iI (M 10)), .int (iI z0), .ref r1, .ref r2, .ref r3, .ref r4]) (show ((M 11) : Int) = M 11 from (by omega))) rfl
          exact z_iret C hr hlk wd (by unfold rdSur; (repeat (first | rw [if_pos (by omega)] | rw [if_neg (by omega)])); first | done | rfl) dX5_survivor_75
        · skip
          refine z_bipush C dX5_survivor_53 (by decide +kernel) ?_
          have wd := z_fld wd (ws2 := [zO w0 5 [.ref d0, .ref d0k, .int (iI iK), .ref w1, .int (iI n), .ref t0, .ref w2], zO d0 3 [.int (iI (M 5)), .ref a0, .ref s0, .ref r0], zO a0 0 [.int (iI (M 0)), .int (iI (M 1)), .ref a1], zO r0 1 [.int (iI (M 9)), .int (iI L), .int (iI (M 10)), .int (iI (M 11)), .ref r1, .ref r2, .ref r3, .ref r4], zA cy r2 32 (sl M 572), zA cy r4 80 fu]) 2 rfl (congrArg (fun z0 => zO a0 0 [.int (iI z0), .int (iI (M 1)), .ref a1]) (show ((M 0) : Int) = M 0 from (by omega))) rfl
          have wd := z_fld wd (ws2 := [zO w0 5 [.ref d0, .ref d0k, .int (iI iK), .ref w1, .int (iI n), .ref t0, .ref w2], zO d0 3 [.int (iI (M 5)), .ref a0, .ref s0, .ref r0], zO a0 0 [.int (iI (M 0)), .int (iI (M 1)), .ref a1], zO r0 1 [.int (iI (M 9)), .int (iI L), .int (iI (M 10)), .int (iI (M 11)), .ref r1, .ref r2, .ref r3, .ref r4], zA cy r2 32 (sl M 572), zA cy r4 80 fu]) 2 rfl (congrArg (fun z0 => zO a0 0 [.int (iI (M 0)), .int (iI z0), .ref a1]) (show ((M 1) : Int) = M 1 from (by omega))) rfl
          exact z_iret C hr hlk wd (by unfold rdSur; (repeat (first | rw [if_pos (by omega)] | rw [if_neg (by omega)])); first | done | rfl) dX5_survivor_55
    · skip
      refine z_bipush C dX5_survivor_20 (by decide +kernel) ?_
      have wd := z_fld wd (ws2 := [zO w0 5 [.ref d0, .ref d0k, .int (iI iK), .ref w1, .int (iI n), .ref t0, .ref w2], zO d0 3 [.int (iI (M 5)), .ref a0, .ref s0, .ref r0], zO a0 0 [.int (iI (M 0)), .int (iI (M 1)), .ref a1], zO r0 1 [.int (iI (M 9)), .int (iI L), .int (iI (M 10)), .int (iI (M 11)), .ref r1, .ref r2, .ref r3, .ref r4], zA cy r2 32 (sl M 572), zA cy r4 80 fu]) 2 rfl (congrArg (fun z0 => zO a0 0 [.int (iI z0), .int (iI (M 1)), .ref a1]) (show ((M 0) : Int) = M 0 from (by omega))) rfl
      have wd := z_fld wd (ws2 := [zO w0 5 [.ref d0, .ref d0k, .int (iI iK), .ref w1, .int (iI n), .ref t0, .ref w2], zO d0 3 [.int (iI (M 5)), .ref a0, .ref s0, .ref r0], zO a0 0 [.int (iI (M 0)), .int (iI (M 1)), .ref a1], zO r0 1 [.int (iI (M 9)), .int (iI L), .int (iI (M 10)), .int (iI (M 11)), .ref r1, .ref r2, .ref r3, .ref r4], zA cy r2 32 (sl M 572), zA cy r4 80 fu]) 2 rfl (congrArg (fun z0 => zO a0 0 [.int (iI (M 0)), .int (iI z0), .ref a1]) (show ((M 1) : Int) = M 1 from (by omega))) rfl
      exact z_iret C hr hlk wd (by unfold rdSur; (repeat (first | rw [if_pos (by omega)] | rw [if_neg (by omega)])); first | done | rfl) dX5_survivor_22
  · skip
    refine z_iconst C dX5_survivor_14 ?_
    have wd := z_fld wd (ws2 := [zO w0 5 [.ref d0, .ref d0k, .int (iI iK), .ref w1, .int (iI n), .ref t0, .ref w2], zO d0 3 [.int (iI (M 5)), .ref a0, .ref s0, .ref r0], zO a0 0 [.int (iI (M 0)), .int (iI (M 1)), .ref a1], zO r0 1 [.int (iI (M 9)), .int (iI L), .int (iI (M 10)), .int (iI (M 11)), .ref r1, .ref r2, .ref r3, .ref r4], zA cy r2 32 (sl M 572), zA cy r4 80 fu]) 2 rfl (congrArg (fun z0 => zO a0 0 [.int (iI z0), .int (iI (M 1)), .ref a1]) (show ((M 0) : Int) = M 0 from (by omega))) rfl
    have wd := z_fld wd (ws2 := [zO w0 5 [.ref d0, .ref d0k, .int (iI iK), .ref w1, .int (iI n), .ref t0, .ref w2], zO d0 3 [.int (iI (M 5)), .ref a0, .ref s0, .ref r0], zO a0 0 [.int (iI (M 0)), .int (iI (M 1)), .ref a1], zO r0 1 [.int (iI (M 9)), .int (iI L), .int (iI (M 10)), .int (iI (M 11)), .ref r1, .ref r2, .ref r3, .ref r4], zA cy r2 32 (sl M 572), zA cy r4 80 fu]) 2 rfl (congrArg (fun z0 => zO a0 0 [.int (iI (M 0)), .int (iI z0), .ref a1]) (show ((M 1) : Int) = M 1 from (by omega))) rfl
    exact z_iret C hr hlk wd (by unfold rdSur; (repeat (first | rw [if_pos (by omega)] | rw [if_neg (by omega)])); first | done | rfl) dX5_survivor_15
set_option maxRecDepth 100000 in
set_option maxHeartbeats 4000000 in
theorem c_X5_wrongBits (l : Launch) (D : va_G) (cy cs : ClassId) (w0 w1 w2 t0 d0 d0k a0 a1 s0 s1 s2 s3 r0 r1 r2 r3 r4 : Nat) (iK n L : Int) (M : Int → Int) (h7 : 0 ≤ M 7 ∧ M 7 ≤ 80) (h10 : 0 ≤ M 10 ∧ M 10 ≤ 80) (hb1 : ∀ j : Int, 0 ≤ j → j < 80 → 0 ≤ sl M 12 j ∧ sl M 12 j ≤ 1) (hb2 : ∀ j : Int, 0 ≤ j → j < 80 → 0 ≤ sl M 604 j ∧ sl M 604 j ≤ 1) : zCi l D (zT cy cs) yX5_wrongBits wsX5_wrongBits ({ frames := 1, cells := 0, slots := 0, locals := 13 } : Room) [.ref w0] [zO w0 5 [.ref d0, .ref d0k, .int (iI iK), .ref w1, .int (iI n), .ref t0, .ref w2], zO d0 3 [.int (iI (M 5)), .ref a0, .ref s0, .ref r0], zO s0 2 [.int (iI (M 6)), .int (iI (M 7)), .ref s1, .ref s2, .ref s3], zA cy s1 80 (sl M 12), zO r0 1 [.int (iI (M 9)), .int (iI L), .int (iI (M 10)), .int (iI (M 11)), .ref r1, .ref r2, .ref r3, .ref r4], zA cy r1 80 (sl M 604)] (rdWrong M) [zO w0 5 [.ref d0, .ref d0k, .int (iI iK), .ref w1, .int (iI n), .ref t0, .ref w2], zO d0 3 [.int (iI (M 5)), .ref a0, .ref s0, .ref r0], zO s0 2 [.int (iI (M 6)), .int (iI (M 7)), .ref s1, .ref s2, .ref s3], zA cy s1 80 (sl M 12), zO r0 1 [.int (iI (M 9)), .int (iI L), .int (iI (M 10)), .int (iI (M 11)), .ref r1, .ref r2, .ref r3, .ref r4], zA cy r1 80 (sl M 604)] := by
  intro sz
  refine zM_mk (cc := cX5_wrongBits) (maxL := 4) (ret := (some .int)) (own := RX5) (Qc := fun sz => va_Qi (fun r (_ : Unit) => r = iI (rdWrong M)) (fun _ t => zQ D (zT cy cs) (va_A [zO w0 5 [.ref d0, .ref d0k, .int (iI iK), .ref w1, .int (iI n), .ref t0, .ref w2], zO d0 3 [.int (iI (M 5)), .ref a0, .ref s0, .ref r0], zO s0 2 [.int (iI (M 6)), .int (iI (M 7)), .ref s1, .ref s2, .ref s3], zA cy s1 80 (sl M 12), zO r0 1 [.int (iI (M 9)), .int (iI L), .int (iI (M 10)), .int (iI (M 11)), .ref r1, .ref r2, .ref r3, .ref r4], zA cy r1 80 (sl M 604)] sz) [zO w0 5 [.ref d0, .ref d0k, .int (iI iK), .ref w1, .int (iI n), .ref t0, .ref w2], zO d0 3 [.int (iI (M 5)), .ref a0, .ref s0, .ref r0], zO s0 2 [.int (iI (M 6)), .int (iI (M 7)), .ref s1, .ref s2, .ref s3], zA cy s1 80 (sl M 12), zO r0 1 [.int (iI (M 9)), .int (iI L), .int (iI (M 10)), .int (iI (M 11)), .ref r1, .ref r2, .ref r3, .ref r4], zA cy r1 80 (sl M 604)] t) (va_A [zO w0 5 [.ref d0, .ref d0k, .int (iI iK), .ref w1, .int (iI n), .ref t0, .ref w2], zO d0 3 [.int (iI (M 5)), .ref a0, .ref s0, .ref r0], zO s0 2 [.int (iI (M 6)), .int (iI (M 7)), .ref s1, .ref s2, .ref s3], zA cy s1 80 (sl M 12), zO r0 1 [.int (iI (M 9)), .int (iI L), .int (iI (M 10)), .int (iI (M 11)), .ref r1, .ref r2, .ref r3, .ref r4], zA cy r1 80 (sl M 604)] sz)) (by decide) rfl rfl (Nat.le_of_ble_eq_true rfl) rfl sz ?_
  intro p e s m args below meth c ls C hr hlk hnm hl hsz hA wd
  subst hsz
  have hl : lv_has ls 4 [(0, .ref w0)] := hl
  have iX1 : ∀ w ∈ u_ws RX1 TX1 8, w ∈ wsX5_wrongBits := by decide +kernel
  have iX2 : ∀ w ∈ u_ws RX2 TX2 5, w ∈ wsX5_wrongBits := by decide +kernel
  have iX3 : ∀ w ∈ u_ws RX3 TX3 4, w ∈ wsX5_wrongBits := by decide +kernel
  have iX5 : ∀ w ∈ u_ws RX5 TX5 7, w ∈ wsX5_wrongBits := by decide +kernel
  have L12 := C.2.2.2.2 (.fieldLink RX5 12 "LikelyWalks" "now" "LLikelyWalks$State;") (by decide +kernel)
  have L55 := C.2.2.2.2 (.fieldLink RX5 55 "LikelyWalks$State" "sender" "LLikelyWalks$Sender;") (by decide +kernel)
  have L64 := C.2.2.2.2 (.fieldLink RX5 64 "LikelyWalks$State" "reader" "LLikelyWalks$Reader;") (by decide +kernel)
  have L84 := C.2.2.2.2 (.fieldLink RX5 84 "LikelyWalks$Sender" "bitCount" "I") (by decide +kernel)
  have L120 := C.2.2.2.2 (.fieldLink RX5 120 "LikelyWalks$Reader" "releasedCount" "I") (by decide +kernel)
  have L155 := C.2.2.2.2 (.fieldLink RX5 155 "LikelyWalks$Sender" "bits" "[I") (by decide +kernel)
  have L158 := C.2.2.2.2 (.fieldLink RX5 158 "LikelyWalks$Reader" "releasedBits" "[I") (by decide +kernel)
  have hmn := mn_le (M 10) (M 7)
  refine lv_aload_n C.1 C.2.1 dX5_wrongBits_0 rfl (lv_at hl 0 rfl) ?_
  refine z_get C wd (Cn := RX5) (TT := TX5) (N := 7) (ci := 5) iX5 0 rfl rfl 0 (by decide) L12 (fun _ h => h) rfl dX5_wrongBits_1 ?_
  refine z_get C wd (Cn := RX3) (TT := TX3) (N := 4) (ci := 3) iX3 1 rfl rfl 3 (by decide) L64 (fun _ h => h) rfl dX5_wrongBits_4 ?_
  refine z_get C wd (Cn := RX1) (TT := TX1) (N := 8) (ci := 1) iX1 4 rfl rfl 2 (by decide) L120 (fun _ h => h) rfl dX5_wrongBits_7 ?_
  refine lv_aload_n C.1 C.2.1 dX5_wrongBits_10 rfl (lv_at hl 0 rfl) ?_
  refine z_get C wd (Cn := RX5) (TT := TX5) (N := 7) (ci := 5) iX5 0 rfl rfl 0 (by decide) L12 (fun _ h => h) rfl dX5_wrongBits_11 ?_
  refine z_get C wd (Cn := RX3) (TT := TX3) (N := 4) (ci := 3) iX3 1 rfl rfl 2 (by decide) L55 (fun _ h => h) rfl dX5_wrongBits_14 ?_
  refine z_get C wd (Cn := RX2) (TT := TX2) (N := 5) (ci := 2) iX2 2 rfl rfl 1 (by decide) L84 (fun _ h => h) rfl dX5_wrongBits_17 ?_
  refine z_mmin C hl.1 (rest := []) (C.2.2.2.2 (.methodLink RX5 176 Lib.Math.min.name) (by decide +kernel)) (C.2.2.2.2 (.static Lib.Math.min.name) (by decide +kernel)) (C.2.2.2.2 (.initialized "java/lang/Math") (by decide +kernel)) (C.2.2.2.2 (.code Lib.Math.min.name Lib.Math.min.code 2 (some .int)) (by decide +kernel)) (Nat.le_of_ble_eq_true rfl) (Nat.le_of_ble_eq_true rfl) ⟨Nat.zero_le _, Nat.zero_le _⟩ (by omega) dX5_wrongBits_20 ?_
  refine lv_istore_n (lv' := [(1, .int (iI (mn (M 10) (M 7)))), (0, .ref w0)]) C.1 C.2.1 dX5_wrongBits_23 rfl hl (by decide) rfl (fun ls hl => ?_)
  refine z_iconst C dX5_wrongBits_24 ?_
  refine lv_istore_n (lv' := [(2, .int (iI 0)), (1, .int (iI (mn (M 10) (M 7)))), (0, .ref w0)]) C.1 C.2.1 dX5_wrongBits_25 rfl hl (by decide) rfl (fun ls hl => ?_)
  refine z_iconst C dX5_wrongBits_26 ?_
  refine lv_istore_n (lv' := [(3, .int (iI 0)), (2, .int (iI 0)), (1, .int (iI (mn (M 10) (M 7)))), (0, .ref w0)]) C.1 C.2.1 dX5_wrongBits_27 rfl hl (by decide) rfl (fun ls hl => ?_)
  refine z_loop2 (P := fun (x : Int) (k : Int) => (0 ≤ k ∧ k ≤ mn (M 10) (M 7)) ∧ (x = sm (wr1 M) k.toNat)) (mu := fun (x : Int) (k : Int) => (mn (M 10) (M 7) - k).toNat) (ws := fun (x : Int) (k : Int) => [zO w0 5 [.ref d0, .ref d0k, .int (iI iK), .ref w1, .int (iI n), .ref t0, .ref w2], zO d0 3 [.int (iI (M 5)), .ref a0, .ref s0, .ref r0], zO s0 2 [.int (iI (M 6)), .int (iI (M 7)), .ref s1, .ref s2, .ref s3], zA cy s1 80 (sl M 12), zO r0 1 [.int (iI (M 9)), .int (iI L), .int (iI (M 10)), .int (iI (M 11)), .ref r1, .ref r2, .ref r3, .ref r4], zA cy r1 80 (sl M 604)]) (lv := fun (x : Int) (k : Int) => [(0, .ref w0), (1, .int (iI (mn (M 10) (M 7)))), (2, .int (iI x)), (3, .int (iI k))]) 0 0 C ⟨(by omega), rfl⟩ wd (lv_sub hl [3, 2, 1, 0] rfl) ?_
  intro x k hP28 ih28 H locs ls wd hl
  obtain ⟨h28_0, h28_1⟩ := hP28
  try dsimp only at h28_0 h28_1
  have wd : Wd D (zT cy cs) _ s.heap s [zO w0 5 [.ref d0, .ref d0k, .int (iI iK), .ref w1, .int (iI n), .ref t0, .ref w2], zO d0 3 [.int (iI (M 5)), .ref a0, .ref s0, .ref r0], zO s0 2 [.int (iI (M 6)), .int (iI (M 7)), .ref s1, .ref s2, .ref s3], zA cy s1 80 (sl M 12), zO r0 1 [.int (iI (M 9)), .int (iI L), .int (iI (M 10)), .int (iI (M 11)), .ref r1, .ref r2, .ref r3, .ref r4], zA cy r1 80 (sl M 604)] H locs := wd
  have hl : lv_has ls 4 [(0, .ref w0), (1, .int (iI (mn (M 10) (M 7)))), (2, .int (iI x)), (3, .int (iI k))] := hl
  refine lv_iload_n C.1 C.2.1 dX5_wrongBits_28 rfl (lv_at hl 3 rfl) ?_
  refine lv_iload_n C.1 C.2.1 dX5_wrongBits_29 rfl (lv_at hl 1 rfl) ?_
  refine z_icmp_ge C (tgt := 69) dX5_wrongBits_30 (by decide) (by omega) (fun c_1 => ?_) (fun c_1 => ?_)
  · skip
    refine lv_iload_n C.1 C.2.1 dX5_wrongBits_69 rfl (lv_at hl 2 rfl) ?_
    exact z_iret C hr hlk wd (by rw [h28_1, rdWrong, show k = mn (M 10) (M 7) by omega]) dX5_wrongBits_70
  · skip
    have hx := hb1 k h28_0.1 (by omega)
    have hy := hb2 k h28_0.1 (by omega)
    refine lv_aload_n C.1 C.2.1 dX5_wrongBits_33 rfl (lv_at hl 0 rfl) ?_
    refine z_get C wd (Cn := RX5) (TT := TX5) (N := 7) (ci := 5) iX5 0 rfl rfl 0 (by decide) L12 (fun _ h => h) rfl dX5_wrongBits_34 ?_
    refine z_get C wd (Cn := RX3) (TT := TX3) (N := 4) (ci := 3) iX3 1 rfl rfl 3 (by decide) L64 (fun _ h => h) rfl dX5_wrongBits_37 ?_
    refine z_get C wd (Cn := RX1) (TT := TX1) (N := 8) (ci := 1) iX1 4 rfl rfl 4 (by decide) L158 (fun _ h => h) rfl dX5_wrongBits_40 ?_
    refine lv_iload_n C.1 C.2.1 dX5_wrongBits_43 rfl (lv_at hl 3 rfl) ?_
    refine z_iald C wd 5 rfl (by omega) (by decide) dX5_wrongBits_44 ?_
    refine lv_aload_n C.1 C.2.1 dX5_wrongBits_45 rfl (lv_at hl 0 rfl) ?_
    refine z_get C wd (Cn := RX5) (TT := TX5) (N := 7) (ci := 5) iX5 0 rfl rfl 0 (by decide) L12 (fun _ h => h) rfl dX5_wrongBits_46 ?_
    refine z_get C wd (Cn := RX3) (TT := TX3) (N := 4) (ci := 3) iX3 1 rfl rfl 2 (by decide) L55 (fun _ h => h) rfl dX5_wrongBits_49 ?_
    refine z_get C wd (Cn := RX2) (TT := TX2) (N := 5) (ci := 2) iX2 2 rfl rfl 2 (by decide) L155 (fun _ h => h) rfl dX5_wrongBits_52 ?_
    refine lv_iload_n C.1 C.2.1 dX5_wrongBits_55 rfl (lv_at hl 3 rfl) ?_
    refine z_iald C wd 3 rfl (by omega) (by decide) dX5_wrongBits_56 ?_
    refine z_icmp_eq C (tgt := 63) dX5_wrongBits_57 (by decide) (by omega) (fun c_2 => ?_) (fun c_2 => ?_)
    · skip
      refine z_iinc C (lv' := [(3, .int (iI (k + 1))), (0, .ref w0), (1, .int (iI (mn (M 10) (M 7)))), (2, .int (iI x))]) hl 3 dX5_wrongBits_63 rfl (by decide) rfl (fun ls hl => ?_)
      refine z_goto C (tgt := 28) dX5_wrongBits_66 (by decide) ?_
      exact ih28 x (k + 1) ⟨(by omega), (by first | exact sm_zero h28_0.1 h28_1 (by first | exact if_pos (by omega) | exact if_neg (by omega)) | exact sm_one h28_0.1 h28_1 (by first | exact if_pos (by omega) | exact if_neg (by omega)))⟩ (by omega) H locs _ wd (lv_sub hl [1, 2, 3, 0] rfl)
    · skip
      refine z_iinc C (lv' := [(2, .int (iI (x + 1))), (0, .ref w0), (1, .int (iI (mn (M 10) (M 7)))), (3, .int (iI k))]) hl 2 dX5_wrongBits_60 rfl (by decide) rfl (fun ls hl => ?_)
      refine z_iinc C (lv' := [(3, .int (iI (k + 1))), (2, .int (iI (x + 1))), (0, .ref w0), (1, .int (iI (mn (M 10) (M 7))))]) hl 3 dX5_wrongBits_63 rfl (by decide) rfl (fun ls hl => ?_)
      refine z_goto C (tgt := 28) dX5_wrongBits_66 (by decide) ?_
      exact ih28 (x + 1) (k + 1) ⟨(by omega), (by first | exact sm_zero h28_0.1 h28_1 (by first | exact if_pos (by omega) | exact if_neg (by omega)) | exact sm_one h28_0.1 h28_1 (by first | exact if_pos (by omega) | exact if_neg (by omega)))⟩ (by omega) H locs _ wd (lv_sub hl [2, 3, 1, 0] rfl)
set_option maxRecDepth 100000 in
set_option maxHeartbeats 4000000 in
theorem c_typeA (l : Launch) (D : va_G) (cy cs : ClassId) (w0 w1 w2 t0 d0 d0k a0 a1 s0 s1 s2 s3 r0 r1 r2 r3 r4 : Nat) (iK n L : Int) (M : Int → Int) (t1 : Nat) (ty x : Int) (fv : Int → Int) (hx : 0 ≤ x ∧ x < 65536) (hty : 0 ≤ ty ∧ ty < 60) : zCi l D (zT cy cs) yX5_type wsX5_type ({ frames := 2, cells := 0, slots := 0, locals := 41 } : Room) [.ref w0, .int (iI x)] [zO w0 5 [.ref d0, .ref d0k, .int (iI iK), .ref w1, .int (iI n), .ref t0, .ref w2], zO t0 4 [.int (iI ty), .ref t1], zA cy t1 60 fv] (ty + 1) [zO w0 5 [.ref d0, .ref d0k, .int (iI iK), .ref w1, .int (iI n), .ref t0, .ref w2], zO t0 4 [.int (iI (ty + 1)), .ref t1], zA cy t1 60 (uZ fv ty (vc x))] := by
  intro sz
  refine zM_mk (cc := cX5_type) (maxL := 2) (ret := (some .int)) (own := RX5) (Qc := fun sz => va_Qi (fun r (_ : Unit) => r = iI (ty + 1)) (fun _ t => zQ D (zT cy cs) (va_A [zO w0 5 [.ref d0, .ref d0k, .int (iI iK), .ref w1, .int (iI n), .ref t0, .ref w2], zO t0 4 [.int (iI ty), .ref t1], zA cy t1 60 fv] sz) [zO w0 5 [.ref d0, .ref d0k, .int (iI iK), .ref w1, .int (iI n), .ref t0, .ref w2], zO t0 4 [.int (iI (ty + 1)), .ref t1], zA cy t1 60 (uZ fv ty (vc x))] t) (va_A [zO w0 5 [.ref d0, .ref d0k, .int (iI iK), .ref w1, .int (iI n), .ref t0, .ref w2], zO t0 4 [.int (iI ty), .ref t1], zA cy t1 60 fv] sz)) (by decide) rfl rfl (Nat.le_of_ble_eq_true rfl) rfl sz ?_
  intro p e s m args below meth c ls C hr hlk hnm hl hsz hA wd
  subst hsz
  have hl : lv_has ls 2 [(0, .ref w0), (1, .int (iI x))] := hl
  have iX4 : ∀ w ∈ u_ws RX4 TX4 2, w ∈ wsX5_type := by decide +kernel
  have iX5 : ∀ w ∈ u_ws RX5 TX5 7, w ∈ wsX5_type := by decide +kernel
  have L34 := C.2.2.2.2 (.fieldLink RX5 34 "LikelyWalks" "text" "LLikelyWalks$Text;") (by decide +kernel)
  have L87 := C.2.2.2.2 (.fieldLink RX5 87 "LikelyWalks$Text" "length" "I") (by decide +kernel)
  refine lv_aload_n C.1 C.2.1 dX5_type_0 rfl (lv_at hl 0 rfl) ?_
  refine z_get C wd (Cn := RX5) (TT := TX5) (N := 7) (ci := 5) iX5 0 rfl rfl 5 (by decide) L34 (fun _ h => h) rfl dX5_type_1 ?_
  refine z_get C wd (Cn := RX4) (TT := TX4) (N := 2) (ci := 4) iX4 1 rfl rfl 0 (by decide) L87 (fun _ h => h) rfl dX5_type_4 ?_
  refine z_bipush C dX5_type_7 (by decide +kernel) ?_
  refine z_icmp_lt C (tgt := 15) dX5_type_9 (by decide) (by omega) (fun c_1 => ?_) (fun c_1 => ?_)
  · skip
    refine lv_aload_n C.1 C.2.1 dX5_type_15 rfl (lv_at hl 0 rfl) ?_
    refine z_get C wd (Cn := RX5) (TT := TX5) (N := 7) (ci := 5) iX5 0 rfl rfl 5 (by decide) L34 (fun _ h => h) rfl dX5_type_16 ?_
    refine lv_iload_n C.1 C.2.1 dX5_type_19 rfl (lv_at hl 1 rfl) ?_
    refine z_cvv C wd hA (As := [.int (iI x)]) (rest := []) (ws2 := [zO w0 5 [.ref d0, .ref d0k, .int (iI iK), .ref w1, .int (iI n), .ref t0, .ref w2], zO t0 4 [.int (iI (ty + 1)), .ref t1], zA cy t1 60 (uZ fv ty (vc x))]) (c_X4_append l D cy cs t0 t1 ty x fv (by omega) (by omega)) (cwV 1 C.2.2.2.2 gX5_type_X4_append rfl rfl rfl (by decide +kernel) ⟨Nat.le_of_ble_eq_true rfl, Nat.le_of_ble_eq_true rfl⟩) [1, 2] rfl rfl rfl ⟨rfl, [0], [zO w0 5 [.ref d0, .ref d0k, .int (iI iK), .ref w1, .int (iI n), .ref t0, .ref w2]], 3, rfl, rfl, rfl, by decide +kernel⟩ rfl rfl rfl rfl (Nat.le_of_ble_eq_true rfl) hl.1 dX5_type_20 ⟨Nat.zero_le _, Nat.zero_le _⟩ (fun H locs wd => ?_)
    refine lv_aload_n C.1 C.2.1 dX5_type_23 rfl (lv_at hl 0 rfl) ?_
    refine z_get C wd (Cn := RX5) (TT := TX5) (N := 7) (ci := 5) iX5 0 rfl rfl 5 (by decide) L34 (fun _ h => h) rfl dX5_type_24 ?_
    refine z_get C wd (Cn := RX4) (TT := TX4) (N := 2) (ci := 4) iX4 1 rfl rfl 0 (by decide) L87 (fun _ h => h) rfl dX5_type_27 ?_
    exact z_iret C hr hlk wd (by first | rfl | omega) dX5_type_30
  · skip
    exact False.elim (by omega)
set_option maxRecDepth 100000 in
set_option maxHeartbeats 4000000 in
theorem c_typeB (l : Launch) (D : va_G) (cy cs : ClassId) (w0 w1 w2 t0 d0 d0k a0 a1 s0 s1 s2 s3 r0 r1 r2 r3 r4 : Nat) (iK n L : Int) (M : Int → Int) (t1 : Nat) (ty x : Int) (hx : 0 ≤ x ∧ x < 65536) (hty : ty = 60) : zCi l D (zT cy cs) yX5_type wsX5_type ({ frames := 2, cells := 0, slots := 0, locals := 41 } : Room) [.ref w0, .int (iI x)] [zO w0 5 [.ref d0, .ref d0k, .int (iI iK), .ref w1, .int (iI n), .ref t0, .ref w2], zO t0 4 [.int (iI ty), .ref t1]] (-3) [zO w0 5 [.ref d0, .ref d0k, .int (iI iK), .ref w1, .int (iI n), .ref t0, .ref w2], zO t0 4 [.int (iI ty), .ref t1]] := by
  intro sz
  refine zM_mk (cc := cX5_type) (maxL := 2) (ret := (some .int)) (own := RX5) (Qc := fun sz => va_Qi (fun r (_ : Unit) => r = iI (-3)) (fun _ t => zQ D (zT cy cs) (va_A [zO w0 5 [.ref d0, .ref d0k, .int (iI iK), .ref w1, .int (iI n), .ref t0, .ref w2], zO t0 4 [.int (iI ty), .ref t1]] sz) [zO w0 5 [.ref d0, .ref d0k, .int (iI iK), .ref w1, .int (iI n), .ref t0, .ref w2], zO t0 4 [.int (iI ty), .ref t1]] t) (va_A [zO w0 5 [.ref d0, .ref d0k, .int (iI iK), .ref w1, .int (iI n), .ref t0, .ref w2], zO t0 4 [.int (iI ty), .ref t1]] sz)) (by decide) rfl rfl (Nat.le_of_ble_eq_true rfl) rfl sz ?_
  intro p e s m args below meth c ls C hr hlk hnm hl hsz hA wd
  subst hsz
  have hl : lv_has ls 2 [(0, .ref w0), (1, .int (iI x))] := hl
  have iX4 : ∀ w ∈ u_ws RX4 TX4 2, w ∈ wsX5_type := by decide +kernel
  have iX5 : ∀ w ∈ u_ws RX5 TX5 7, w ∈ wsX5_type := by decide +kernel
  have L34 := C.2.2.2.2 (.fieldLink RX5 34 "LikelyWalks" "text" "LLikelyWalks$Text;") (by decide +kernel)
  have L87 := C.2.2.2.2 (.fieldLink RX5 87 "LikelyWalks$Text" "length" "I") (by decide +kernel)
  refine lv_aload_n C.1 C.2.1 dX5_type_0 rfl (lv_at hl 0 rfl) ?_
  refine z_get C wd (Cn := RX5) (TT := TX5) (N := 7) (ci := 5) iX5 0 rfl rfl 5 (by decide) L34 (fun _ h => h) rfl dX5_type_1 ?_
  refine z_get C wd (Cn := RX4) (TT := TX4) (N := 2) (ci := 4) iX4 1 rfl rfl 0 (by decide) L87 (fun _ h => h) rfl dX5_type_4 ?_
  refine z_bipush C dX5_type_7 (by decide +kernel) ?_
  refine z_icmp_lt C (tgt := 15) dX5_type_9 (by decide) (by omega) (fun c_1 => ?_) (fun c_1 => ?_)
  · skip
    exact False.elim (by omega)
  · skip
    refine z_bipush C dX5_type_12 (by decide +kernel) ?_
    exact z_iret C hr hlk wd (by first | rfl | omega) dX5_type_14
set_option maxRecDepth 100000 in
set_option maxHeartbeats 4000000 in
theorem c_X5_clearText (l : Launch) (D : va_G) (cy cs : ClassId) (w0 w1 w2 t0 d0 d0k a0 a1 s0 s1 s2 s3 r0 r1 r2 r3 r4 : Nat) (iK n L : Int) (M : Int → Int) (t1 : Nat) (ty : Int) (hty : 0 ≤ ty ∧ ty ≤ 60) : zCi l D (zT cy cs) yX5_clearText wsX5_clearText ({ frames := 0, cells := 0, slots := 0, locals := 0 } : Room) [.ref w0] [zO w0 5 [.ref d0, .ref d0k, .int (iI iK), .ref w1, .int (iI n), .ref t0, .ref w2], zO t0 4 [.int (iI ty), .ref t1]] ty [zO w0 5 [.ref d0, .ref d0k, .int (iI iK), .ref w1, .int (iI n), .ref t0, .ref w2], zO t0 4 [.int (iI 0), .ref t1]] := by
  intro sz
  refine zM_mk (cc := cX5_clearText) (maxL := 2) (ret := (some .int)) (own := RX5) (Qc := fun sz => va_Qi (fun r (_ : Unit) => r = iI ty) (fun _ t => zQ D (zT cy cs) (va_A [zO w0 5 [.ref d0, .ref d0k, .int (iI iK), .ref w1, .int (iI n), .ref t0, .ref w2], zO t0 4 [.int (iI ty), .ref t1]] sz) [zO w0 5 [.ref d0, .ref d0k, .int (iI iK), .ref w1, .int (iI n), .ref t0, .ref w2], zO t0 4 [.int (iI 0), .ref t1]] t) (va_A [zO w0 5 [.ref d0, .ref d0k, .int (iI iK), .ref w1, .int (iI n), .ref t0, .ref w2], zO t0 4 [.int (iI ty), .ref t1]] sz)) (by decide) rfl rfl (Nat.le_of_ble_eq_true rfl) rfl sz ?_
  intro p e s m args below meth c ls C hr hlk hnm hl hsz hA wd
  subst hsz
  have hl : lv_has ls 2 [(0, .ref w0)] := hl
  have iX4 : ∀ w ∈ u_ws RX4 TX4 2, w ∈ wsX5_clearText := by decide +kernel
  have iX5 : ∀ w ∈ u_ws RX5 TX5 7, w ∈ wsX5_clearText := by decide +kernel
  have L34 := C.2.2.2.2 (.fieldLink RX5 34 "LikelyWalks" "text" "LLikelyWalks$Text;") (by decide +kernel)
  have L87 := C.2.2.2.2 (.fieldLink RX5 87 "LikelyWalks$Text" "length" "I") (by decide +kernel)
  refine lv_aload_n C.1 C.2.1 dX5_clearText_0 rfl (lv_at hl 0 rfl) ?_
  refine z_get C wd (Cn := RX5) (TT := TX5) (N := 7) (ci := 5) iX5 0 rfl rfl 5 (by decide) L34 (fun _ h => h) rfl dX5_clearText_1 ?_
  refine z_get C wd (Cn := RX4) (TT := TX4) (N := 2) (ci := 4) iX4 1 rfl rfl 0 (by decide) L87 (fun _ h => h) rfl dX5_clearText_4 ?_
  refine lv_istore_n (lv' := [(1, .int (iI ty)), (0, .ref w0)]) C.1 C.2.1 dX5_clearText_7 rfl hl (by decide) rfl (fun ls hl => ?_)
  refine lv_aload_n C.1 C.2.1 dX5_clearText_8 rfl (lv_at hl 1 rfl) ?_
  refine z_get C wd (Cn := RX5) (TT := TX5) (N := 7) (ci := 5) iX5 0 rfl rfl 5 (by decide) L34 (fun _ h => h) rfl dX5_clearText_9 ?_
  refine z_iconst C dX5_clearText_12 ?_
  refine z_put C wd (Cn := RX4) (TT := TX4) (N := 2) (ci := 4) (ws2 := [zO w0 5 [.ref d0, .ref d0k, .int (iI iK), .ref w1, .int (iI n), .ref t0, .ref w2], zO t0 4 [.int (iI 0), .ref t1]]) iX4 tyX4 tyX4_ok nmX4 1 rfl rfl 0 (by decide) L87 (fun _ h => h) rfl (ty := .int) (by decide +kernel) rfl rfl (Nat.le_of_ble_eq_true rfl) rfl dX5_clearText_13 (fun H locs wd => ?_)
  refine lv_iload_n C.1 C.2.1 dX5_clearText_16 rfl (lv_at hl 0 rfl) ?_
  exact z_iret C hr hlk wd (by first | rfl | omega) dX5_clearText_17
