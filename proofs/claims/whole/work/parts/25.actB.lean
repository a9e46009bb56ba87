set_option maxRecDepth 100000 in
set_option maxHeartbeats 4000000 in
theorem c_X5_flipB (l : Launch) (D : va_G) (cy cs : ClassId) (w0 w1 w2 t0 d0 d0k a0 a1 s0 s1 s2 s3 r0 r1 r2 r3 r4 : Nat) (iK n L : Int) (M : Int → Int) (k : Int) (hln : 0 ≤ M 7 * M 1 ∧ M 7 * M 1 ≤ 240) (hlt : 0 ≤ L * M 1 ∧ L * M 1 ≤ 240) (hli : ∀ j : Int, 0 ≤ j → j < 240 → 0 ≤ sl M 92 j ∧ sl M 92 j ≤ 2) (hk : -2147483648 ≤ k ∧ k < 2147483648) (hno : ¬ (0 ≤ k ∧ k < M 7 * M 1) ∨ sl M 92 k = 2 ∨ k < L * M 1) : zCi l D (zT cy cs) yX5_flip wsX5_flip ({ frames := 2, cells := 0, slots := 0, locals := 41 } : Room) [.ref w0, .int (iI k)] [zO w0 5 [.ref d0, .ref d0k, .int (iI iK), .ref w1, .int (iI n), .ref t0, .ref w2], zO d0 3 [.int (iI (M 5)), .ref a0, .ref s0, .ref r0], zO a0 0 [.int (iI (M 0)), .int (iI (M 1)), .ref a1], zO s0 2 [.int (iI (M 6)), .int (iI (M 7)), .ref s1, .ref s2, .ref s3], zA cy s2 240 (sl M 92), zO r0 1 [.int (iI (M 9)), .int (iI L), .int (iI (M 10)), .int (iI (M 11)), .ref r1, .ref r2, .ref r3, .ref r4]] (fNo M k) [zO w0 5 [.ref d0, .ref d0k, .int (iI iK), .ref w1, .int (iI n), .ref t0, .ref w2], zO d0 3 [.int (iI (M 5)), .ref a0, .ref s0, .ref r0], zO a0 0 [.int (iI (M 0)), .int (iI (M 1)), .ref a1], zO s0 2 [.int (iI (M 6)), .int (iI (M 7)), .ref s1, .ref s2, .ref s3], zA cy s2 240 (sl M 92), zO r0 1 [.int (iI (M 9)), .int (iI L), .int (iI (M 10)), .int (iI (M 11)), .ref r1, .ref r2, .ref r3, .ref r4]] := by
  intro sz
  refine zM_mk (cc := cX5_flip) (maxL := 3) (ret := (some .int)) (own := RX5) (Qc := fun sz => va_Qi (fun r (_ : Unit) => r = iI (fNo M k)) (fun _ t => zQ D (zT cy cs) (va_A [zO w0 5 [.ref d0, .ref d0k, .int (iI iK), .ref w1, .int (iI n), .ref t0, .ref w2], zO d0 3 [.int (iI (M 5)), .ref a0, .ref s0, .ref r0], zO a0 0 [.int (iI (M 0)), .int (iI (M 1)), .ref a1], zO s0 2 [.int (iI (M 6)), .int (iI (M 7)), .ref s1, .ref s2, .ref s3], zA cy s2 240 (sl M 92), zO r0 1 [.int (iI (M 9)), .int (iI L), .int (iI (M 10)), .int (iI (M 11)), .ref r1, .ref r2, .ref r3, .ref r4]] sz) [zO w0 5 [.ref d0, .ref d0k, .int (iI iK), .ref w1, .int (iI n), .ref t0, .ref w2], zO d0 3 [.int (iI (M 5)), .ref a0, .ref s0, .ref r0], zO a0 0 [.int (iI (M 0)), .int (iI (M 1)), .ref a1], zO s0 2 [.int (iI (M 6)), .int (iI (M 7)), .ref s1, .ref s2, .ref s3], zA cy s2 240 (sl M 92), zO r0 1 [.int (iI (M 9)), .int (iI L), .int (iI (M 10)), .int (iI (M 11)), .ref r1, .ref r2, .ref r3, .ref r4]] t) (va_A [zO w0 5 [.ref d0, .ref d0k, .int (iI iK), .ref w1, .int (iI n), .ref t0, .ref w2], zO d0 3 [.int (iI (M 5)), .ref a0, .ref s0, .ref r0], zO a0 0 [.int (iI (M 0)), .int (iI (M 1)), .ref a1], zO s0 2 [.int (iI (M 6)), .int (iI (M 7)), .ref s1, .ref s2, .ref s3], zA cy s2 240 (sl M 92), zO r0 1 [.int (iI (M 9)), .int (iI L), .int (iI (M 10)), .int (iI (M 11)), .ref r1, .ref r2, .ref r3, .ref r4]] sz)) (by decide) rfl rfl (Nat.le_of_ble_eq_true rfl) rfl sz ?_
  intro p e s m args below meth c ls C hr hlk hnm hl hsz hA wd
  subst hsz
  have hl : lv_has ls 3 [(0, .ref w0), (1, .int (iI k))] := hl
  have iX2 : ∀ w ∈ u_ws RX2 TX2 5, w ∈ wsX5_flip := by decide +kernel
  have iX3 : ∀ w ∈ u_ws RX3 TX3 4, w ∈ wsX5_flip := by decide +kernel
  have iX5 : ∀ w ∈ u_ws RX5 TX5 7, w ∈ wsX5_flip := by decide +kernel
  have L12 := C.2.2.2.2 (.fieldLink RX5 12 "LikelyWalks" "now" "LLikelyWalks$State;") (by decide +kernel)
  have L55 := C.2.2.2.2 (.fieldLink RX5 55 "LikelyWalks$State" "sender" "LLikelyWalks$Sender;") (by decide +kernel)
  have L104 := C.2.2.2.2 (.fieldLink RX5 104 "LikelyWalks$Sender" "symbols" "[I") (by decide +kernel)
  refine lv_aload_n C.1 C.2.1 dX5_flip_0 rfl (lv_at hl 0 rfl) ?_
  refine lv_iload_n C.1 C.2.1 dX5_flip_1 rfl (lv_at hl 1 rfl) ?_
  refine z_cvi C wd hA (As := [.int (iI k)]) (rest := []) (ws2 := [zO w0 5 [.ref d0, .ref d0k, .int (iI iK), .ref w1, .int (iI n), .ref t0, .ref w2], zO d0 3 [.int (iI (M 5)), .ref a0, .ref s0, .ref r0], zO a0 0 [.int (iI (M 0)), .int (iI (M 1)), .ref a1], zO s0 2 [.int (iI (M 6)), .int (iI (M 7)), .ref s1, .ref s2, .ref s3], zA cy s2 240 (sl M 92), zO r0 1 [.int (iI (M 9)), .int (iI L), .int (iI (M 10)), .int (iI (M 11)), .ref r1, .ref r2, .ref r3, .ref r4]]) (c_X5_isOnLine l D cy cs w0 w1 w2 t0 d0 d0k a0 a1 s0 s1 s2 s3 r0 0 0 0 0 iK n 0 M k (by omega) (by omega)) (cwV 1 C.2.2.2.2 gX5_flip_X5_isOnLine rfl rfl rfl (by decide +kernel) ⟨Nat.le_of_ble_eq_true rfl, Nat.le_of_ble_eq_true rfl⟩) [0, 1, 2, 3] rfl rfl rfl ⟨rfl, [4, 5], [zA cy s2 240 (sl M 92), zO r0 1 [.int (iI (M 9)), .int (iI L), .int (iI (M 10)), .int (iI (M 11)), .ref r1, .ref r2, .ref r3, .ref r4]], 6, rfl, rfl, rfl, by decide +kernel⟩ rfl rfl rfl rfl (Nat.le_of_ble_eq_true rfl) hl.1 dX5_flip_2 ⟨Nat.zero_le _, Nat.zero_le _⟩ (fun H locs wd => ?_)
  refine z_ifb_ne C (tgt := 10) dX5_flip_5 (by decide) (fun c_1 => ?_) (fun c_1 => ?_)
  · skip
    refine lv_aload_n C.1 C.2.1 dX5_flip_10 rfl (lv_at hl 0 rfl) ?_
    refine z_get C wd (Cn := RX5) (TT := TX5) (N := 7) (ci := 5) iX5 0 rfl rfl 0 (by decide) L12 (fun _ h => h) rfl dX5_flip_11 ?_
    refine z_get C wd (Cn := RX3) (TT := TX3) (N := 4) (ci := 3) iX3 1 rfl rfl 2 (by decide) L55 (fun _ h => h) rfl dX5_flip_14 ?_
    refine z_get C wd (Cn := RX2) (TT := TX2) (N := 5) (ci := 2) iX2 3 rfl rfl 3 (by decide) L104 (fun _ h => h) rfl dX5_flip_17 ?_
    refine lv_iload_n C.1 C.2.1 dX5_flip_20 rfl (lv_at hl 1 rfl) ?_
    refine z_iald C wd 4 rfl (by omega) (by decide) dX5_flip_21 ?_
    have hx := hli k (by omega) (by omega)
    refine z_iconst C dX5_flip_22 ?_
    refine z_icmp_eq C (tgt := 34) dX5_flip_23 (by decide) (by omega) (fun c_2 => ?_) (fun c_2 => ?_)
    · skip
      refine z_bipush C dX5_flip_34 (by decide +kernel) ?_
      exact z_iret C hr hlk wd (by unfold fNo; (repeat (first | rw [if_pos (by omega)] | rw [if_neg (by omega)])); first | done | rfl) dX5_flip_36
    · skip
      refine lv_aload_n C.1 C.2.1 dX5_flip_26 rfl (lv_at hl 0 rfl) ?_
      refine lv_iload_n C.1 C.2.1 dX5_flip_27 rfl (lv_at hl 1 rfl) ?_
      refine z_cvi C wd hA (As := [.int (iI k)]) (rest := []) (ws2 := [zO w0 5 [.ref d0, .ref d0k, .int (iI iK), .ref w1, .int (iI n), .ref t0, .ref w2], zO d0 3 [.int (iI (M 5)), .ref a0, .ref s0, .ref r0], zO a0 0 [.int (iI (M 0)), .int (iI (M 1)), .ref a1], zO s0 2 [.int (iI (M 6)), .int (iI (M 7)), .ref s1, .ref s2, .ref s3], zA cy s2 240 (sl M 92), zO r0 1 [.int (iI (M 9)), .int (iI L), .int (iI (M 10)), .int (iI (M 11)), .ref r1, .ref r2, .ref r3, .ref r4]]) (c_X5_isTaken l D cy cs w0 w1 w2 t0 d0 d0k a0 a1 s0 0 0 0 r0 r1 r2 r3 r4 iK n L M k (by omega) (by omega)) (cwV 1 C.2.2.2.2 gX5_flip_X5_isTaken rfl rfl rfl (by decide +kernel) ⟨Nat.le_of_ble_eq_true rfl, Nat.le_of_ble_eq_true rfl⟩) [0, 1, 2, 5] rfl rfl rfl ⟨rfl, [3, 4], [zO s0 2 [.int (iI (M 6)), .int (iI (M 7)), .ref s1, .ref s2, .ref s3], zA cy s2 240 (sl M 92)], 6, rfl, rfl, rfl, by decide +kernel⟩ rfl rfl rfl rfl (Nat.le_of_ble_eq_true rfl) hl.1 dX5_flip_28 ⟨Nat.zero_le _, Nat.zero_le _⟩ (fun H locs wd => ?_)
      refine z_ifb_eq C (tgt := 37) dX5_flip_31 (by decide) (fun c_3 => ?_) (fun c_3 => ?_)
      · skip
        exact False.elim (by omega)
      · skip
        refine z_bipush C dX5_flip_34 (by decide +kernel) ?_
        exact z_iret C hr hlk wd (by unfold fNo; (repeat (first | rw [if_pos (by omega)] | rw [if_neg (by omega)])); first | done | rfl) dX5_flip_36
  · skip
    refine z_iconst C dX5_flip_8 ?_
    exact z_iret C hr hlk wd (by unfold fNo; (repeat (first | rw [if_pos (by omega)] | rw [if_neg (by omega)])); first | done | rfl) dX5_flip_9
set_option maxRecDepth 100000 in
set_option maxHeartbeats 4000000 in
theorem c_X5_eraseB (l : Launch) (D : va_G) (cy cs : ClassId) (w0 w1 w2 t0 d0 d0k a0 a1 s0 s1 s2 s3 r0 r1 r2 r3 r4 : Nat) (iK n L : Int) (M : Int → Int) (k : Int) (hln : 0 ≤ M 7 * M 1 ∧ M 7 * M 1 ≤ 240) (hlt : 0 ≤ L * M 1 ∧ L * M 1 ≤ 240) (hli : ∀ j : Int, 0 ≤ j → j < 240 → 0 ≤ sl M 92 j ∧ sl M 92 j ≤ 2) (h8 : M 8 = L * M 1) (hk : -2147483648 ≤ k ∧ k < 2147483648) (hno : ¬ (0 ≤ k ∧ k < M 7 * M 1) ∨ sl M 92 k = 2 ∨ k < L * M 1) : zCi l D (zT cy cs) yX5_erase wsX5_erase ({ frames := 2, cells := 0, slots := 0, locals := 41 } : Room) [.ref w0, .int (iI k)] [zO w0 5 [.ref d0, .ref d0k, .int (iI iK), .ref w1, .int (iI n), .ref t0, .ref w2], zO d0 3 [.int (iI (M 5)), .ref a0, .ref s0, .ref r0], zO a0 0 [.int (iI (M 0)), .int (iI (M 1)), .ref a1], zO s0 2 [.int (iI (M 6)), .int (iI (M 7)), .ref s1, .ref s2, .ref s3], zA cy s2 240 (sl M 92), zO r0 1 [.int (iI (M 9)), .int (iI L), .int (iI (M 10)), .int (iI (M 11)), .ref r1, .ref r2, .ref r3, .ref r4]] (eNo M k) [zO w0 5 [.ref d0, .ref d0k, .int (iI iK), .ref w1, .int (iI n), .ref t0, .ref w2], zO d0 3 [.int (iI (M 5)), .ref a0, .ref s0, .ref r0], zO a0 0 [.int (iI (M 0)), .int (iI (M 1)), .ref a1], zO s0 2 [.int (iI (M 6)), .int (iI (M 7)), .ref s1, .ref s2, .ref s3], zA cy s2 240 (sl M 92), zO r0 1 [.int (iI (M 9)), .int (iI L), .int (iI (M 10)), .int (iI (M 11)), .ref r1, .ref r2, .ref r3, .ref r4]] := by
  intro sz
  refine zM_mk (cc := cX5_erase) (maxL := 3) (ret := (some .int)) (own := RX5) (Qc := fun sz => va_Qi (fun r (_ : Unit) => r = iI (eNo M k)) (fun _ t => zQ D (zT cy cs) (va_A [zO w0 5 [.ref d0, .ref d0k, .int (iI iK), .ref w1, .int (iI n), .ref t0, .ref w2], zO d0 3 [.int (iI (M 5)), .ref a0, .ref s0, .ref r0], zO a0 0 [.int (iI (M 0)), .int (iI (M 1)), .ref a1], zO s0 2 [.int (iI (M 6)), .int (iI (M 7)), .ref s1, .ref s2, .ref s3], zA cy s2 240 (sl M 92), zO r0 1 [.int (iI (M 9)), .int (iI L), .int (iI (M 10)), .int (iI (M 11)), .ref r1, .ref r2, .ref r3, .ref r4]] sz) [zO w0 5 [.ref d0, .ref d0k, .int (iI iK), .ref w1, .int (iI n), .ref t0, .ref w2], zO d0 3 [.int (iI (M 5)), .ref a0, .ref s0, .ref r0], zO a0 0 [.int (iI (M 0)), .int (iI (M 1)), .ref a1], zO s0 2 [.int (iI (M 6)), .int (iI (M 7)), .ref s1, .ref s2, .ref s3], zA cy s2 240 (sl M 92), zO r0 1 [.int (iI (M 9)), .int (iI L), .int (iI (M 10)), .int (iI (M 11)), .ref r1, .ref r2, .ref r3, .ref r4]] t) (va_A [zO w0 5 [.ref d0, .ref d0k, .int (iI iK), .ref w1, .int (iI n), .ref t0, .ref w2], zO d0 3 [.int (iI (M 5)), .ref a0, .ref s0, .ref r0], zO a0 0 [.int (iI (M 0)), .int (iI (M 1)), .ref a1], zO s0 2 [.int (iI (M 6)), .int (iI (M 7)), .ref s1, .ref s2, .ref s3], zA cy s2 240 (sl M 92), zO r0 1 [.int (iI (M 9)), .int (iI L), .int (iI (M 10)), .int (iI (M 11)), .ref r1, .ref r2, .ref r3, .ref r4]] sz)) (by decide) rfl rfl (Nat.le_of_ble_eq_true rfl) rfl sz ?_
  intro p e s m args below meth c ls C hr hlk hnm hl hsz hA wd
  subst hsz
  have hl : lv_has ls 3 [(0, .ref w0), (1, .int (iI k))] := hl
  have iX2 : ∀ w ∈ u_ws RX2 TX2 5, w ∈ wsX5_erase := by decide +kernel
  have iX3 : ∀ w ∈ u_ws RX3 TX3 4, w ∈ wsX5_erase := by decide +kernel
  have iX5 : ∀ w ∈ u_ws RX5 TX5 7, w ∈ wsX5_erase := by decide +kernel
  have L12 := C.2.2.2.2 (.fieldLink RX5 12 "LikelyWalks" "now" "LLikelyWalks$State;") (by decide +kernel)
  have L55 := C.2.2.2.2 (.fieldLink RX5 55 "LikelyWalks$State" "sender" "LLikelyWalks$Sender;") (by decide +kernel)
  have L104 := C.2.2.2.2 (.fieldLink RX5 104 "LikelyWalks$Sender" "symbols" "[I") (by decide +kernel)
  refine lv_aload_n C.1 C.2.1 dX5_erase_0 rfl (lv_at hl 0 rfl) ?_
  refine lv_iload_n C.1 C.2.1 dX5_erase_1 rfl (lv_at hl 1 rfl) ?_
  refine z_cvi C wd hA (As := [.int (iI k)]) (rest := []) (ws2 := [zO w0 5 [.ref d0, .ref d0k, .int (iI iK), .ref w1, .int (iI n), .ref t0, .ref w2], zO d0 3 [.int (iI (M 5)), .ref a0, .ref s0, .ref r0], zO a0 0 [.int (iI (M 0)), .int (iI (M 1)), .ref a1], zO s0 2 [.int (iI (M 6)), .int (iI (M 7)), .ref s1, .ref s2, .ref s3], zA cy s2 240 (sl M 92), zO r0 1 [.int (iI (M 9)), .int (iI L), .int (iI (M 10)), .int (iI (M 11)), .ref r1, .ref r2, .ref r3, .ref r4]]) (c_X5_isOnLine l D cy cs w0 w1 w2 t0 d0 d0k a0 a1 s0 s1 s2 s3 r0 0 0 0 0 iK n 0 M k (by omega) (by omega)) (cwV 1 C.2.2.2.2 gX5_erase_X5_isOnLine rfl rfl rfl (by decide +kernel) ⟨Nat.le_of_ble_eq_true rfl, Nat.le_of_ble_eq_true rfl⟩) [0, 1, 2, 3] rfl rfl rfl ⟨rfl, [4, 5], [zA cy s2 240 (sl M 92), zO r0 1 [.int (iI (M 9)), .int (iI L), .int (iI (M 10)), .int (iI (M 11)), .ref r1, .ref r2, .ref r3, .ref r4]], 6, rfl, rfl, rfl, by decide +kernel⟩ rfl rfl rfl rfl (Nat.le_of_ble_eq_true rfl) hl.1 dX5_erase_2 ⟨Nat.zero_le _, Nat.zero_le _⟩ (fun H locs wd => ?_)
  refine z_ifb_ne C (tgt := 10) dX5_erase_5 (by decide) (fun c_1 => ?_) (fun c_1 => ?_)
  · skip
    refine lv_aload_n C.1 C.2.1 dX5_erase_10 rfl (lv_at hl 0 rfl) ?_
    refine lv_iload_n C.1 C.2.1 dX5_erase_11 rfl (lv_at hl 1 rfl) ?_
    refine z_cvi C wd hA (As := [.int (iI k)]) (rest := []) (ws2 := [zO w0 5 [.ref d0, .ref d0k, .int (iI iK), .ref w1, .int (iI n), .ref t0, .ref w2], zO d0 3 [.int (iI (M 5)), .ref a0, .ref s0, .ref r0], zO a0 0 [.int (iI (M 0)), .int (iI (M 1)), .ref a1], zO s0 2 [.int (iI (M 6)), .int (iI (M 7)), .ref s1, .ref s2, .ref s3], zA cy s2 240 (sl M 92), zO r0 1 [.int (iI (M 9)), .int (iI L), .int (iI (M 10)), .int (iI (M 11)), .ref r1, .ref r2, .ref r3, .ref r4]]) (c_X5_isTaken l D cy cs w0 w1 w2 t0 d0 d0k a0 a1 s0 0 0 0 r0 r1 r2 r3 r4 iK n L M k (by omega) (by omega)) (cwV 1 C.2.2.2.2 gX5_erase_X5_isTaken rfl rfl rfl (by decide +kernel) ⟨Nat.le_of_ble_eq_true rfl, Nat.le_of_ble_eq_true rfl⟩) [0, 1, 2, 5] rfl rfl rfl ⟨rfl, [3, 4], [zO s0 2 [.int (iI (M 6)), .int (iI (M 7)), .ref s1, .ref s2, .ref s3], zA cy s2 240 (sl M 92)], 6, rfl, rfl, rfl, by decide +kernel⟩ rfl rfl rfl rfl (Nat.le_of_ble_eq_true rfl) hl.1 dX5_erase_12 ⟨Nat.zero_le _, Nat.zero_le _⟩ (fun H locs wd => ?_)
    refine z_ifb_eq C (tgt := 21) dX5_erase_15 (by decide) (fun c_2 => ?_) (fun c_2 => ?_)
    · skip
      refine lv_aload_n C.1 C.2.1 dX5_erase_21 rfl (lv_at hl 0 rfl) ?_
      refine z_get C wd (Cn := RX5) (TT := TX5) (N := 7) (ci := 5) iX5 0 rfl rfl 0 (by decide) L12 (fun _ h => h) rfl dX5_erase_22 ?_
      refine z_get C wd (Cn := RX3) (TT := TX3) (N := 4) (ci := 3) iX3 1 rfl rfl 2 (by decide) L55 (fun _ h => h) rfl dX5_erase_25 ?_
      refine z_get C wd (Cn := RX2) (TT := TX2) (N := 5) (ci := 2) iX2 3 rfl rfl 3 (by decide) L104 (fun _ h => h) rfl dX5_erase_28 ?_
      refine lv_iload_n C.1 C.2.1 dX5_erase_31 rfl (lv_at hl 1 rfl) ?_
      refine z_iald C wd 4 rfl (by omega) (by decide) dX5_erase_32 ?_
      have hx := hli k (by omega) (by omega)
      refine lv_istore_n (lv' := [(2, .int (iI ((sl M 92) k))), (0, .ref w0), (1, .int (iI k))]) C.1 C.2.1 dX5_erase_33 rfl hl (by decide) rfl (fun ls hl => ?_)
      refine lv_iload_n C.1 C.2.1 dX5_erase_34 rfl (lv_at hl 0 rfl) ?_
      refine z_iconst C dX5_erase_35 ?_
      refine z_icmp_ne C (tgt := 42) dX5_erase_36 (by decide) (by omega) (fun c_3 => ?_) (fun c_3 => ?_)
      · skip
        exact False.elim (by omega)
      · skip
        refine z_bipush C dX5_erase_39 (by decide +kernel) ?_
        exact z_iret C hr hlk wd (by unfold eNo; (repeat (first | rw [if_pos (by omega)] | rw [if_neg (by omega)])); first | done | rfl) dX5_erase_41
    · skip
      refine z_bipush C dX5_erase_18 (by decide +kernel) ?_
      exact z_iret C hr hlk wd (by unfold eNo; (repeat (first | rw [if_pos (by omega)] | rw [if_neg (by omega)])); first | done | rfl) dX5_erase_20
  · skip
    refine z_iconst C dX5_erase_8 ?_
    exact z_iret C hr hlk wd (by unfold eNo; (repeat (first | rw [if_pos (by omega)] | rw [if_neg (by omega)])); first | done | rfl) dX5_erase_9
set_option maxRecDepth 100000 in
set_option maxHeartbeats 4000000 in
theorem c_X5_setDepthB (l : Launch) (D : va_G) (cy cs : ClassId) (w0 w1 w2 t0 d0 d0k a0 a1 s0 s1 s2 s3 r0 r1 r2 r3 r4 : Nat) (iK n L : Int) (M : Int → Int) (d : Int) (hS : 0 ≤ M 9 ∧ M 9 ≤ 80) (h5 : 2 ≤ M 5 ∧ M 5 ≤ 40) (hd : -2147483648 ≤ d ∧ d < 2147483648) (hno : ¬ (2 ≤ d ∧ d ≤ 40) ∨ 0 < M 9 ∨ M 5 = d) : zCi l D (zT cy cs) yX5_setDepth wsX5_setDepth ({ frames := 0, cells := 0, slots := 0, locals := 0 } : Room) [.ref w0, .int (iI d)] [zO w0 5 [.ref d0, .ref d0k, .int (iI iK), .ref w1, .int (iI n), .ref t0, .ref w2], zO d0 3 [.int (iI (M 5)), .ref a0, .ref s0, .ref r0], zO r0 1 [.int (iI (M 9)), .int (iI L), .int (iI (M 10)), .int (iI (M 11)), .ref r1, .ref r2, .ref r3, .ref r4]] (sdNo M d) [zO w0 5 [.ref d0, .ref d0k, .int (iI iK), .ref w1, .int (iI n), .ref t0, .ref w2], zO d0 3 [.int (iI (M 5)), .ref a0, .ref s0, .ref r0], zO r0 1 [.int (iI (M 9)), .int (iI L), .int (iI (M 10)), .int (iI (M 11)), .ref r1, .ref r2, .ref r3, .ref r4]] := by
  intro sz
  refine zM_mk (cc := cX5_setDepth) (maxL := 3) (ret := (some .int)) (own := RX5) (Qc := fun sz => va_Qi (fun r (_ : Unit) => r = iI (sdNo M d)) (fun _ t => zQ D (zT cy cs) (va_A [zO w0 5 [.ref d0, .ref d0k, .int (iI iK), .ref w1, .int (iI n), .ref t0, .ref w2], zO d0 3 [.int (iI (M 5)), .ref a0, .ref s0, .ref r0], zO r0 1 [.int (iI (M 9)), .int (iI L), .int (iI (M 10)), .int (iI (M 11)), .ref r1, .ref r2, .ref r3, .ref r4]] sz) [zO w0 5 [.ref d0, .ref d0k, .int (iI iK), .ref w1, .int (iI n), .ref t0, .ref w2], zO d0 3 [.int (iI (M 5)), .ref a0, .ref s0, .ref r0], zO r0 1 [.int (iI (M 9)), .int (iI L), .int (iI (M 10)), .int (iI (M 11)), .ref r1, .ref r2, .ref r3, .ref r4]] t) (va_A [zO w0 5 [.ref d0, .ref d0k, .int (iI iK), .ref w1, .int (iI n), .ref t0, .ref w2], zO d0 3 [.int (iI (M 5)), .ref a0, .ref s0, .ref r0], zO r0 1 [.int (iI (M 9)), .int (iI L), .int (iI (M 10)), .int (iI (M 11)), .ref r1, .ref r2, .ref r3, .ref r4]] sz)) (by decide) rfl rfl (Nat.le_of_ble_eq_true rfl) rfl sz ?_
  intro p e s m args below meth c ls C hr hlk hnm hl hsz hA wd
  subst hsz
  have hl : lv_has ls 3 [(0, .ref w0), (1, .int (iI d))] := hl
  have iX1 : ∀ w ∈ u_ws RX1 TX1 8, w ∈ wsX5_setDepth := by decide +kernel
  have iX3 : ∀ w ∈ u_ws RX3 TX3 4, w ∈ wsX5_setDepth := by decide +kernel
  have iX5 : ∀ w ∈ u_ws RX5 TX5 7, w ∈ wsX5_setDepth := by decide +kernel
  have L12 := C.2.2.2.2 (.fieldLink RX5 12 "LikelyWalks" "now" "LLikelyWalks$State;") (by decide +kernel)
  have L64 := C.2.2.2.2 (.fieldLink RX5 64 "LikelyWalks$State" "reader" "LLikelyWalks$Reader;") (by decide +kernel)
  have L74 := C.2.2.2.2 (.fieldLink RX5 74 "LikelyWalks$Reader" "steps" "I") (by decide +kernel)
  have L77 := C.2.2.2.2 (.fieldLink RX5 77 "LikelyWalks$State" "depth" "I") (by decide +kernel)
  refine lv_iload_n C.1 C.2.1 dX5_setDepth_0 rfl (lv_at hl 1 rfl) ?_
  refine z_iconst C dX5_setDepth_1 ?_
  refine z_icmp_lt C (tgt := 11) dX5_setDepth_2 (by decide) (by omega) (fun c_1 => ?_) (fun c_1 => ?_)
  · skip
    refine z_bipush C dX5_setDepth_11 (by decide +kernel) ?_
    exact z_iret C hr hlk wd (by unfold sdNo; (repeat (first | rw [if_pos (by omega)] | rw [if_neg (by omega)])); first | done | rfl) dX5_setDepth_13
  · skip
    refine lv_iload_n C.1 C.2.1 dX5_setDepth_5 rfl (lv_at hl 1 rfl) ?_
    refine z_bipush C dX5_setDepth_6 (by decide +kernel) ?_
    refine z_icmp_le C (tgt := 14) dX5_setDepth_8 (by decide) (by omega) (fun c_2 => ?_) (fun c_2 => ?_)
    · skip
      refine lv_aload_n C.1 C.2.1 dX5_setDepth_14 rfl (lv_at hl 0 rfl) ?_
      refine z_get C wd (Cn := RX5) (TT := TX5) (N := 7) (ci := 5) iX5 0 rfl rfl 0 (by decide) L12 (fun _ h => h) rfl dX5_setDepth_15 ?_
      refine z_get C wd (Cn := RX3) (TT := TX3) (N := 4) (ci := 3) iX3 1 rfl rfl 3 (by decide) L64 (fun _ h => h) rfl dX5_setDepth_18 ?_
      refine z_get C wd (Cn := RX1) (TT := TX1) (N := 8) (ci := 1) iX1 2 rfl rfl 0 (by decide) L74 (fun _ h => h) rfl dX5_setDepth_21 ?_
      refine z_if_le C (tgt := 30) dX5_setDepth_24 (by decide) (by omega) (fun c_3 => ?_) (fun c_3 => ?_)
      · skip
        refine lv_aload_n C.1 C.2.1 dX5_setDepth_30 rfl (lv_at hl 0 rfl) ?_
        refine z_get C wd (Cn := RX5) (TT := TX5) (N := 7) (ci := 5) iX5 0 rfl rfl 0 (by decide) L12 (fun _ h => h) rfl dX5_setDepth_31 ?_
        refine z_get C wd (Cn := RX3) (TT := TX3) (N := 4) (ci := 3) iX3 1 rfl rfl 0 (by decide) L77 (fun _ h => h) rfl dX5_setDepth_34 ?_
        refine lv_iload_n C.1 C.2.1 dX5_setDepth_37 rfl (lv_at hl 1 rfl) ?_
        refine z_icmp_ne C (tgt := 44) dX5_setDepth_38 (by decide) (by omega) (fun c_4 => ?_) (fun c_4 => ?_)
        · skip
          exact False.elim (by omega)
        · skip
          refine z_bipush C dX5_setDepth_41 (by decide +kernel) ?_
          exact z_iret C hr hlk wd (by unfold sdNo; (repeat (first | rw [if_pos (by omega)] | rw [if_neg (by omega)])); first | done | rfl) dX5_setDepth_43
      · skip
        refine z_bipush C dX5_setDepth_27 (by decide +kernel) ?_
        exact z_iret C hr hlk wd (by unfold sdNo; (repeat (first | rw [if_pos (by omega)] | rw [if_neg (by omega)])); first | done | rfl) dX5_setDepth_29
    · skip
      refine z_bipush C dX5_setDepth_11 (by decide +kernel) ?_
      exact z_iret C hr hlk wd (by unfold sdNo; (repeat (first | rw [if_pos (by omega)] | rw [if_neg (by omega)])); first | done | rfl) dX5_setDepth_13
set_option maxRecDepth 100000 in
set_option maxHeartbeats 4000000 in
theorem c_X5_setCodeB (l : Launch) (D : va_G) (cy cs : ClassId) (w0 w1 w2 t0 d0 d0k a0 a1 s0 s1 s2 s3 r0 r1 r2 r3 r4 : Nat) (iK n L : Int) (M : Int → Int) (f0 f1 f2 f3 : Int) (hf0 : -2147483648 ≤ f0 ∧ f0 < 2147483648) (hf1 : -2147483648 ≤ f1 ∧ f1 < 2147483648) (hf2 : -2147483648 ≤ f2 ∧ f2 < 2147483648) (hf3 : -2147483648 ≤ f3 ∧ f3 < 2147483648) (hno : ¬ (1 ≤ f0 ∧ f0 ≤ 5) ∨ ¬ (1 ≤ f1 ∧ f1 ≤ 2 * p2 f0 - 1) ∨ ¬ (1 ≤ f2 ∧ f2 ≤ 2 * p2 f0 - 1) ∨ ¬ (0 ≤ f3 ∧ f3 ≤ 2 * p2 f0 - 1)) : zCi l D (zT cy cs) yX5_setCode wsX5_setCode ({ frames := 0, cells := 0, slots := 0, locals := 0 } : Room) [.ref w0, .int (iI f0), .int (iI f1), .int (iI f2), .int (iI f3)] [zO w0 5 [.ref d0, .ref d0k, .int (iI iK), .ref w1, .int (iI n), .ref t0, .ref w2]] (-2) [zO w0 5 [.ref d0, .ref d0k, .int (iI iK), .ref w1, .int (iI n), .ref t0, .ref w2]] := by
  intro sz
  refine zM_mk (cc := cX5_setCode) (maxL := 6) (ret := (some .int)) (own := RX5) (Qc := fun sz => va_Qi (fun r (_ : Unit) => r = iI (-2)) (fun _ t => zQ D (zT cy cs) (va_A [zO w0 5 [.ref d0, .ref d0k, .int (iI iK), .ref w1, .int (iI n), .ref t0, .ref w2]] sz) [zO w0 5 [.ref d0, .ref d0k, .int (iI iK), .ref w1, .int (iI n), .ref t0, .ref w2]] t) (va_A [zO w0 5 [.ref d0, .ref d0k, .int (iI iK), .ref w1, .int (iI n), .ref t0, .ref w2]] sz)) (by decide) rfl rfl (Nat.le_of_ble_eq_true rfl) rfl sz ?_
  intro p e s m args below meth c ls C hr hlk hnm hl hsz hA wd
  subst hsz
  have hl : lv_has ls 6 [(0, .ref w0), (1, .int (iI f0)), (2, .int (iI f1)), (3, .int (iI f2)), (4, .int (iI f3))] := hl
  refine lv_iload_n C.1 C.2.1 dX5_setCode_0 rfl (lv_at hl 1 rfl) ?_
  refine z_iconst C dX5_setCode_1 ?_
  refine z_icmp_lt C (tgt := 10) dX5_setCode_2 (by decide) (by omega) (fun c_1 => ?_) (fun c_1 => ?_)
  · skip
    refine z_bipush C dX5_setCode_10 (by decide +kernel) ?_
    exact z_iret C hr hlk wd rfl dX5_setCode_12
  · skip
    refine lv_iload_n C.1 C.2.1 dX5_setCode_5 rfl (lv_at hl 1 rfl) ?_
    refine z_iconst C dX5_setCode_6 ?_
    refine z_icmp_le C (tgt := 13) dX5_setCode_7 (by decide) (by omega) (fun c_2 => ?_) (fun c_2 => ?_)
    · skip
      have hp := p2_all (mm := f0) (by omega) (by omega)
      refine z_iconst C dX5_setCode_13 ?_
      refine lv_iload_n C.1 C.2.1 dX5_setCode_14 rfl (lv_at hl 1 rfl) ?_
      refine z_ishl C (2 * p2 f0) dX5_setCode_15 (iI_shl (by omega) (by omega) (by omega) (by omega)) ?_
      refine z_iconst C dX5_setCode_16 ?_
      refine z_isub C dX5_setCode_17 ?_
      refine lv_istore (lv' := [(5, .int (iI ((2 * p2 f0) - 1))), (0, .ref w0), (1, .int (iI f0)), (2, .int (iI f1)), (3, .int (iI f2)), (4, .int (iI f3))]) C.1 C.2.1 dX5_setCode_18 hl (by decide) rfl (fun ls hl => ?_)
      refine lv_iload_n C.1 C.2.1 dX5_setCode_20 rfl (lv_at hl 3 rfl) ?_
      refine z_iconst C dX5_setCode_21 ?_
      refine z_icmp_lt C (tgt := 42) dX5_setCode_22 (by decide) (by omega) (fun c_3 => ?_) (fun c_3 => ?_)
      · skip
        refine z_bipush C dX5_setCode_42 (by decide +kernel) ?_
        exact z_iret C hr hlk wd rfl dX5_setCode_44
      · skip
        refine lv_iload_n C.1 C.2.1 dX5_setCode_25 rfl (lv_at hl 3 rfl) ?_
        refine lv_iload C.1 C.2.1 dX5_setCode_26 (lv_at hl 0 rfl) ?_
        refine z_icmp_gt C (tgt := 42) dX5_setCode_28 (by decide) (by omega) (fun c_4 => ?_) (fun c_4 => ?_)
        · skip
          refine z_bipush C dX5_setCode_42 (by decide +kernel) ?_
          exact z_iret C hr hlk wd rfl dX5_setCode_44
        · skip
          refine lv_iload_n C.1 C.2.1 dX5_setCode_31 rfl (lv_at hl 4 rfl) ?_
          refine z_iconst C dX5_setCode_32 ?_
          refine z_icmp_lt C (tgt := 42) dX5_setCode_33 (by decide) (by omega) (fun c_5 => ?_) (fun c_5 => ?_)
          · skip
            refine z_bipush C dX5_setCode_42 (by decide +kernel) ?_
            exact z_iret C hr hlk wd rfl dX5_setCode_44
          · skip
            refine lv_iload_n C.1 C.2.1 dX5_setCode_36 rfl (lv_at hl 4 rfl) ?_
            refine lv_iload C.1 C.2.1 dX5_setCode_37 (lv_at hl 0 rfl) ?_
            refine z_icmp_le C (tgt := 45) dX5_setCode_39 (by decide) (by omega) (fun c_6 => ?_) (fun c_6 => ?_)
            · skip
              refine lv_iload C.1 C.2.1 dX5_setCode_45 (lv_at hl 5 rfl) ?_
              refine z_if_lt C (tgt := 57) dX5_setCode_47 (by decide) (by omega) (fun c_7 => ?_) (fun c_7 => ?_)
              · skip
                refine z_bipush C dX5_setCode_57 (by decide +kernel) ?_
                exact z_iret C hr hlk wd rfl dX5_setCode_59
              · skip
                refine lv_iload C.1 C.2.1 dX5_setCode_50 (lv_at hl 5 rfl) ?_
                refine lv_iload C.1 C.2.1 dX5_setCode_52 (lv_at hl 0 rfl) ?_
                refine z_icmp_le C (tgt := 60) dX5_setCode_54 (by decide) (by omega) (fun c_8 => ?_) (fun c_8 => ?_)
                · skip
                  exact False.elim (by omega)
                · skip
                  refine z_bipush C dX5_setCode_57 (by decide +kernel) ?_
                  exact z_iret C hr hlk wd rfl dX5_setCode_59
            · skip
              refine z_bipush C dX5_setCode_42 (by decide +kernel) ?_
              exact z_iret C hr hlk wd rfl dX5_setCode_44
    · skip
      refine z_bipush C dX5_setCode_10 (by decide +kernel) ?_
      exact z_iret C hr hlk wd rfl dX5_setCode_12
set_option maxRecDepth 100000 in
set_option maxHeartbeats 4000000 in
theorem c_X5_sendB (l : Launch) (D : va_G) (cy cs : ClassId) (w0 w1 w2 t0 d0 d0k a0 a1 s0 s1 s2 s3 r0 r1 r2 r3 r4 : Nat) (iK n L : Int) (M : Int → Int) (t1 : Nat) (ty : Int) (fv : Int → Int) (h7 : 0 ≤ M 7 ∧ M 7 ≤ 80) (hty : 0 ≤ ty ∧ ty ≤ 60) (hfv : ∀ k : Int, 0 ≤ k → k < 60 → 0 ≤ fv k ∧ fv k ≤ 3) (hno : ff fv ty 1 ≠ -1 ∨ 80 < M 7 + ty) (hfl : -1 ≤ ff fv ty 1 ∧ ff fv ty 1 ≤ 60) : zCi l D (zT cy cs) yX5_send wsX5_send ({ frames := 1, cells := 0, slots := 0, locals := 22 } : Room) [.ref w0] [zO w0 5 [.ref d0, .ref d0k, .int (iI iK), .ref w1, .int (iI n), .ref t0, .ref w2], zO d0 3 [.int (iI (M 5)), .ref a0, .ref s0, .ref r0], zO s0 2 [.int (iI (M 6)), .int (iI (M 7)), .ref s1, .ref s2, .ref s3], zO t0 4 [.int (iI ty), .ref t1], zA cy t1 60 fv] (sNo (ff fv ty 1)) [zO w0 5 [.ref d0, .ref d0k, .int (iI iK), .ref w1, .int (iI n), .ref t0, .ref w2], zO d0 3 [.int (iI (M 5)), .ref a0, .ref s0, .ref r0], zO s0 2 [.int (iI (M 6)), .int (iI (M 7)), .ref s1, .ref s2, .ref s3], zO t0 4 [.int (iI ty), .ref t1], zA cy t1 60 fv] := by
  intro sz
  refine zM_mk (cc := cX5_send) (maxL := 3) (ret := (some .int)) (own := RX5) (Qc := fun sz => va_Qi (fun r (_ : Unit) => r = iI (sNo (ff fv ty 1))) (fun _ t => zQ D (zT cy cs) (va_A [zO w0 5 [.ref d0, .ref d0k, .int (iI iK), .ref w1, .int (iI n), .ref t0, .ref w2], zO d0 3 [.int (iI (M 5)), .ref a0, .ref s0, .ref r0], zO s0 2 [.int (iI (M 6)), .int (iI (M 7)), .ref s1, .ref s2, .ref s3], zO t0 4 [.int (iI ty), .ref t1], zA cy t1 60 fv] sz) [zO w0 5 [.ref d0, .ref d0k, .int (iI iK), .ref w1, .int (iI n), .ref t0, .ref w2], zO d0 3 [.int (iI (M 5)), .ref a0, .ref s0, .ref r0], zO s0 2 [.int (iI (M 6)), .int (iI (M 7)), .ref s1, .ref s2, .ref s3], zO t0 4 [.int (iI ty), .ref t1], zA cy t1 60 fv] t) (va_A [zO w0 5 [.ref d0, .ref d0k, .int (iI iK), .ref w1, .int (iI n), .ref t0, .ref w2], zO d0 3 [.int (iI (M 5)), .ref a0, .ref s0, .ref r0], zO s0 2 [.int (iI (M 6)), .int (iI (M 7)), .ref s1, .ref s2, .ref s3], zO t0 4 [.int (iI ty), .ref t1], zA cy t1 60 fv] sz)) (by decide) rfl rfl (Nat.le_of_ble_eq_true rfl) rfl sz ?_
  intro p e s m args below meth c ls C hr hlk hnm hl hsz hA wd
  subst hsz
  have hl : lv_has ls 3 [(0, .ref w0)] := hl
  have iX2 : ∀ w ∈ u_ws RX2 TX2 5, w ∈ wsX5_send := by decide +kernel
  have iX3 : ∀ w ∈ u_ws RX3 TX3 4, w ∈ wsX5_send := by decide +kernel
  have iX4 : ∀ w ∈ u_ws RX4 TX4 2, w ∈ wsX5_send := by decide +kernel
  have iX5 : ∀ w ∈ u_ws RX5 TX5 7, w ∈ wsX5_send := by decide +kernel
  have L12 := C.2.2.2.2 (.fieldLink RX5 12 "LikelyWalks" "now" "LLikelyWalks$State;") (by decide +kernel)
  have L34 := C.2.2.2.2 (.fieldLink RX5 34 "LikelyWalks" "text" "LLikelyWalks$Text;") (by decide +kernel)
  have L55 := C.2.2.2.2 (.fieldLink RX5 55 "LikelyWalks$State" "sender" "LLikelyWalks$Sender;") (by decide +kernel)
  have L84 := C.2.2.2.2 (.fieldLink RX5 84 "LikelyWalks$Sender" "bitCount" "I") (by decide +kernel)
  have L87 := C.2.2.2.2 (.fieldLink RX5 87 "LikelyWalks$Text" "length" "I") (by decide +kernel)
  refine lv_aload_n C.1 C.2.1 dX5_send_0 rfl (lv_at hl 0 rfl) ?_
  refine z_get C wd (Cn := RX5) (TT := TX5) (N := 7) (ci := 5) iX5 0 rfl rfl 5 (by decide) L34 (fun _ h => h) rfl dX5_send_1 ?_
  refine z_iconst C dX5_send_4 ?_
  refine z_cvi C wd hA (As := [.int (iI 1)]) (rest := []) (ws2 := [zO w0 5 [.ref d0, .ref d0k, .int (iI iK), .ref w1, .int (iI n), .ref t0, .ref w2], zO d0 3 [.int (iI (M 5)), .ref a0, .ref s0, .ref r0], zO s0 2 [.int (iI (M 6)), .int (iI (M 7)), .ref s1, .ref s2, .ref s3], zO t0 4 [.int (iI ty), .ref t1], zA cy t1 60 fv]) (c_X4_firstFault l D cy cs t0 t1 ty 1 fv (by omega) (by omega) hfv) (cwV 1 C.2.2.2.2 gX5_send_X4_firstFault rfl rfl rfl (by decide +kernel) ⟨Nat.le_of_ble_eq_true rfl, Nat.le_of_ble_eq_true rfl⟩) [3, 4] rfl rfl rfl ⟨rfl, [0, 1, 2], [zO w0 5 [.ref d0, .ref d0k, .int (iI iK), .ref w1, .int (iI n), .ref t0, .ref w2], zO d0 3 [.int (iI (M 5)), .ref a0, .ref s0, .ref r0], zO s0 2 [.int (iI (M 6)), .int (iI (M 7)), .ref s1, .ref s2, .ref s3]], 5, rfl, rfl, rfl, by decide +kernel⟩ rfl rfl rfl rfl (Nat.le_of_ble_eq_true rfl) hl.1 dX5_send_5 ⟨Nat.zero_le _, Nat.zero_le _⟩ (fun H locs wd => ?_)
  refine lv_istore_n (lv' := [(1, .int (iI (ff fv ty 1))), (0, .ref w0)]) C.1 C.2.1 dX5_send_8 rfl hl (by decide) rfl (fun ls hl => ?_)
  refine lv_iload_n C.1 C.2.1 dX5_send_9 rfl (lv_at hl 0 rfl) ?_
  refine z_iconst C dX5_send_10 ?_
  refine z_icmp_eq C (tgt := 19) dX5_send_11 (by decide) (by omega) (fun c_1 => ?_) (fun c_1 => ?_)
  · skip
    refine lv_aload_n C.1 C.2.1 dX5_send_19 rfl (lv_at hl 1 rfl) ?_
    refine z_get C wd (Cn := RX5) (TT := TX5) (N := 7) (ci := 5) iX5 0 rfl rfl 0 (by decide) L12 (fun _ h => h) rfl dX5_send_20 ?_
    refine z_get C wd (Cn := RX3) (TT := TX3) (N := 4) (ci := 3) iX3 1 rfl rfl 2 (by decide) L55 (fun _ h => h) rfl dX5_send_23 ?_
    refine z_get C wd (Cn := RX2) (TT := TX2) (N := 5) (ci := 2) iX2 2 rfl rfl 1 (by decide) L84 (fun _ h => h) rfl dX5_send_26 ?_
    refine lv_aload_n C.1 C.2.1 dX5_send_29 rfl (lv_at hl 1 rfl) ?_
    refine z_get C wd (Cn := RX5) (TT := TX5) (N := 7) (ci := 5) iX5 0 rfl rfl 5 (by decide) L34 (fun _ h => h) rfl dX5_send_30 ?_
    refine z_get C wd (Cn := RX4) (TT := TX4) (N := 2) (ci := 4) iX4 3 rfl rfl 0 (by decide) L87 (fun _ h => h) rfl dX5_send_33 ?_
    refine z_iadd C dX5_send_36 ?_
    refine z_bipush C dX5_send_37 (by decide +kernel) ?_
    refine z_icmp_le C (tgt := 45) dX5_send_39 (by decide) (by omega) (fun c_2 => ?_) (fun c_2 => ?_)
    · skip
      exact False.elim (by omega)
    · skip
      refine z_bipush C dX5_send_42 (by decide +kernel) ?_
      exact z_iret C hr hlk wd (by unfold sNo; (repeat (first | rw [if_pos (by omega)] | rw [if_neg (by omega)])); first | done | rfl) dX5_send_44
  · skip
    refine z_bipush C dX5_send_14 (by decide +kernel) ?_
    refine lv_iload_n C.1 C.2.1 dX5_send_16 rfl (lv_at hl 0 rfl) ?_
    refine z_isub C dX5_send_17 ?_
    exact z_iret C hr hlk wd (by unfold sNo; (repeat (first | rw [if_pos (by omega)] | rw [if_neg (by omega)])); first | done | rfl) dX5_send_18
set_option maxRecDepth 100000 in
set_option maxHeartbeats 4000000 in
theorem c_X5_sendTailB (l : Launch) (D : va_G) (cy cs : ClassId) (w0 w1 w2 t0 d0 d0k a0 a1 s0 s1 s2 s3 r0 r1 r2 r3 r4 : Nat) (iK n L : Int) (M : Int → Int) (h7 : 0 ≤ M 7 ∧ M 7 ≤ 80) (hm : 1 ≤ M 0 ∧ M 0 ≤ 5) (hno : 80 < M 7 + M 0) : zCi l D (zT cy cs) yX5_sendTail wsX5_sendTail ({ frames := 0, cells := 0, slots := 0, locals := 0 } : Room) [.ref w0] [zO w0 5 [.ref d0, .ref d0k, .int (iI iK), .ref w1, .int (iI n), .ref t0, .ref w2], zO d0 3 [.int (iI (M 5)), .ref a0, .ref s0, .ref r0], zO a0 0 [.int (iI (M 0)), .int (iI (M 1)), .ref a1], zO s0 2 [.int (iI (M 6)), .int (iI (M 7)), .ref s1, .ref s2, .ref s3]] (-3) [zO w0 5 [.ref d0, .ref d0k, .int (iI iK), .ref w1, .int (iI n), .ref t0, .ref w2], zO d0 3 [.int (iI (M 5)), .ref a0, .ref s0, .ref r0], zO a0 0 [.int (iI (M 0)), .int (iI (M 1)), .ref a1], zO s0 2 [.int (iI (M 6)), .int (iI (M 7)), .ref s1, .ref s2, .ref s3]] := by
  intro sz
  refine zM_mk (cc := cX5_sendTail) (maxL := 3) (ret := (some .int)) (own := RX5) (Qc := fun sz => va_Qi (fun r (_ : Unit) => r = iI (-3)) (fun _ t => zQ D (zT cy cs) (va_A [zO w0 5 [.ref d0, .ref d0k, .int (iI iK), .ref w1, .int (iI n), .ref t0, .ref w2], zO d0 3 [.int (iI (M 5)), .ref a0, .ref s0, .ref r0], zO a0 0 [.int (iI (M 0)), .int (iI (M 1)), .ref a1], zO s0 2 [.int (iI (M 6)), .int (iI (M 7)), .ref s1, .ref s2, .ref s3]] sz) [zO w0 5 [.ref d0, .ref d0k, .int (iI iK), .ref w1, .int (iI n), .ref t0, .ref w2], zO d0 3 [.int (iI (M 5)), .ref a0, .ref s0, .ref r0], zO a0 0 [.int (iI (M 0)), .int (iI (M 1)), .ref a1], zO s0 2 [.int (iI (M 6)), .int (iI (M 7)), .ref s1, .ref s2, .ref s3]] t) (va_A [zO w0 5 [.ref d0, .ref d0k, .int (iI iK), .ref w1, .int (iI n), .ref t0, .ref w2], zO d0 3 [.int (iI (M 5)), .ref a0, .ref s0, .ref r0], zO a0 0 [.int (iI (M 0)), .int (iI (M 1)), .ref a1], zO s0 2 [.int (iI (M 6)), .int (iI (M 7)), .ref s1, .ref s2, .ref s3]] sz)) (by decide) rfl rfl (Nat.le_of_ble_eq_true rfl) rfl sz ?_
  intro p e s m args below meth c ls C hr hlk hnm hl hsz hA wd
  subst hsz
  have hl : lv_has ls 3 [(0, .ref w0)] := hl
  have iX0 : ∀ w ∈ u_ws RX0 TX0 3, w ∈ wsX5_sendTail := by decide +kernel
  have iX2 : ∀ w ∈ u_ws RX2 TX2 5, w ∈ wsX5_sendTail := by decide +kernel
  have iX3 : ∀ w ∈ u_ws RX3 TX3 4, w ∈ wsX5_sendTail := by decide +kernel
  have iX5 : ∀ w ∈ u_ws RX5 TX5 7, w ∈ wsX5_sendTail := by decide +kernel
  have L12 := C.2.2.2.2 (.fieldLink RX5 12 "LikelyWalks" "now" "LLikelyWalks$State;") (by decide +kernel)
  have L45 := C.2.2.2.2 (.fieldLink RX5 45 "LikelyWalks$State" "code" "LLikelyWalks$Code;") (by decide +kernel)
  have L55 := C.2.2.2.2 (.fieldLink RX5 55 "LikelyWalks$State" "sender" "LLikelyWalks$Sender;") (by decide +kernel)
  have L84 := C.2.2.2.2 (.fieldLink RX5 84 "LikelyWalks$Sender" "bitCount" "I") (by decide +kernel)
  have L97 := C.2.2.2.2 (.fieldLink RX5 97 "LikelyWalks$Code" "memory" "I") (by decide +kernel)
  refine lv_aload_n C.1 C.2.1 dX5_sendTail_0 rfl (lv_at hl 0 rfl) ?_
  refine z_get C wd (Cn := RX5) (TT := TX5) (N := 7) (ci := 5) iX5 0 rfl rfl 0 (by decide) L12 (fun _ h => h) rfl dX5_sendTail_1 ?_
  refine z_get C wd (Cn := RX3) (TT := TX3) (N := 4) (ci := 3) iX3 1 rfl rfl 1 (by decide) L45 (fun _ h => h) rfl dX5_sendTail_4 ?_
  refine z_get C wd (Cn := RX0) (TT := TX0) (N := 3) (ci := 0) iX0 2 rfl rfl 0 (by decide) L97 (fun _ h => h) rfl dX5_sendTail_7 ?_
  refine lv_istore_n (lv' := [(1, .int (iI (M 0))), (0, .ref w0)]) C.1 C.2.1 dX5_sendTail_10 rfl hl (by decide) rfl (fun ls hl => ?_)
  refine lv_aload_n C.1 C.2.1 dX5_sendTail_11 rfl (lv_at hl 1 rfl) ?_
  refine z_get C wd (Cn := RX5) (TT := TX5) (N := 7) (ci := 5) iX5 0 rfl rfl 0 (by decide) L12 (fun _ h => h) rfl dX5_sendTail_12 ?_
  refine z_get C wd (Cn := RX3) (TT := TX3) (N := 4) (ci := 3) iX3 1 rfl rfl 2 (by decide) L55 (fun _ h => h) rfl dX5_sendTail_15 ?_
  refine z_get C wd (Cn := RX2) (TT := TX2) (N := 5) (ci := 2) iX2 3 rfl rfl 1 (by decide) L84 (fun _ h => h) rfl dX5_sendTail_18 ?_
  refine lv_iload_n C.1 C.2.1 dX5_sendTail_21 rfl (lv_at hl 0 rfl) ?_
  refine z_iadd C dX5_sendTail_22 ?_
  refine z_bipush C dX5_sendTail_23 (by decide +kernel) ?_
  refine z_icmp_le C (tgt := 31) dX5_sendTail_25 (by decide) (by omega) (fun c_1 => ?_) (fun c_1 => ?_)
  · skip
    exact False.elim (by omega)
  · skip
    refine z_bipush C dX5_sendTail_28 (by decide +kernel) ?_
    exact z_iret C hr hlk wd rfl dX5_sendTail_30
set_option maxRecDepth 100000 in
set_option maxHeartbeats 4000000 in
theorem c_X5_undoB (l : Launch) (D : va_G) (cy cs : ClassId) (w0 w1 w2 t0 d0 d0k a0 a1 s0 s1 s2 s3 r0 r1 r2 r3 r4 : Nat) (iK n L : Int) (M : Int → Int) (hn : n = 0) : zCi l D (zT cy cs) yX5_undo wsX5_undo ({ frames := 0, cells := 0, slots := 0, locals := 0 } : Room) [.ref w0] [zO w0 5 [.ref d0, .ref d0k, .int (iI iK), .ref w1, .int (iI n), .ref t0, .ref w2]] (-5) [zO w0 5 [.ref d0, .ref d0k, .int (iI iK), .ref w1, .int (iI n), .ref t0, .ref w2]] := by
  intro sz
  refine zM_mk (cc := cX5_undo) (maxL := 1) (ret := (some .int)) (own := RX5) (Qc := fun sz => va_Qi (fun r (_ : Unit) => r = iI (-5)) (fun _ t => zQ D (zT cy cs) (va_A [zO w0 5 [.ref d0, .ref d0k, .int (iI iK), .ref w1, .int (iI n), .ref t0, .ref w2]] sz) [zO w0 5 [.ref d0, .ref d0k, .int (iI iK), .ref w1, .int (iI n), .ref t0, .ref w2]] t) (va_A [zO w0 5 [.ref d0, .ref d0k, .int (iI iK), .ref w1, .int (iI n), .ref t0, .ref w2]] sz)) (by decide) rfl rfl (Nat.le_of_ble_eq_true rfl) rfl sz ?_
  intro p e s m args below meth c ls C hr hlk hnm hl hsz hA wd
  subst hsz
  have hl : lv_has ls 1 [(0, .ref w0)] := hl
  have iX5 : ∀ w ∈ u_ws RX5 TX5 7, w ∈ wsX5_undo := by decide +kernel
  have L27 := C.2.2.2.2 (.fieldLink RX5 27 "LikelyWalks" "pastCount" "I") (by decide +kernel)
  refine lv_aload_n C.1 C.2.1 dX5_undo_0 rfl (lv_at hl 0 rfl) ?_
  refine z_get C wd (Cn := RX5) (TT := TX5) (N := 7) (ci := 5) iX5 0 rfl rfl 4 (by decide) L27 (fun _ h => h) rfl dX5_undo_1 ?_
  refine z_iconst C dX5_undo_4 ?_
  refine z_icmp_ge C (tgt := 11) dX5_undo_5 (by decide) (by omega) (fun c_1 => ?_) (fun c_1 => ?_)
  · skip
    exact False.elim (by omega)
  · skip
    refine z_bipush C dX5_undo_8 (by decide +kernel) ?_
    exact z_iret C hr hlk wd rfl dX5_undo_10
set_option maxRecDepth 100000 in
set_option maxHeartbeats 4000000 in
theorem c_X5_restoreB (l : Launch) (D : va_G) (cy cs : ClassId) (w0 w1 w2 t0 d0 d0k a0 a1 s0 s1 s2 s3 r0 r1 r2 r3 r4 : Nat) (iK n L : Int) (M : Int → Int) (hn : iK = 0) : zCi l D (zT cy cs) yX5_restore wsX5_restore ({ frames := 0, cells := 0, slots := 0, locals := 0 } : Room) [.ref w0] [zO w0 5 [.ref d0, .ref d0k, .int (iI iK), .ref w1, .int (iI n), .ref t0, .ref w2]] (-5) [zO w0 5 [.ref d0, .ref d0k, .int (iI iK), .ref w1, .int (iI n), .ref t0, .ref w2]] := by
  intro sz
  refine zM_mk (cc := cX5_restore) (maxL := 1) (ret := (some .int)) (own := RX5) (Qc := fun sz => va_Qi (fun r (_ : Unit) => r = iI (-5)) (fun _ t => zQ D (zT cy cs) (va_A [zO w0 5 [.ref d0, .ref d0k, .int (iI iK), .ref w1, .int (iI n), .ref t0, .ref w2]] sz) [zO w0 5 [.ref d0, .ref d0k, .int (iI iK), .ref w1, .int (iI n), .ref t0, .ref w2]] t) (va_A [zO w0 5 [.ref d0, .ref d0k, .int (iI iK), .ref w1, .int (iI n), .ref t0, .ref w2]] sz)) (by decide) rfl rfl (Nat.le_of_ble_eq_true rfl) rfl sz ?_
  intro p e s m args below meth c ls C hr hlk hnm hl hsz hA wd
  subst hsz
  have hl : lv_has ls 1 [(0, .ref w0)] := hl
  have iX5 : ∀ w ∈ u_ws RX5 TX5 7, w ∈ wsX5_restore := by decide +kernel
  have L19 := C.2.2.2.2 (.fieldLink RX5 19 "LikelyWalks" "isKept" "Z") (by decide +kernel)
  refine lv_aload_n C.1 C.2.1 dX5_restore_0 rfl (lv_at hl 0 rfl) ?_
  refine z_get C wd (Cn := RX5) (TT := TX5) (N := 7) (ci := 5) iX5 0 rfl rfl 2 (by decide) L19 (fun _ h => h) rfl dX5_restore_1 ?_
  refine z_if_ne C (tgt := 10) dX5_restore_4 (by decide) (by omega) (fun c_1 => ?_) (fun c_1 => ?_)
  · skip
    exact False.elim (by omega)
  · skip
    refine z_bipush C dX5_restore_7 (by decide +kernel) ?_
    exact z_iret C hr hlk wd rfl dX5_restore_9
