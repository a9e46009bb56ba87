set_option maxRecDepth 100000 in
set_option maxHeartbeats 4000000 in
theorem c_X5_freeDistance (l : Launch) (D : va_G) (cy cs : ClassId) (w0 w1 w2 t0 d0 d0k a0 a1 s0 s1 s2 s3 r0 r1 r2 r3 r4 : Nat) (iK n L : Int) (M : Int → Int) (dv : Int → Int) (hm : 1 ≤ M 0 ∧ M 0 ≤ 5) (ho : 2 ≤ M 1 ∧ M 1 ≤ 3) (ht : tpOk (sl M 2)) : zCi l D (zT cy cs) yX5_freeDistance wsX5_freeDistance ({ frames := 6, cells := 0, slots := 0, locals := 139 } : Room) [.ref w0] [zO w0 5 [.ref d0, .ref d0k, .int (iI iK), .ref w1, .int (iI n), .ref t0, .ref w2], zO d0 3 [.int (iI (M 5)), .ref a0, .ref s0, .ref r0], zO a0 0 [.int (iI (M 0)), .int (iI (M 1)), .ref a1], zA cy a1 3 (sl M 2), zA cy w2 32 dv] (fdA (lvN (M 0) (M 1) (sl M 2) (p2 (M 0)).toNat 0)) [zO w0 5 [.ref d0, .ref d0k, .int (iI iK), .ref w1, .int (iI n), .ref t0, .ref w2], zO d0 3 [.int (iI (M 5)), .ref a0, .ref s0, .ref r0], zO a0 0 [.int (iI (M 0)), .int (iI (M 1)), .ref a1], zA cy a1 3 (sl M 2), zA cy w2 32 (lvN (M 0) (M 1) (sl M 2) (p2 (M 0)).toNat)] := by
  intro sz
  refine zM_mk (cc := cX5_freeDistance) (maxL := 2) (ret := (some .int)) (own := RX5) (Qc := fun sz => va_Qi (fun r (_ : Unit) => r = iI (fdA (lvN (M 0) (M 1) (sl M 2) (p2 (M 0)).toNat 0))) (fun _ t9 => zQ D (zT cy cs) (va_A [zO w0 5 [.ref d0, .ref d0k, .int (iI iK), .ref w1, .int (iI n), .ref t0, .ref w2], zO d0 3 [.int (iI (M 5)), .ref a0, .ref s0, .ref r0], zO a0 0 [.int (iI (M 0)), .int (iI (M 1)), .ref a1], zA cy a1 3 (sl M 2), zA cy w2 32 dv] sz) [zO w0 5 [.ref d0, .ref d0k, .int (iI iK), .ref w1, .int (iI n), .ref t0, .ref w2], zO d0 3 [.int (iI (M 5)), .ref a0, .ref s0, .ref r0], zO a0 0 [.int (iI (M 0)), .int (iI (M 1)), .ref a1], zA cy a1 3 (sl M 2), zA cy w2 32 (lvN (M 0) (M 1) (sl M 2) (p2 (M 0)).toNat)] t9) (va_A [zO w0 5 [.ref d0, .ref d0k, .int (iI iK), .ref w1, .int (iI n), .ref t0, .ref w2], zO d0 3 [.int (iI (M 5)), .ref a0, .ref s0, .ref r0], zO a0 0 [.int (iI (M 0)), .int (iI (M 1)), .ref a1], zA cy a1 3 (sl M 2), zA cy w2 32 dv] sz)) (by decide) rfl rfl (Nat.le_of_ble_eq_true rfl) rfl sz ?_
  intro p e s m args below meth c ls C hr hlk hnm hl hsz hA wd
  subst hsz
  have hl : lv_has ls 2 [(0, .ref w0)] := hl
  have iX3 : ∀ w ∈ u_ws RX3 TX3 4, w ∈ wsX5_freeDistance := by decide +kernel
  have iX5 : ∀ w ∈ u_ws RX5 TX5 7, w ∈ wsX5_freeDistance := by decide +kernel
  have L12 := C.2.2.2.2 (.fieldLink RX5 12 "LikelyWalks" "now" "LLikelyWalks$State;") (by decide +kernel)
  have L38 := C.2.2.2.2 (.fieldLink RX5 38 "LikelyWalks" "distances" "[I") (by decide +kernel)
  have L45 := C.2.2.2.2 (.fieldLink RX5 45 "LikelyWalks$State" "code" "LLikelyWalks$Code;") (by decide +kernel)
  have hp := p2_all hm.1 hm.2
  have hlb := lvN_bd (tp := sl M 2) hm ho (p2 (M 0)).toNat 0
  refine lv_aload_n C.1 C.2.1 dX5_freeDistance_0 rfl (lv_at hl 0 rfl) ?_
  refine z_get C wd (Cn := RX5) (TT := TX5) (N := 7) (ci := 5) iX5 0 rfl rfl 0 (by decide) L12 (fun _ h => h) rfl dX5_freeDistance_1 ?_
  refine z_get C wd (Cn := RX3) (TT := TX3) (N := 4) (ci := 3) iX3 1 rfl rfl 1 (by decide) L45 (fun _ h => h) rfl dX5_freeDistance_4 ?_
  refine lv_aload_n C.1 C.2.1 dX5_freeDistance_7 rfl (lv_at hl 0 rfl) ?_
  refine z_get C wd (Cn := RX5) (TT := TX5) (N := 7) (ci := 5) iX5 0 rfl rfl 6 (by decide) L38 (fun _ h => h) rfl dX5_freeDistance_8 ?_
  refine z_cvi C wd hA (As := [.ref w2]) (rest := []) (ws2 := [zO w0 5 [.ref d0, .ref d0k, .int (iI iK), .ref w1, .int (iI n), .ref t0, .ref w2], zO d0 3 [.int (iI (M 5)), .ref a0, .ref s0, .ref r0], zO a0 0 [.int (iI (M 0)), .int (iI (M 1)), .ref a1], zA cy a1 3 (sl M 2), zA cy w2 32 (lvN (M 0) (M 1) (sl M 2) (p2 (M 0)).toNat)]) (c_X0_leastReturn l D cy cs a0 a1 (M 0) (M 1) (sl M 2) w2 dv (by omega) (by omega) (by omega)) (cwV 1 C.2.2.2.2 gX5_freeDistance_X0_leastReturn rfl rfl rfl (by decide +kernel) ⟨Nat.le_of_ble_eq_true rfl, Nat.le_of_ble_eq_true rfl⟩) [2, 3, 4] rfl rfl rfl ⟨rfl, [0, 1], [zO w0 5 [.ref d0, .ref d0k, .int (iI iK), .ref w1, .int (iI n), .ref t0, .ref w2], zO d0 3 [.int (iI (M 5)), .ref a0, .ref s0, .ref r0]], 5, rfl, rfl, rfl, by decide +kernel⟩ rfl rfl rfl rfl (Nat.le_of_ble_eq_true rfl) hl.1 dX5_freeDistance_11 ⟨Nat.zero_le _, Nat.zero_le _⟩ (fun H locs wd => ?_)
  refine lv_istore_n (lv' := [(1, .int (iI (lvN (M 0) (M 1) (sl M 2) (p2 (M 0)).toNat 0))), (0, .ref w0)]) C.1 C.2.1 dX5_freeDistance_14 rfl hl (by decide) rfl (fun ls hl => ?_)
  refine lv_iload_n C.1 C.2.1 dX5_freeDistance_15 rfl (lv_at hl 0 rfl) ?_
  refine z_iconst C dX5_freeDistance_16 ?_
  refine z_icmp_eq C (tgt := 26) dX5_freeDistance_17 (by decide) (by omega) (fun c_1 => ?_) (fun c_1 => ?_)
  · skip
    refine z_bipush C dX5_freeDistance_26 (by decide +kernel) ?_
    refine z_goto C (tgt := 32) dX5_freeDistance_28 (by decide) ?_
    have wd := z_fld wd (ws2 := [zO w0 5 [.ref d0, .ref d0k, .int (iI iK), .ref w1, .int (iI n), .ref t0, .ref w2], zO d0 3 [.int (iI (M 5)), .ref a0, .ref s0, .ref r0], zO a0 0 [.int (iI (M 0)), .int (iI (M 1)), .ref a1], zA cy a1 3 (sl M 2), zA cy w2 32 (lvN (M 0) (M 1) (sl M 2) (p2 (M 0)).toNat)]) 2 rfl (congrArg (fun z0 => zO a0 0 [.int (iI z0), .int (iI (M 1)), .ref a1]) (show ((M 0) : Int) = M 0 from (by omega))) rfl
    have wd := z_fld wd (ws2 := [zO w0 5 [.ref d0, .ref d0k, .int (iI iK), .ref w1, .int (iI n), .ref t0, .ref w2], zO d0 3 [.int (iI (M 5)), .ref a0, .ref s0, .ref r0], zO a0 0 [.int (iI (M 0)), .int (iI (M 1)), .ref a1], zA cy a1 3 (sl M 2), zA cy w2 32 (lvN (M 0) (M 1) (sl M 2) (p2 (M 0)).toNat)]) 2 rfl (congrArg (fun z0 => zO a0 0 [.int (iI (M 0)), .int (iI z0), .ref a1]) (show ((M 1) : Int) = M 1 from (by omega))) rfl
    have wd := z_cell wd (ws2 := [zO w0 5 [.ref d0, .ref d0k, .int (iI iK), .ref w1, .int (iI n), .ref t0, .ref w2], zO d0 3 [.int (iI (M 5)), .ref a0, .ref s0, .ref r0], zO a0 0 [.int (iI (M 0)), .int (iI (M 1)), .ref a1], zA cy a1 3 (sl M 2), zA cy w2 32 (lvN (M 0) (M 1) (sl M 2) (p2 (M 0)).toNat)]) 3 rfl (by intro k hk0 hk1; first | rfl | omega) rfl
    exact z_iret C hr hlk wd (by unfold fdA; first | (rw [if_pos (by omega)]; done) | (rw [if_neg (by omega)]; done)) dX5_freeDistance_32
  · skip
    refine lv_iload_n C.1 C.2.1 dX5_freeDistance_20 rfl (lv_at hl 0 rfl) ?_
    refine z_bipush C dX5_freeDistance_21 (by decide +kernel) ?_
    refine z_icmp_le C (tgt := 31) dX5_freeDistance_23 (by decide) (by omega) (fun c_2 => ?_) (fun c_2 => ?_)
    · skip
      refine lv_iload_n C.1 C.2.1 dX5_freeDistance_31 rfl (lv_at hl 0 rfl) ?_
      have wd := z_fld wd (ws2 := [zO w0 5 [.ref d0, .ref d0k, .int (iI iK), .ref w1, .int (iI n), .ref t0, .ref w2], zO d0 3 [.int (iI (M 5)), .ref a0, .ref s0, .ref r0], zO a0 0 [.int (iI (M 0)), .int (iI (M 1)), .ref a1], zA cy a1 3 (sl M 2), zA cy w2 32 (lvN (M 0) (M 1) (sl M 2) (p2 (M 0)).toNat)]) 2 rfl (congrArg (fun z0 => zO a0 0 [.int (iI z0), .int (iI (M 1)), .ref a1]) (show ((M 0) : Int) = M 0 from (by omega))) rfl
      have wd := z_fld wd (ws2 := [zO w0 5 [.ref d0, .ref d0k, .int (iI iK), .ref w1, .int (iI n), .ref t0, .ref w2], zO d0 3 [.int (iI (M 5)), .ref a0, .ref s0, .ref r0], zO a0 0 [.int (iI (M 0)), .int (iI (M 1)), .ref a1], zA cy a1 3 (sl M 2), zA cy w2 32 (lvN (M 0) (M 1) (sl M 2) (p2 (M 0)).toNat)]) 2 rfl (congrArg (fun z0 => zO a0 0 [.int (iI (M 0)), .int (iI z0), .ref a1]) (show ((M 1) : Int) = M 1 from (by omega))) rfl
      have wd := z_cell wd (ws2 := [zO w0 5 [.ref d0, .ref d0k, .int (iI iK), .ref w1, .int (iI n), .ref t0, .ref w2], zO d0 3 [.int (iI (M 5)), .ref a0, .ref s0, .ref r0], zO a0 0 [.int (iI (M 0)), .int (iI (M 1)), .ref a1], zA cy a1 3 (sl M 2), zA cy w2 32 (lvN (M 0) (M 1) (sl M 2) (p2 (M 0)).toNat)]) 3 rfl (by intro k hk0 hk1; first | rfl | omega) rfl
      exact z_iret C hr hlk wd (by unfold fdA; first | (rw [if_pos (by omega)]; done) | (rw [if_neg (by omega)]; done)) dX5_freeDistance_32
    · skip
      refine z_bipush C dX5_freeDistance_26 (by decide +kernel) ?_
      refine z_goto C (tgt := 32) dX5_freeDistance_28 (by decide) ?_
      have wd := z_fld wd (ws2 := [zO w0 5 [.ref d0, .ref d0k, .int (iI iK), .ref w1, .int (iI n), .ref t0, .ref w2], zO d0 3 [.int (iI (M 5)), .ref a0, .ref s0, .ref r0], zO a0 0 [.int (iI (M 0)), .int (iI (M 1)), .ref a1], zA cy a1 3 (sl M 2), zA cy w2 32 (lvN (M 0) (M 1) (sl M 2) (p2 (M 0)).toNat)]) 2 rfl (congrArg (fun z0 => zO a0 0 [.int (iI z0), .int (iI (M 1)), .ref a1]) (show ((M 0) : Int) = M 0 from (by omega))) rfl
      have wd := z_fld wd (ws2 := [zO w0 5 [.ref d0, .ref d0k, .int (iI iK), .ref w1, .int (iI n), .ref t0, .ref w2], zO d0 3 [.int (iI (M 5)), .ref a0, .ref s0, .ref r0], zO a0 0 [.int (iI (M 0)), .int (iI (M 1)), .ref a1], zA cy a1 3 (sl M 2), zA cy w2 32 (lvN (M 0) (M 1) (sl M 2) (p2 (M 0)).toNat)]) 2 rfl (congrArg (fun z0 => zO a0 0 [.int (iI (M 0)), .int (iI z0), .ref a1]) (show ((M 1) : Int) = M 1 from (by omega))) rfl
      have wd := z_cell wd (ws2 := [zO w0 5 [.ref d0, .ref d0k, .int (iI iK), .ref w1, .int (iI n), .ref t0, .ref w2], zO d0 3 [.int (iI (M 5)), .ref a0, .ref s0, .ref r0], zO a0 0 [.int (iI (M 0)), .int (iI (M 1)), .ref a1], zA cy a1 3 (sl M 2), zA cy w2 32 (lvN (M 0) (M 1) (sl M 2) (p2 (M 0)).toNat)]) 3 rfl (by intro k hk0 hk1; first | rfl | omega) rfl
      exact z_iret C hr hlk wd (by unfold fdA; first | (rw [if_pos (by omega)]; done) | (rw [if_neg (by omega)]; done)) dX5_freeDistance_32
