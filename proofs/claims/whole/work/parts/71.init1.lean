set_option maxRecDepth 100000 in
set_option maxHeartbeats 4000000 in
theorem c_X0_init (l : Launch) (D : va_G) (cy cs : ClassId) (a0 : Nat) : zNv l D (zT cy cs) yX0_init wsX0_init ({ frames := 1, cells := 1, slots := 3, locals := 24 } : Room) 1 3 [.ref a0] [zO a0 0 [.int (iI 0), .int (iI 0), .null]] (fun (u9 : (Nat)) => True) (fun (u9 : (Nat)) => [zO a0 0 [.int (iI 2), .int (iI 2), .ref u9], zA cy u9 3 (uZ (uZ (uZ (fun _ => 0) 0 7) 1 5) 2 0)]) := by
  intro sz
  refine zM_mk (cc := cX0_init) (maxL := 1) (ret := none) (own := RX0) (Qc := fun sz => va_Qv (fun (u9 : (Nat)) => True) (fun u9 t9 => zQ D (zT cy cs) (va_A [zO a0 0 [.int (iI 0), .int (iI 0), .null]] sz) [zO a0 0 [.int (iI 2), .int (iI 2), .ref u9], zA cy u9 3 (uZ (uZ (uZ (fun _ => 0) 0 7) 1 5) 2 0)] t9) (va_A [zO a0 0 [.int (iI 0), .int (iI 0), .null]] sz)) (by decide) rfl rfl (Nat.le_of_ble_eq_true rfl) rfl sz ?_
  intro p e s m args below meth c ls C hr hlk hnm hl hsz hA wd
  subst hsz
  have hin : meth.name = "<init>" := hnm.trans rfl
  have hl : lv_has ls 1 [(0, .ref a0)] := hl
  have iX0 : ∀ w ∈ u_ws RX0 TX0 3, w ∈ wsX0_init := by decide +kernel
  have L9 := C.2.2.2.2 (.fieldLink RX0 9 "LikelyWalks$Code" "taps" "[I") (by decide +kernel)
  refine lv_aload_n C.1 C.2.1 dX0_init_0 rfl (lv_at hl 0 rfl) ?_
  refine W.objInit C.1 C.2.1 C.2.2.2.1 (C.2.2.2.2 (.methodLink RX0 3 objectInit) (by decide +kernel)) (C.2.2.2.2 (.instanceMethod objectInit) (by decide +kernel)) (C.2.2.2.2 (.code objectInit ⟨#[0xb1]⟩ 1 none) (by decide +kernel)) rfl (by rw [C.2.2.1]; exact hl.1) rfl dX0_init_1 (Nat.le_of_ble_eq_true rfl) (Nat.le_of_ble_eq_true rfl) ?_
  refine W.eq (g2 := F0 m 4 ls []) rfl ?_
  refine lv_aload_n C.1 C.2.1 dX0_init_4 rfl (lv_at hl 0 rfl) ?_
  refine z_iconst C dX0_init_5 ?_
  refine z_newa C wd hA (N := 3) (C.2.2.2.2 (.arrayClass .int) (by decide +kernel)) (by omega) rfl (Nat.le_of_ble_eq_true rfl) (Nat.le_of_ble_eq_true rfl) dX0_init_6 (fun q1 H wd => ?_)
  have wd : Wd D (zT cy cs) _ s.heap s [zO a0 0 [.int (iI 0), .int (iI 0), .null], zA cy q1 3 (fun _ => 0)] _ _ := wd
  refine W.widen (k := 1) (n := 3) (by omega) (by omega) ?_
  refine z_putF C wd (Cn := RX0) (TT := TX0) (N := 3) (ci := 0) (ws2 := [zO a0 0 [.int (iI 0), .int (iI 0), .ref q1], zA cy q1 3 (fun _ => 0)]) iX0 tyX0 tyX0_ok nmX0 0 rfl rfl 2 (by decide) L9 (fun _ h => h) rfl hin rfl (ty := (.array .int)) (by decide +kernel) rfl rfl (Nat.le_of_ble_eq_true rfl) rfl dX0_init_8 (fun H locs wd => ?_)
  refine lv_aload_n C.1 C.2.1 dX0_init_11 rfl (lv_at hl 0 rfl) ?_
  refine z_iconst C dX0_init_12 ?_
  refine z_bipush C dX0_init_13 (by decide +kernel) ?_
  refine z_iconst C dX0_init_15 ?_
  refine z_iconst C dX0_init_16 ?_
  refine z_cvv C wd hA (As := [.int (iI 2), .int (iI 7), .int (iI 5), .int (iI 0)]) (rest := []) (ws2 := [zO a0 0 [.int (iI 2), .int (iI (oT 0)), .ref q1], zA cy q1 3 (uZ (uZ (uZ (fun _ => 0) 0 7) 1 5) 2 0)]) (c_X0_choose l D cy cs a0 q1 0 0 2 7 5 0 (fun _ => 0) (by omega)) (cwV 4 C.2.2.2.2 gX0_init_X0_choose rfl rfl rfl (by decide +kernel) ⟨Nat.le_of_ble_eq_true rfl, Nat.le_of_ble_eq_true rfl⟩) [0, 1] rfl rfl rfl ⟨rfl, [], [], 2, rfl, rfl, rfl, by decide +kernel⟩ rfl rfl rfl rfl (Nat.le_of_ble_eq_true rfl) hl.1 dX0_init_17 ⟨Nat.le_of_ble_eq_true rfl, Nat.le_of_ble_eq_true rfl⟩ (fun H locs wd => ?_)
  have wd : Wd D (zT cy cs) _ s.heap s [zO a0 0 [.int (iI 2), .int (iI (oT 0)), .ref q1], zA cy q1 3 (uZ (uZ (uZ (fun _ => 0) 0 7) 1 5) 2 0)] _ _ := z_pick wd [0, 1] rfl (by decide +kernel)
  have wd := z_fld wd (ws2 := [zO a0 0 [.int (iI 2), .int (iI 2), .ref q1], zA cy q1 3 (uZ (uZ (uZ (fun _ => 0) 0 7) 1 5) 2 0)]) 0 rfl (congrArg (fun z0 => zO a0 0 [.int (iI 2), .int (iI z0), .ref q1]) (show (oT 0 : Int) = 2 from (by decide))) rfl
  exact z_vretX C hr hlk q1 trivial wd dX0_init_20
set_option maxRecDepth 100000 in
set_option maxHeartbeats 4000000 in
theorem c_X2_init (l : Launch) (D : va_G) (cy cs : ClassId) (s0 : Nat) : zNv l D (zT cy cs) yX2_init wsX2_init ({ frames := 1, cells := 3, slots := 560, locals := 20 } : Room) 3 560 [.ref s0] [zO s0 2 [.int (iI 0), .int (iI 0), .null, .null, .null]] (fun (u9 : (Nat) × (Nat) × (Nat)) => True) (fun (u9 : (Nat) × (Nat) × (Nat)) => [zO s0 2 [.int (iI 0), .int (iI 0), .ref u9.1, .ref u9.2.1, .ref u9.2.2], zA cy u9.1 80 (fun _ => 0), zA cy u9.2.1 240 (fun _ => 0), zA cy u9.2.2 240 (fun _ => 0)]) := by
  intro sz
  refine zM_mk (cc := cX2_init) (maxL := 1) (ret := none) (own := RX2) (Qc := fun sz => va_Qv (fun (u9 : (Nat) × (Nat) × (Nat)) => True) (fun u9 t9 => zQ D (zT cy cs) (va_A [zO s0 2 [.int (iI 0), .int (iI 0), .null, .null, .null]] sz) [zO s0 2 [.int (iI 0), .int (iI 0), .ref u9.1, .ref u9.2.1, .ref u9.2.2], zA cy u9.1 80 (fun _ => 0), zA cy u9.2.1 240 (fun _ => 0), zA cy u9.2.2 240 (fun _ => 0)] t9) (va_A [zO s0 2 [.int (iI 0), .int (iI 0), .null, .null, .null]] sz)) (by decide) rfl rfl (Nat.le_of_ble_eq_true rfl) rfl sz ?_
  intro p e s m args below meth c ls C hr hlk hnm hl hsz hA wd
  subst hsz
  have hin : meth.name = "<init>" := hnm.trans rfl
  have hl : lv_has ls 1 [(0, .ref s0)] := hl
  have iX2 : ∀ w ∈ u_ws RX2 TX2 5, w ∈ wsX2_init := by decide +kernel
  have L9 := C.2.2.2.2 (.fieldLink RX2 9 "LikelyWalks$Sender" "bits" "[I") (by decide +kernel)
  have L15 := C.2.2.2.2 (.fieldLink RX2 15 "LikelyWalks$Sender" "symbols" "[I") (by decide +kernel)
  have L18 := C.2.2.2.2 (.fieldLink RX2 18 "LikelyWalks$Sender" "originals" "[I") (by decide +kernel)
  refine lv_aload_n C.1 C.2.1 dX2_init_0 rfl (lv_at hl 0 rfl) ?_
  refine W.objInit C.1 C.2.1 C.2.2.2.1 (C.2.2.2.2 (.methodLink RX2 3 objectInit) (by decide +kernel)) (C.2.2.2.2 (.instanceMethod objectInit) (by decide +kernel)) (C.2.2.2.2 (.code objectInit ⟨#[0xb1]⟩ 1 none) (by decide +kernel)) rfl (by rw [C.2.2.1]; exact hl.1) rfl dX2_init_1 (Nat.le_of_ble_eq_true rfl) (Nat.le_of_ble_eq_true rfl) ?_
  refine W.eq (g2 := F0 m 4 ls []) rfl ?_
  refine lv_aload_n C.1 C.2.1 dX2_init_4 rfl (lv_at hl 0 rfl) ?_
  refine z_bipush C dX2_init_5 (by decide +kernel) ?_
  refine z_newa C wd hA (N := 80) (C.2.2.2.2 (.arrayClass .int) (by decide +kernel)) (by omega) rfl (Nat.le_of_ble_eq_true rfl) (Nat.le_of_ble_eq_true rfl) dX2_init_7 (fun q1 H wd => ?_)
  have wd : Wd D (zT cy cs) _ s.heap s [zO s0 2 [.int (iI 0), .int (iI 0), .null, .null, .null], zA cy q1 80 (fun _ => 0)] _ _ := wd
  refine W.widen (k := 1) (n := 80) (by omega) (by omega) ?_
  refine z_putF C wd (Cn := RX2) (TT := TX2) (N := 5) (ci := 2) (ws2 := [zO s0 2 [.int (iI 0), .int (iI 0), .ref q1, .null, .null], zA cy q1 80 (fun _ => 0)]) iX2 tyX2 tyX2_ok nmX2 0 rfl rfl 2 (by decide) L9 (fun _ h => h) rfl hin rfl (ty := (.array .int)) (by decide +kernel) rfl rfl (Nat.le_of_ble_eq_true rfl) rfl dX2_init_9 (fun H locs wd => ?_)
  refine lv_aload_n C.1 C.2.1 dX2_init_12 rfl (lv_at hl 0 rfl) ?_
  refine z_sipush C dX2_init_13 (by decide +kernel) ?_
  refine z_newa C wd hA (N := 240) (C.2.2.2.2 (.arrayClass .int) (by decide +kernel)) (by omega) rfl (Nat.le_of_ble_eq_true rfl) (Nat.le_of_ble_eq_true rfl) dX2_init_16 (fun q2 H wd => ?_)
  have wd : Wd D (zT cy cs) _ s.heap s [zO s0 2 [.int (iI 0), .int (iI 0), .ref q1, .null, .null], zA cy q1 80 (fun _ => 0), zA cy q2 240 (fun _ => 0)] _ _ := wd
  refine W.widen (k := 2) (n := 320) (by omega) (by omega) ?_
  refine z_putF C wd (Cn := RX2) (TT := TX2) (N := 5) (ci := 2) (ws2 := [zO s0 2 [.int (iI 0), .int (iI 0), .ref q1, .ref q2, .null], zA cy q1 80 (fun _ => 0), zA cy q2 240 (fun _ => 0)]) iX2 tyX2 tyX2_ok nmX2 0 rfl rfl 3 (by decide) L15 (fun _ h => h) rfl hin rfl (ty := (.array .int)) (by decide +kernel) rfl rfl (Nat.le_of_ble_eq_true rfl) rfl dX2_init_18 (fun H locs wd => ?_)
  refine lv_aload_n C.1 C.2.1 dX2_init_21 rfl (lv_at hl 0 rfl) ?_
  refine z_sipush C dX2_init_22 (by decide +kernel) ?_
  refine z_newa C wd hA (N := 240) (C.2.2.2.2 (.arrayClass .int) (by decide +kernel)) (by omega) rfl (Nat.le_of_ble_eq_true rfl) (Nat.le_of_ble_eq_true rfl) dX2_init_25 (fun q3 H wd => ?_)
  have wd : Wd D (zT cy cs) _ s.heap s [zO s0 2 [.int (iI 0), .int (iI 0), .ref q1, .ref q2, .null], zA cy q1 80 (fun _ => 0), zA cy q2 240 (fun _ => 0), zA cy q3 240 (fun _ => 0)] _ _ := wd
  refine W.widen (k := 3) (n := 560) (by omega) (by omega) ?_
  refine z_putF C wd (Cn := RX2) (TT := TX2) (N := 5) (ci := 2) (ws2 := [zO s0 2 [.int (iI 0), .int (iI 0), .ref q1, .ref q2, .ref q3], zA cy q1 80 (fun _ => 0), zA cy q2 240 (fun _ => 0), zA cy q3 240 (fun _ => 0)]) iX2 tyX2 tyX2_ok nmX2 0 rfl rfl 4 (by decide) L18 (fun _ h => h) rfl hin rfl (ty := (.array .int)) (by decide +kernel) rfl rfl (Nat.le_of_ble_eq_true rfl) rfl dX2_init_27 (fun H locs wd => ?_)
  refine lv_aload_n C.1 C.2.1 dX2_init_30 rfl (lv_at hl 0 rfl) ?_
  refine z_cvv C wd hA (As := []) (rest := []) (ws2 := [zO s0 2 [.int (iI 0), .int (iI 0), .ref q1, .ref q2, .ref q3], zA cy q1 80 (fun _ => 0), zA cy q2 240 (fun _ => 0), zA cy q3 240 (fun _ => 0)]) (c_X2_clear l D cy cs s0 q1 q2 q3 0 0 ) (cwV 0 C.2.2.2.2 gX2_init_X2_clear rfl rfl rfl (by decide +kernel) ⟨Nat.le_of_ble_eq_true rfl, Nat.le_of_ble_eq_true rfl⟩) [0] rfl rfl rfl ⟨rfl, [1, 2, 3], [zA cy q1 80 (fun _ => 0), zA cy q2 240 (fun _ => 0), zA cy q3 240 (fun _ => 0)], 4, rfl, rfl, rfl, by decide +kernel⟩ rfl rfl rfl rfl (Nat.le_of_ble_eq_true rfl) hl.1 dX2_init_31 ⟨Nat.le_of_ble_eq_true rfl, Nat.le_of_ble_eq_true rfl⟩ (fun H locs wd => ?_)
  have wd : Wd D (zT cy cs) _ s.heap s [zO s0 2 [.int (iI 0), .int (iI 0), .ref q1, .ref q2, .ref q3], zA cy q1 80 (fun _ => 0), zA cy q2 240 (fun _ => 0), zA cy q3 240 (fun _ => 0)] _ _ := z_pick wd [0, 1, 2, 3] rfl (by decide +kernel)
  exact z_vretX C hr hlk (q1, q2, q3) trivial wd dX2_init_34
set_option maxRecDepth 100000 in
set_option maxHeartbeats 4000000 in
theorem c_X1_init (l : Launch) (D : va_G) (cy cs : ClassId) (r0 : Nat) : zNv l D (zT cy cs) yX1_init wsX1_init ({ frames := 2, cells := 4, slots := 224, locals := 43 } : Room) 4 224 [.ref r0] [zO r0 1 [.int (iI 0), .int (iI 0), .int (iI 0), .int (iI 0), .null, .null, .null, .null]] (fun (u9 : (Nat) × (Nat) × (Nat) × (Nat)) => True) (fun (u9 : (Nat) × (Nat) × (Nat) × (Nat)) => [zO r0 1 [.int (iI 0), .int (iI 0), .int (iI 0), .int (iI 0), .ref u9.1, .ref u9.2.1, .ref u9.2.2.1, .ref u9.2.2.2], zA cy u9.1 80 (fun _ => 0), zA cy u9.2.1 32 (uZ (fun _ => -1) 0 0), zA cy u9.2.2.1 32 (fun _ => 0), zA cy u9.2.2.2 80 (fun _ => 0)]) := by
  intro sz
  refine zM_mk (cc := cX1_init) (maxL := 1) (ret := none) (own := RX1) (Qc := fun sz => va_Qv (fun (u9 : (Nat) × (Nat) × (Nat) × (Nat)) => True) (fun u9 t9 => zQ D (zT cy cs) (va_A [zO r0 1 [.int (iI 0), .int (iI 0), .int (iI 0), .int (iI 0), .null, .null, .null, .null]] sz) [zO r0 1 [.int (iI 0), .int (iI 0), .int (iI 0), .int (iI 0), .ref u9.1, .ref u9.2.1, .ref u9.2.2.1, .ref u9.2.2.2], zA cy u9.1 80 (fun _ => 0), zA cy u9.2.1 32 (uZ (fun _ => -1) 0 0), zA cy u9.2.2.1 32 (fun _ => 0), zA cy u9.2.2.2 80 (fun _ => 0)] t9) (va_A [zO r0 1 [.int (iI 0), .int (iI 0), .int (iI 0), .int (iI 0), .null, .null, .null, .null]] sz)) (by decide) rfl rfl (Nat.le_of_ble_eq_true rfl) rfl sz ?_
  intro p e s m args below meth c ls C hr hlk hnm hl hsz hA wd
  subst hsz
  have hin : meth.name = "<init>" := hnm.trans rfl
  have hl : lv_has ls 1 [(0, .ref r0)] := hl
  have iX1 : ∀ w ∈ u_ws RX1 TX1 8, w ∈ wsX1_init := by decide +kernel
  have L9 := C.2.2.2.2 (.fieldLink RX1 9 "LikelyWalks$Reader" "releasedBits" "[I") (by decide +kernel)
  have L15 := C.2.2.2.2 (.fieldLink RX1 15 "LikelyWalks$Reader" "metrics" "[I") (by decide +kernel)
  have L18 := C.2.2.2.2 (.fieldLink RX1 18 "LikelyWalks$Reader" "newMetrics" "[I") (by decide +kernel)
  have L21 := C.2.2.2.2 (.fieldLink RX1 21 "LikelyWalks$Reader" "fromUpper" "[I") (by decide +kernel)
  refine lv_aload_n C.1 C.2.1 dX1_init_0 rfl (lv_at hl 0 rfl) ?_
  refine W.objInit C.1 C.2.1 C.2.2.2.1 (C.2.2.2.2 (.methodLink RX1 3 objectInit) (by decide +kernel)) (C.2.2.2.2 (.instanceMethod objectInit) (by decide +kernel)) (C.2.2.2.2 (.code objectInit ⟨#[0xb1]⟩ 1 none) (by decide +kernel)) rfl (by rw [C.2.2.1]; exact hl.1) rfl dX1_init_1 (Nat.le_of_ble_eq_true rfl) (Nat.le_of_ble_eq_true rfl) ?_
  refine W.eq (g2 := F0 m 4 ls []) rfl ?_
  refine lv_aload_n C.1 C.2.1 dX1_init_4 rfl (lv_at hl 0 rfl) ?_
  refine z_bipush C dX1_init_5 (by decide +kernel) ?_
  refine z_newa C wd hA (N := 80) (C.2.2.2.2 (.arrayClass .int) (by decide +kernel)) (by omega) rfl (Nat.le_of_ble_eq_true rfl) (Nat.le_of_ble_eq_true rfl) dX1_init_7 (fun q1 H wd => ?_)
  have wd : Wd D (zT cy cs) _ s.heap s [zO r0 1 [.int (iI 0), .int (iI 0), .int (iI 0), .int (iI 0), .null, .null, .null, .null], zA cy q1 80 (fun _ => 0)] _ _ := wd
  refine W.widen (k := 1) (n := 80) (by omega) (by omega) ?_
  refine z_putF C wd (Cn := RX1) (TT := TX1) (N := 8) (ci := 1) (ws2 := [zO r0 1 [.int (iI 0), .int (iI 0), .int (iI 0), .int (iI 0), .ref q1, .null, .null, .null], zA cy q1 80 (fun _ => 0)]) iX1 tyX1 tyX1_ok nmX1 0 rfl rfl 4 (by decide) L9 (fun _ h => h) rfl hin rfl (ty := (.array .int)) (by decide +kernel) rfl rfl (Nat.le_of_ble_eq_true rfl) rfl dX1_init_9 (fun H locs wd => ?_)
  refine lv_aload_n C.1 C.2.1 dX1_init_12 rfl (lv_at hl 0 rfl) ?_
  refine z_bipush C dX1_init_13 (by decide +kernel) ?_
  refine z_newa C wd hA (N := 32) (C.2.2.2.2 (.arrayClass .int) (by decide +kernel)) (by omega) rfl (Nat.le_of_ble_eq_true rfl) (Nat.le_of_ble_eq_true rfl) dX1_init_15 (fun q2 H wd => ?_)
  have wd : Wd D (zT cy cs) _ s.heap s [zO r0 1 [.int (iI 0), .int (iI 0), .int (iI 0), .int (iI 0), .ref q1, .null, .null, .null], zA cy q1 80 (fun _ => 0), zA cy q2 32 (fun _ => 0)] _ _ := wd
  refine W.widen (k := 2) (n := 112) (by omega) (by omega) ?_
  refine z_putF C wd (Cn := RX1) (TT := TX1) (N := 8) (ci := 1) (ws2 := [zO r0 1 [.int (iI 0), .int (iI 0), .int (iI 0), .int (iI 0), .ref q1, .ref q2, .null, .null], zA cy q1 80 (fun _ => 0), zA cy q2 32 (fun _ => 0)]) iX1 tyX1 tyX1_ok nmX1 0 rfl rfl 5 (by decide) L15 (fun _ h => h) rfl hin rfl (ty := (.array .int)) (by decide +kernel) rfl rfl (Nat.le_of_ble_eq_true rfl) rfl dX1_init_17 (fun H locs wd => ?_)
  refine lv_aload_n C.1 C.2.1 dX1_init_20 rfl (lv_at hl 0 rfl) ?_
  refine z_bipush C dX1_init_21 (by decide +kernel) ?_
  refine z_newa C wd hA (N := 32) (C.2.2.2.2 (.arrayClass .int) (by decide +kernel)) (by omega) rfl (Nat.le_of_ble_eq_true rfl) (Nat.le_of_ble_eq_true rfl) dX1_init_23 (fun q3 H wd => ?_)
  have wd : Wd D (zT cy cs) _ s.heap s [zO r0 1 [.int (iI 0), .int (iI 0), .int (iI 0), .int (iI 0), .ref q1, .ref q2, .null, .null], zA cy q1 80 (fun _ => 0), zA cy q2 32 (fun _ => 0), zA cy q3 32 (fun _ => 0)] _ _ := wd
  refine W.widen (k := 3) (n := 144) (by omega) (by omega) ?_
  refine z_putF C wd (Cn := RX1) (TT := TX1) (N := 8) (ci := 1) (ws2 := [zO r0 1 [.int (iI 0), .int (iI 0), .int (iI 0), .int (iI 0), .ref q1, .ref q2, .ref q3, .null], zA cy q1 80 (fun _ => 0), zA cy q2 32 (fun _ => 0), zA cy q3 32 (fun _ => 0)]) iX1 tyX1 tyX1_ok nmX1 0 rfl rfl 6 (by decide) L18 (fun _ h => h) rfl hin rfl (ty := (.array .int)) (by decide +kernel) rfl rfl (Nat.le_of_ble_eq_true rfl) rfl dX1_init_25 (fun H locs wd => ?_)
  refine lv_aload_n C.1 C.2.1 dX1_init_28 rfl (lv_at hl 0 rfl) ?_
  refine z_bipush C dX1_init_29 (by decide +kernel) ?_
  refine z_newa C wd hA (N := 80) (C.2.2.2.2 (.arrayClass .int) (by decide +kernel)) (by omega) rfl (Nat.le_of_ble_eq_true rfl) (Nat.le_of_ble_eq_true rfl) dX1_init_31 (fun q4 H wd => ?_)
  have wd : Wd D (zT cy cs) _ s.heap s [zO r0 1 [.int (iI 0), .int (iI 0), .int (iI 0), .int (iI 0), .ref q1, .ref q2, .ref q3, .null], zA cy q1 80 (fun _ => 0), zA cy q2 32 (fun _ => 0), zA cy q3 32 (fun _ => 0), zA cy q4 80 (fun _ => 0)] _ _ := wd
  refine W.widen (k := 4) (n := 224) (by omega) (by omega) ?_
  refine z_putF C wd (Cn := RX1) (TT := TX1) (N := 8) (ci := 1) (ws2 := [zO r0 1 [.int (iI 0), .int (iI 0), .int (iI 0), .int (iI 0), .ref q1, .ref q2, .ref q3, .ref q4], zA cy q1 80 (fun _ => 0), zA cy q2 32 (fun _ => 0), zA cy q3 32 (fun _ => 0), zA cy q4 80 (fun _ => 0)]) iX1 tyX1 tyX1_ok nmX1 0 rfl rfl 7 (by decide) L21 (fun _ h => h) rfl hin rfl (ty := (.array .int)) (by decide +kernel) rfl rfl (Nat.le_of_ble_eq_true rfl) rfl dX1_init_33 (fun H locs wd => ?_)
  refine lv_aload_n C.1 C.2.1 dX1_init_36 rfl (lv_at hl 0 rfl) ?_
  refine z_cvv C wd hA (As := []) (rest := []) (ws2 := [zO r0 1 [.int (iI 0), .int (iI 0), .int (iI 0), .int (iI 0), .ref q1, .ref q2, .ref q3, .ref q4], zA cy q1 80 (fun _ => 0), zA cy q2 32 (uZ (fun _ => -1) 0 0), zA cy q3 32 (fun _ => 0), zA cy q4 80 (fun _ => 0)]) (c_X1_clear l D cy cs r0 q1 q2 q3 q4 0 0 0 0 (fun _ => 0) ) (cwV 0 C.2.2.2.2 gX1_init_X1_clear rfl rfl rfl (by decide +kernel) ⟨Nat.le_of_ble_eq_true rfl, Nat.le_of_ble_eq_true rfl⟩) [0, 2] rfl rfl rfl ⟨rfl, [1, 3, 4], [zA cy q1 80 (fun _ => 0), zA cy q3 32 (fun _ => 0), zA cy q4 80 (fun _ => 0)], 5, rfl, rfl, rfl, by decide +kernel⟩ rfl rfl rfl rfl (Nat.le_of_ble_eq_true rfl) hl.1 dX1_init_37 ⟨Nat.le_of_ble_eq_true rfl, Nat.le_of_ble_eq_true rfl⟩ (fun H locs wd => ?_)
  have wd : Wd D (zT cy cs) _ s.heap s [zO r0 1 [.int (iI 0), .int (iI 0), .int (iI 0), .int (iI 0), .ref q1, .ref q2, .ref q3, .ref q4], zA cy q1 80 (fun _ => 0), zA cy q2 32 (uZ (fun _ => -1) 0 0), zA cy q3 32 (fun _ => 0), zA cy q4 80 (fun _ => 0)] _ _ := z_pick wd [0, 1, 2, 3, 4] rfl (by decide +kernel)
  exact z_vretX C hr hlk (q1, q2, q3, q4) trivial wd dX1_init_40
set_option maxRecDepth 100000 in
set_option maxHeartbeats 4000000 in
theorem c_X4_init (l : Launch) (D : va_G) (cy cs : ClassId) (t0 : Nat) : zNv l D (zT cy cs) yX4_init wsX4_init ({ frames := 1, cells := 1, slots := 60, locals := 12 } : Room) 1 60 [.ref t0] [zO t0 4 [.int (iI 0), .null]] (fun (u9 : (Nat)) => True) (fun (u9 : (Nat)) => [zO t0 4 [.int (iI 0), .ref u9], zA cy u9 60 (fun _ => 0)]) := by
  intro sz
  refine zM_mk (cc := cX4_init) (maxL := 1) (ret := none) (own := RX4) (Qc := fun sz => va_Qv (fun (u9 : (Nat)) => True) (fun u9 t9 => zQ D (zT cy cs) (va_A [zO t0 4 [.int (iI 0), .null]] sz) [zO t0 4 [.int (iI 0), .ref u9], zA cy u9 60 (fun _ => 0)] t9) (va_A [zO t0 4 [.int (iI 0), .null]] sz)) (by decide) rfl rfl (Nat.le_of_ble_eq_true rfl) rfl sz ?_
  intro p e s m args below meth c ls C hr hlk hnm hl hsz hA wd
  subst hsz
  have hin : meth.name = "<init>" := hnm.trans rfl
  have hl : lv_has ls 1 [(0, .ref t0)] := hl
  have iX4 : ∀ w ∈ u_ws RX4 TX4 2, w ∈ wsX4_init := by decide +kernel
  have L9 := C.2.2.2.2 (.fieldLink RX4 9 "LikelyWalks$Text" "length" "I") (by decide +kernel)
  have L15 := C.2.2.2.2 (.fieldLink RX4 15 "LikelyWalks$Text" "values" "[I") (by decide +kernel)
  refine lv_aload_n C.1 C.2.1 dX4_init_0 rfl (lv_at hl 0 rfl) ?_
  refine W.objInit C.1 C.2.1 C.2.2.2.1 (C.2.2.2.2 (.methodLink RX4 3 objectInit) (by decide +kernel)) (C.2.2.2.2 (.instanceMethod objectInit) (by decide +kernel)) (C.2.2.2.2 (.code objectInit ⟨#[0xb1]⟩ 1 none) (by decide +kernel)) rfl (by rw [C.2.2.1]; exact hl.1) rfl dX4_init_1 (Nat.le_of_ble_eq_true rfl) (Nat.le_of_ble_eq_true rfl) ?_
  refine W.eq (g2 := F0 m 4 ls []) rfl ?_
  refine lv_aload_n C.1 C.2.1 dX4_init_4 rfl (lv_at hl 0 rfl) ?_
  refine z_iconst C dX4_init_5 ?_
  refine z_put C wd (Cn := RX4) (TT := TX4) (N := 2) (ci := 4) (ws2 := [zO t0 4 [.int (iI 0), .null]]) iX4 tyX4 tyX4_ok nmX4 0 rfl rfl 0 (by decide) L9 (fun _ h => h) rfl (ty := .int) (by decide +kernel) rfl rfl (Nat.le_of_ble_eq_true rfl) rfl dX4_init_6 (fun H locs wd => ?_)
  refine lv_aload_n C.1 C.2.1 dX4_init_9 rfl (lv_at hl 0 rfl) ?_
  refine z_bipush C dX4_init_10 (by decide +kernel) ?_
  refine z_newa C wd hA (N := 60) (C.2.2.2.2 (.arrayClass .int) (by decide +kernel)) (by omega) rfl (Nat.le_of_ble_eq_true rfl) (Nat.le_of_ble_eq_true rfl) dX4_init_12 (fun q1 H wd => ?_)
  have wd : Wd D (zT cy cs) _ s.heap s [zO t0 4 [.int (iI 0), .null], zA cy q1 60 (fun _ => 0)] _ _ := wd
  refine W.widen (k := 1) (n := 60) (by omega) (by omega) ?_
  refine z_putF C wd (Cn := RX4) (TT := TX4) (N := 2) (ci := 4) (ws2 := [zO t0 4 [.int (iI 0), .ref q1], zA cy q1 60 (fun _ => 0)]) iX4 tyX4 tyX4_ok nmX4 0 rfl rfl 1 (by decide) L15 (fun _ h => h) rfl hin rfl (ty := (.array .int)) (by decide +kernel) rfl rfl (Nat.le_of_ble_eq_true rfl) rfl dX4_init_14 (fun H locs wd => ?_)
  have wd : Wd D (zT cy cs) _ s.heap s [zO t0 4 [.int (iI 0), .ref q1], zA cy q1 60 (fun _ => 0)] _ _ := z_pick wd [0, 1] rfl (by decide +kernel)
  exact z_vretX C hr hlk q1 trivial wd dX4_init_17
