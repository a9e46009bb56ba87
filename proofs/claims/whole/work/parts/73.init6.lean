set_option maxRecDepth 100000 in
set_option maxHeartbeats 4000000 in
theorem c_X6_init (l : Launch) (D : va_G) (cy cs : ClassId) (m0 : Nat) : zNv l D (zT cy cs) yX6_init wsX6_init ({ frames := 1, cells := 8, slots := 4903, locals := 21 } : Room) 8 4903 [.ref m0] [zO m0 6 [.null, .null, .int (iI 0), .null, .int (iI 0), .null, .int (iI 0), .null, .null, .null, .null]] (fun (u9 : (Nat) × (Nat) × (Nat) × (Nat) × (Nat) × (Nat) × (Nat) × (Nat)) => True) (fun (u9 : (Nat) × (Nat) × (Nat) × (Nat) × (Nat) × (Nat) × (Nat) × (Nat)) => [zO m0 6 [.ref u9.1, .ref u9.2.1, .int (iI 0), .ref u9.2.2.1, .int (iI 0), .ref u9.2.2.2.1, .int (iI 0), .ref u9.2.2.2.2.1, .ref u9.2.2.2.2.2.1, .ref u9.2.2.2.2.2.2.1, .ref u9.2.2.2.2.2.2.2], zA cy u9.1 780 M_0, zA cy u9.2.1 3120 (fun _ => 0), zA cy u9.2.2.1 780 (fun _ => 0), zA cy u9.2.2.2.1 60 (fun _ => 0), zA cy u9.2.2.2.2.1 3 (fun _ => 0), zA cy u9.2.2.2.2.2.1 32 (fun _ => 0), zA cy u9.2.2.2.2.2.2.1 96 (fun _ => 0), zA cy u9.2.2.2.2.2.2.2 32 (fun _ => 0)]) := by
  intro sz
  refine zM_mk (cc := cX6_init) (maxL := 1) (ret := none) (own := RX6) (Qc := fun sz => va_Qv (fun (u9 : (Nat) × (Nat) × (Nat) × (Nat) × (Nat) × (Nat) × (Nat) × (Nat)) => True) (fun u9 t9 => zQ D (zT cy cs) (va_A [zO m0 6 [.null, .null, .int (iI 0), .null, .int (iI 0), .null, .int (iI 0), .null, .null, .null, .null]] sz) [zO m0 6 [.ref u9.1, .ref u9.2.1, .int (iI 0), .ref u9.2.2.1, .int (iI 0), .ref u9.2.2.2.1, .int (iI 0), .ref u9.2.2.2.2.1, .ref u9.2.2.2.2.2.1, .ref u9.2.2.2.2.2.2.1, .ref u9.2.2.2.2.2.2.2], zA cy u9.1 780 M_0, zA cy u9.2.1 3120 (fun _ => 0), zA cy u9.2.2.1 780 (fun _ => 0), zA cy u9.2.2.2.1 60 (fun _ => 0), zA cy u9.2.2.2.2.1 3 (fun _ => 0), zA cy u9.2.2.2.2.2.1 32 (fun _ => 0), zA cy u9.2.2.2.2.2.2.1 96 (fun _ => 0), zA cy u9.2.2.2.2.2.2.2 32 (fun _ => 0)] t9) (va_A [zO m0 6 [.null, .null, .int (iI 0), .null, .int (iI 0), .null, .int (iI 0), .null, .null, .null, .null]] sz)) (by decide) rfl rfl (Nat.le_of_ble_eq_true rfl) rfl sz ?_
  intro p e s m args below meth c ls C hr hlk hnm hl hsz hA wd
  subst hsz
  have hin : meth.name = "<init>" := hnm.trans rfl
  have hl : lv_has ls 1 [(0, .ref m0)] := hl
  have iX6 : ∀ w ∈ u_ws RX6 TX6 11, w ∈ wsX6_init := by decide +kernel
  have L7 := C.2.2.2.2 (.fieldLink RX6 7 "LikelyWalksModel" "now" "[I") (by decide +kernel)
  have L13 := C.2.2.2.2 (.fieldLink RX6 13 "LikelyWalksModel" "history" "[I") (by decide +kernel)
  have L16 := C.2.2.2.2 (.fieldLink RX6 16 "LikelyWalksModel" "shot" "[I") (by decide +kernel)
  have L19 := C.2.2.2.2 (.fieldLink RX6 19 "LikelyWalksModel" "text" "[I") (by decide +kernel)
  have L22 := C.2.2.2.2 (.fieldLink RX6 22 "LikelyWalksModel" "heard" "[I") (by decide +kernel)
  have L25 := C.2.2.2.2 (.fieldLink RX6 25 "LikelyWalksModel" "metrics" "[I") (by decide +kernel)
  have L28 := C.2.2.2.2 (.fieldLink RX6 28 "LikelyWalksModel" "walks" "[I") (by decide +kernel)
  have L31 := C.2.2.2.2 (.fieldLink RX6 31 "LikelyWalksModel" "far" "[I") (by decide +kernel)
  refine lv_aload_n C.1 C.2.1 dX6_init_0 rfl (lv_at hl 0 rfl) ?_
  refine W.objInit C.1 C.2.1 C.2.2.2.1 (C.2.2.2.2 (.methodLink RX6 1 objectInit) (by decide +kernel)) (C.2.2.2.2 (.instanceMethod objectInit) (by decide +kernel)) (C.2.2.2.2 (.code objectInit ⟨#[0xb1]⟩ 1 none) (by decide +kernel)) rfl (by rw [C.2.2.1]; exact hl.1) rfl dX6_init_1 (Nat.le_of_ble_eq_true rfl) (Nat.le_of_ble_eq_true rfl) ?_
  refine W.eq (g2 := F0 m 4 ls []) rfl ?_
  refine lv_aload_n C.1 C.2.1 dX6_init_4 rfl (lv_at hl 0 rfl) ?_
  refine z_sipush C dX6_init_5 (by decide +kernel) ?_
  refine z_newa C wd hA (N := 780) (C.2.2.2.2 (.arrayClass .int) (by decide +kernel)) (by omega) rfl (Nat.le_of_ble_eq_true rfl) (Nat.le_of_ble_eq_true rfl) dX6_init_8 (fun q1 H wd => ?_)
  have wd : Wd D (zT cy cs) _ s.heap s [zO m0 6 [.null, .null, .int (iI 0), .null, .int (iI 0), .null, .int (iI 0), .null, .null, .null, .null], zA cy q1 780 (fun _ => 0)] _ _ := wd
  refine W.widen (k := 1) (n := 780) (by omega) (by omega) ?_
  refine z_putF C wd (Cn := RX6) (TT := TX6) (N := 11) (ci := 6) (ws2 := [zO m0 6 [.ref q1, .null, .int (iI 0), .null, .int (iI 0), .null, .int (iI 0), .null, .null, .null, .null], zA cy q1 780 (fun _ => 0)]) iX6 tyX6 tyX6_ok nmX6 0 rfl rfl 0 (by decide) L7 (fun _ h => h) rfl hin rfl (ty := (.array .int)) (by decide +kernel) rfl rfl (Nat.le_of_ble_eq_true rfl) rfl dX6_init_10 (fun H locs wd => ?_)
  refine lv_aload_n C.1 C.2.1 dX6_init_13 rfl (lv_at hl 0 rfl) ?_
  refine z_sipush C dX6_init_14 (by decide +kernel) ?_
  refine z_newa C wd hA (N := 3120) (C.2.2.2.2 (.arrayClass .int) (by decide +kernel)) (by omega) rfl (Nat.le_of_ble_eq_true rfl) (Nat.le_of_ble_eq_true rfl) dX6_init_17 (fun q2 H wd => ?_)
  have wd : Wd D (zT cy cs) _ s.heap s [zO m0 6 [.ref q1, .null, .int (iI 0), .null, .int (iI 0), .null, .int (iI 0), .null, .null, .null, .null], zA cy q1 780 (fun _ => 0), zA cy q2 3120 (fun _ => 0)] _ _ := wd
  refine W.widen (k := 2) (n := 3900) (by omega) (by omega) ?_
  refine z_putF C wd (Cn := RX6) (TT := TX6) (N := 11) (ci := 6) (ws2 := [zO m0 6 [.ref q1, .ref q2, .int (iI 0), .null, .int (iI 0), .null, .int (iI 0), .null, .null, .null, .null], zA cy q1 780 (fun _ => 0), zA cy q2 3120 (fun _ => 0)]) iX6 tyX6 tyX6_ok nmX6 0 rfl rfl 1 (by decide) L13 (fun _ h => h) rfl hin rfl (ty := (.array .int)) (by decide +kernel) rfl rfl (Nat.le_of_ble_eq_true rfl) rfl dX6_init_19 (fun H locs wd => ?_)
  refine lv_aload_n C.1 C.2.1 dX6_init_22 rfl (lv_at hl 0 rfl) ?_
  refine z_sipush C dX6_init_23 (by decide +kernel) ?_
  refine z_newa C wd hA (N := 780) (C.2.2.2.2 (.arrayClass .int) (by decide +kernel)) (by omega) rfl (Nat.le_of_ble_eq_true rfl) (Nat.le_of_ble_eq_true rfl) dX6_init_26 (fun q3 H wd => ?_)
  have wd : Wd D (zT cy cs) _ s.heap s [zO m0 6 [.ref q1, .ref q2, .int (iI 0), .null, .int (iI 0), .null, .int (iI 0), .null, .null, .null, .null], zA cy q1 780 (fun _ => 0), zA cy q2 3120 (fun _ => 0), zA cy q3 780 (fun _ => 0)] _ _ := wd
  refine W.widen (k := 3) (n := 4680) (by omega) (by omega) ?_
  refine z_putF C wd (Cn := RX6) (TT := TX6) (N := 11) (ci := 6) (ws2 := [zO m0 6 [.ref q1, .ref q2, .int (iI 0), .ref q3, .int (iI 0), .null, .int (iI 0), .null, .null, .null, .null], zA cy q1 780 (fun _ => 0), zA cy q2 3120 (fun _ => 0), zA cy q3 780 (fun _ => 0)]) iX6 tyX6 tyX6_ok nmX6 0 rfl rfl 3 (by decide) L16 (fun _ h => h) rfl hin rfl (ty := (.array .int)) (by decide +kernel) rfl rfl (Nat.le_of_ble_eq_true rfl) rfl dX6_init_28 (fun H locs wd => ?_)
  refine lv_aload_n C.1 C.2.1 dX6_init_31 rfl (lv_at hl 0 rfl) ?_
  refine z_bipush C dX6_init_32 (by decide +kernel) ?_
  refine z_newa C wd hA (N := 60) (C.2.2.2.2 (.arrayClass .int) (by decide +kernel)) (by omega) rfl (Nat.le_of_ble_eq_true rfl) (Nat.le_of_ble_eq_true rfl) dX6_init_34 (fun q4 H wd => ?_)
  have wd : Wd D (zT cy cs) _ s.heap s [zO m0 6 [.ref q1, .ref q2, .int (iI 0), .ref q3, .int (iI 0), .null, .int (iI 0), .null, .null, .null, .null], zA cy q1 780 (fun _ => 0), zA cy q2 3120 (fun _ => 0), zA cy q3 780 (fun _ => 0), zA cy q4 60 (fun _ => 0)] _ _ := wd
  refine W.widen (k := 4) (n := 4740) (by omega) (by omega) ?_
  refine z_putF C wd (Cn := RX6) (TT := TX6) (N := 11) (ci := 6) (ws2 := [zO m0 6 [.ref q1, .ref q2, .int (iI 0), .ref q3, .int (iI 0), .ref q4, .int (iI 0), .null, .null, .null, .null], zA cy q1 780 (fun _ => 0), zA cy q2 3120 (fun _ => 0), zA cy q3 780 (fun _ => 0), zA cy q4 60 (fun _ => 0)]) iX6 tyX6 tyX6_ok nmX6 0 rfl rfl 5 (by decide) L19 (fun _ h => h) rfl hin rfl (ty := (.array .int)) (by decide +kernel) rfl rfl (Nat.le_of_ble_eq_true rfl) rfl dX6_init_36 (fun H locs wd => ?_)
  refine lv_aload_n C.1 C.2.1 dX6_init_39 rfl (lv_at hl 0 rfl) ?_
  refine z_iconst C dX6_init_40 ?_
  refine z_newa C wd hA (N := 3) (C.2.2.2.2 (.arrayClass .int) (by decide +kernel)) (by omega) rfl (Nat.le_of_ble_eq_true rfl) (Nat.le_of_ble_eq_true rfl) dX6_init_41 (fun q5 H wd => ?_)
  have wd : Wd D (zT cy cs) _ s.heap s [zO m0 6 [.ref q1, .ref q2, .int (iI 0), .ref q3, .int (iI 0), .ref q4, .int (iI 0), .null, .null, .null, .null], zA cy q1 780 (fun _ => 0), zA cy q2 3120 (fun _ => 0), zA cy q3 780 (fun _ => 0), zA cy q4 60 (fun _ => 0), zA cy q5 3 (fun _ => 0)] _ _ := wd
  refine W.widen (k := 5) (n := 4743) (by omega) (by omega) ?_
  refine z_putF C wd (Cn := RX6) (TT := TX6) (N := 11) (ci := 6) (ws2 := [zO m0 6 [.ref q1, .ref q2, .int (iI 0), .ref q3, .int (iI 0), .ref q4, .int (iI 0), .ref q5, .null, .null, .null], zA cy q1 780 (fun _ => 0), zA cy q2 3120 (fun _ => 0), zA cy q3 780 (fun _ => 0), zA cy q4 60 (fun _ => 0), zA cy q5 3 (fun _ => 0)]) iX6 tyX6 tyX6_ok nmX6 0 rfl rfl 7 (by decide) L22 (fun _ h => h) rfl hin rfl (ty := (.array .int)) (by decide +kernel) rfl rfl (Nat.le_of_ble_eq_true rfl) rfl dX6_init_43 (fun H locs wd => ?_)
  refine lv_aload_n C.1 C.2.1 dX6_init_46 rfl (lv_at hl 0 rfl) ?_
  refine z_bipush C dX6_init_47 (by decide +kernel) ?_
  refine z_newa C wd hA (N := 32) (C.2.2.2.2 (.arrayClass .int) (by decide +kernel)) (by omega) rfl (Nat.le_of_ble_eq_true rfl) (Nat.le_of_ble_eq_true rfl) dX6_init_49 (fun q6 H wd => ?_)
  have wd : Wd D (zT cy cs) _ s.heap s [zO m0 6 [.ref q1, .ref q2, .int (iI 0), .ref q3, .int (iI 0), .ref q4, .int (iI 0), .ref q5, .null, .null, .null], zA cy q1 780 (fun _ => 0), zA cy q2 3120 (fun _ => 0), zA cy q3 780 (fun _ => 0), zA cy q4 60 (fun _ => 0), zA cy q5 3 (fun _ => 0), zA cy q6 32 (fun _ => 0)] _ _ := wd
  refine W.widen (k := 6) (n := 4775) (by omega) (by omega) ?_
  refine z_putF C wd (Cn := RX6) (TT := TX6) (N := 11) (ci := 6) (ws2 := [zO m0 6 [.ref q1, .ref q2, .int (iI 0), .ref q3, .int (iI 0), .ref q4, .int (iI 0), .ref q5, .ref q6, .null, .null], zA cy q1 780 (fun _ => 0), zA cy q2 3120 (fun _ => 0), zA cy q3 780 (fun _ => 0), zA cy q4 60 (fun _ => 0), zA cy q5 3 (fun _ => 0), zA cy q6 32 (fun _ => 0)]) iX6 tyX6 tyX6_ok nmX6 0 rfl rfl 8 (by decide) L25 (fun _ h => h) rfl hin rfl (ty := (.array .int)) (by decide +kernel) rfl rfl (Nat.le_of_ble_eq_true rfl) rfl dX6_init_51 (fun H locs wd => ?_)
  refine lv_aload_n C.1 C.2.1 dX6_init_54 rfl (lv_at hl 0 rfl) ?_
  refine z_bipush C dX6_init_55 (by decide +kernel) ?_
  refine z_newa C wd hA (N := 96) (C.2.2.2.2 (.arrayClass .int) (by decide +kernel)) (by omega) rfl (Nat.le_of_ble_eq_true rfl) (Nat.le_of_ble_eq_true rfl) dX6_init_57 (fun q7 H wd => ?_)
  have wd : Wd D (zT cy cs) _ s.heap s [zO m0 6 [.ref q1, .ref q2, .int (iI 0), .ref q3, .int (iI 0), .ref q4, .int (iI 0), .ref q5, .ref q6, .null, .null], zA cy q1 780 (fun _ => 0), zA cy q2 3120 (fun _ => 0), zA cy q3 780 (fun _ => 0), zA cy q4 60 (fun _ => 0), zA cy q5 3 (fun _ => 0), zA cy q6 32 (fun _ => 0), zA cy q7 96 (fun _ => 0)] _ _ := wd
  refine W.widen (k := 7) (n := 4871) (by omega) (by omega) ?_
  refine z_putF C wd (Cn := RX6) (TT := TX6) (N := 11) (ci := 6) (ws2 := [zO m0 6 [.ref q1, .ref q2, .int (iI 0), .ref q3, .int (iI 0), .ref q4, .int (iI 0), .ref q5, .ref q6, .ref q7, .null], zA cy q1 780 (fun _ => 0), zA cy q2 3120 (fun _ => 0), zA cy q3 780 (fun _ => 0), zA cy q4 60 (fun _ => 0), zA cy q5 3 (fun _ => 0), zA cy q6 32 (fun _ => 0), zA cy q7 96 (fun _ => 0)]) iX6 tyX6 tyX6_ok nmX6 0 rfl rfl 9 (by decide) L28 (fun _ h => h) rfl hin rfl (ty := (.array .int)) (by decide +kernel) rfl rfl (Nat.le_of_ble_eq_true rfl) rfl dX6_init_59 (fun H locs wd => ?_)
  refine lv_aload_n C.1 C.2.1 dX6_init_62 rfl (lv_at hl 0 rfl) ?_
  refine z_bipush C dX6_init_63 (by decide +kernel) ?_
  refine z_newa C wd hA (N := 32) (C.2.2.2.2 (.arrayClass .int) (by decide +kernel)) (by omega) rfl (Nat.le_of_ble_eq_true rfl) (Nat.le_of_ble_eq_true rfl) dX6_init_65 (fun q8 H wd => ?_)
  have wd : Wd D (zT cy cs) _ s.heap s [zO m0 6 [.ref q1, .ref q2, .int (iI 0), .ref q3, .int (iI 0), .ref q4, .int (iI 0), .ref q5, .ref q6, .ref q7, .null], zA cy q1 780 (fun _ => 0), zA cy q2 3120 (fun _ => 0), zA cy q3 780 (fun _ => 0), zA cy q4 60 (fun _ => 0), zA cy q5 3 (fun _ => 0), zA cy q6 32 (fun _ => 0), zA cy q7 96 (fun _ => 0), zA cy q8 32 (fun _ => 0)] _ _ := wd
  refine W.widen (k := 8) (n := 4903) (by omega) (by omega) ?_
  refine z_putF C wd (Cn := RX6) (TT := TX6) (N := 11) (ci := 6) (ws2 := [zO m0 6 [.ref q1, .ref q2, .int (iI 0), .ref q3, .int (iI 0), .ref q4, .int (iI 0), .ref q5, .ref q6, .ref q7, .ref q8], zA cy q1 780 (fun _ => 0), zA cy q2 3120 (fun _ => 0), zA cy q3 780 (fun _ => 0), zA cy q4 60 (fun _ => 0), zA cy q5 3 (fun _ => 0), zA cy q6 32 (fun _ => 0), zA cy q7 96 (fun _ => 0), zA cy q8 32 (fun _ => 0)]) iX6 tyX6 tyX6_ok nmX6 0 rfl rfl 10 (by decide) L31 (fun _ h => h) rfl hin rfl (ty := (.array .int)) (by decide +kernel) rfl rfl (Nat.le_of_ble_eq_true rfl) rfl dX6_init_67 (fun H locs wd => ?_)
  refine lv_aload_n C.1 C.2.1 dX6_init_70 rfl (lv_at hl 0 rfl) ?_
  refine z_get C wd (Cn := RX6) (TT := TX6) (N := 11) (ci := 6) iX6 0 rfl rfl 0 (by decide) L7 (fun _ h => h) rfl dX6_init_71 ?_
  refine z_iconst C dX6_init_74 ?_
  refine z_iconst C dX6_init_75 ?_
  refine z_iast C wd (ws2 := [zO m0 6 [.ref q1, .ref q2, .int (iI 0), .ref q3, .int (iI 0), .ref q4, .int (iI 0), .ref q5, .ref q6, .ref q7, .ref q8], zA cy q1 780 (uZ (fun _ => 0) 0 2), zA cy q2 3120 (fun _ => 0), zA cy q3 780 (fun _ => 0), zA cy q4 60 (fun _ => 0), zA cy q5 3 (fun _ => 0), zA cy q6 32 (fun _ => 0), zA cy q7 96 (fun _ => 0), zA cy q8 32 (fun _ => 0)]) 1 rfl (by omega) (by decide) rfl dX6_init_76 (fun H locs wd => ?_)
  refine lv_aload_n C.1 C.2.1 dX6_init_77 rfl (lv_at hl 0 rfl) ?_
  refine z_get C wd (Cn := RX6) (TT := TX6) (N := 11) (ci := 6) iX6 0 rfl rfl 0 (by decide) L7 (fun _ h => h) rfl dX6_init_78 ?_
  refine z_iconst C dX6_init_81 ?_
  refine z_iconst C dX6_init_82 ?_
  refine z_iast C wd (ws2 := [zO m0 6 [.ref q1, .ref q2, .int (iI 0), .ref q3, .int (iI 0), .ref q4, .int (iI 0), .ref q5, .ref q6, .ref q7, .ref q8], zA cy q1 780 (uZ (uZ (fun _ => 0) 0 2) 1 2), zA cy q2 3120 (fun _ => 0), zA cy q3 780 (fun _ => 0), zA cy q4 60 (fun _ => 0), zA cy q5 3 (fun _ => 0), zA cy q6 32 (fun _ => 0), zA cy q7 96 (fun _ => 0), zA cy q8 32 (fun _ => 0)]) 1 rfl (by omega) (by decide) rfl dX6_init_83 (fun H locs wd => ?_)
  refine lv_aload_n C.1 C.2.1 dX6_init_84 rfl (lv_at hl 0 rfl) ?_
  refine z_get C wd (Cn := RX6) (TT := TX6) (N := 11) (ci := 6) iX6 0 rfl rfl 0 (by decide) L7 (fun _ h => h) rfl dX6_init_85 ?_
  refine z_iconst C dX6_init_88 ?_
  refine z_bipush C dX6_init_89 (by decide +kernel) ?_
  refine z_iast C wd (ws2 := [zO m0 6 [.ref q1, .ref q2, .int (iI 0), .ref q3, .int (iI 0), .ref q4, .int (iI 0), .ref q5, .ref q6, .ref q7, .ref q8], zA cy q1 780 (uZ (uZ (uZ (fun _ => 0) 0 2) 1 2) 2 7), zA cy q2 3120 (fun _ => 0), zA cy q3 780 (fun _ => 0), zA cy q4 60 (fun _ => 0), zA cy q5 3 (fun _ => 0), zA cy q6 32 (fun _ => 0), zA cy q7 96 (fun _ => 0), zA cy q8 32 (fun _ => 0)]) 1 rfl (by omega) (by decide) rfl dX6_init_91 (fun H locs wd => ?_)
  refine lv_aload_n C.1 C.2.1 dX6_init_92 rfl (lv_at hl 0 rfl) ?_
  refine z_get C wd (Cn := RX6) (TT := TX6) (N := 11) (ci := 6) iX6 0 rfl rfl 0 (by decide) L7 (fun _ h => h) rfl dX6_init_93 ?_
  refine z_iconst C dX6_init_96 ?_
  refine z_iconst C dX6_init_97 ?_
  refine z_iast C wd (ws2 := [zO m0 6 [.ref q1, .ref q2, .int (iI 0), .ref q3, .int (iI 0), .ref q4, .int (iI 0), .ref q5, .ref q6, .ref q7, .ref q8], zA cy q1 780 (uZ (uZ (uZ (uZ (fun _ => 0) 0 2) 1 2) 2 7) 3 5), zA cy q2 3120 (fun _ => 0), zA cy q3 780 (fun _ => 0), zA cy q4 60 (fun _ => 0), zA cy q5 3 (fun _ => 0), zA cy q6 32 (fun _ => 0), zA cy q7 96 (fun _ => 0), zA cy q8 32 (fun _ => 0)]) 1 rfl (by omega) (by decide) rfl dX6_init_98 (fun H locs wd => ?_)
  refine lv_aload_n C.1 C.2.1 dX6_init_99 rfl (lv_at hl 0 rfl) ?_
  refine z_get C wd (Cn := RX6) (TT := TX6) (N := 11) (ci := 6) iX6 0 rfl rfl 0 (by decide) L7 (fun _ h => h) rfl dX6_init_100 ?_
  refine z_iconst C dX6_init_103 ?_
  refine z_bipush C dX6_init_104 (by decide +kernel) ?_
  refine z_iast C wd (ws2 := [zO m0 6 [.ref q1, .ref q2, .int (iI 0), .ref q3, .int (iI 0), .ref q4, .int (iI 0), .ref q5, .ref q6, .ref q7, .ref q8], zA cy q1 780 (uZ (uZ (uZ (uZ (uZ (fun _ => 0) 0 2) 1 2) 2 7) 3 5) 5 10), zA cy q2 3120 (fun _ => 0), zA cy q3 780 (fun _ => 0), zA cy q4 60 (fun _ => 0), zA cy q5 3 (fun _ => 0), zA cy q6 32 (fun _ => 0), zA cy q7 96 (fun _ => 0), zA cy q8 32 (fun _ => 0)]) 1 rfl (by omega) (by decide) rfl dX6_init_106 (fun H locs wd => ?_)
  refine lv_aload_n C.1 C.2.1 dX6_init_107 rfl (lv_at hl 0 rfl) ?_
  refine z_cvv C wd hA (As := []) (rest := []) (ws2 := [zO m0 6 [.ref q1, .ref q2, .int (iI 0), .ref q3, .int (iI 0), .ref q4, .int (iI 0), .ref q5, .ref q6, .ref q7, .ref q8], zA cy q1 780 (clR (uZ (uZ (uZ (uZ (uZ (fun _ => 0) 0 2) 1 2) 2 7) 3 5) 5 10)), zA cy q2 3120 (fun _ => 0), zA cy q3 780 (fun _ => 0), zA cy q4 60 (fun _ => 0), zA cy q5 3 (fun _ => 0), zA cy q6 32 (fun _ => 0), zA cy q7 96 (fun _ => 0), zA cy q8 32 (fun _ => 0)]) (c_X6_clearReader l D cy cs m0 q1 q2 q3 q4 q5 q6 q7 q8 0 0 0 (uZ (uZ (uZ (uZ (uZ (fun _ => 0) 0 2) 1 2) 2 7) 3 5) 5 10) ) (cwV 0 C.2.2.2.2 gX6_init_X6_clearReader rfl rfl rfl (by decide +kernel) ⟨Nat.le_of_ble_eq_true rfl, Nat.le_of_ble_eq_true rfl⟩) [0, 1] rfl rfl rfl ⟨rfl, [2, 3, 4, 5, 6, 7, 8], [zA cy q2 3120 (fun _ => 0), zA cy q3 780 (fun _ => 0), zA cy q4 60 (fun _ => 0), zA cy q5 3 (fun _ => 0), zA cy q6 32 (fun _ => 0), zA cy q7 96 (fun _ => 0), zA cy q8 32 (fun _ => 0)], 9, rfl, rfl, rfl, by decide +kernel⟩ rfl rfl rfl rfl (Nat.le_of_ble_eq_true rfl) hl.1 dX6_init_108 ⟨Nat.le_of_ble_eq_true rfl, Nat.le_of_ble_eq_true rfl⟩ (fun H locs wd => ?_)
  have wd : Wd D (zT cy cs) _ s.heap s [zO m0 6 [.ref q1, .ref q2, .int (iI 0), .ref q3, .int (iI 0), .ref q4, .int (iI 0), .ref q5, .ref q6, .ref q7, .ref q8], zA cy q1 780 (clR (uZ (uZ (uZ (uZ (uZ (fun _ => 0) 0 2) 1 2) 2 7) 3 5) 5 10)), zA cy q2 3120 (fun _ => 0), zA cy q3 780 (fun _ => 0), zA cy q4 60 (fun _ => 0), zA cy q5 3 (fun _ => 0), zA cy q6 32 (fun _ => 0), zA cy q7 96 (fun _ => 0), zA cy q8 32 (fun _ => 0)] _ _ := z_pick wd [0, 1, 2, 3, 4, 5, 6, 7, 8] rfl (by decide +kernel)
  have wd := z_cell wd (ws2 := [zO m0 6 [.ref q1, .ref q2, .int (iI 0), .ref q3, .int (iI 0), .ref q4, .int (iI 0), .ref q5, .ref q6, .ref q7, .ref q8], zA cy q1 780 M_0, zA cy q2 3120 (fun _ => 0), zA cy q3 780 (fun _ => 0), zA cy q4 60 (fun _ => 0), zA cy q5 3 (fun _ => 0), zA cy q6 32 (fun _ => 0), zA cy q7 96 (fun _ => 0), zA cy q8 32 (fun _ => 0)]) 1 rfl (by intro j _ _; rfl) rfl
  exact z_vretX C hr hlk (q1, q2, q3, q4, q5, q6, q7, q8) trivial wd dX6_init_111
