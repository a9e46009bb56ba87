set_option maxRecDepth 100000 in
set_option maxHeartbeats 4000000 in
theorem c_bitCount (l : Launch) (D : va_G) (cy cs : ClassId) (n : Int) (hn : 0 ≤ n ∧ n < 64) : zCi l D (zT cy cs) yJ6_bitCount_0f7a4 wsJ6_bitCount_0f7a4 ({ frames := 0, cells := 0, slots := 0, locals := 0 } : Room) [.int (iI n)] [] (pop6 n) [] := by
  intro sz
  refine zM_mk (cc := cJ6_bitCount_0f7a4) (maxL := 1) (ret := (some .int)) (own := RJ6) (Qc := fun sz => va_Qi (fun r (_ : Unit) => r = iI (pop6 n)) (fun _ t => zQ D (zT cy cs) (va_A [] sz) [] t) (va_A [] sz)) (by decide) rfl rfl (Nat.le_of_ble_eq_true rfl) rfl sz ?_
  intro p e s m args below meth c ls C hr hlk hnm hl hsz hA wd
  subst hsz
  have hl : lv_has ls 1 [(0, .int (iI n))] := hl
  refine lv_iload_n C.1 C.2.1 dJ6_bitCount_0f7a4_0 rfl (lv_at hl 0 rfl) ?_
  refine lv_iload_n C.1 C.2.1 dJ6_bitCount_0f7a4_1 rfl (lv_at hl 0 rfl) ?_
  refine z_iconst C dJ6_bitCount_0f7a4_2 ?_
  refine lv_iushr (v := ((iI n).toUInt32 >>> ((iI 1).toUInt32 &&& Int32.toUInt32 31)).toInt32) C.1 C.2.1 dJ6_bitCount_0f7a4_3 rfl ?_
  refine lv_ldcw C.1 C.2.1 C.2.2.2.1 (C.2.2.2.2 (.constant RJ6 265 (1431655765)) (by decide +kernel)) dJ6_bitCount_0f7a4_4 ?_
  refine lv_iand C.1 C.2.1 dJ6_bitCount_0f7a4_7 ?_
  refine lv_isub C.1 C.2.1 dJ6_bitCount_0f7a4_8 ?_
  refine lv_istore_n (lv' := [(0, .int ((iI n) - ((((iI n).toUInt32 >>> ((iI 1).toUInt32 &&& Int32.toUInt32 31)).toInt32) &&& 1431655765)))]) C.1 C.2.1 dJ6_bitCount_0f7a4_9 rfl hl (by decide) rfl (fun ls hl => ?_)
  refine lv_iload_n C.1 C.2.1 dJ6_bitCount_0f7a4_10 rfl (lv_at hl 0 rfl) ?_
  refine lv_ldcw C.1 C.2.1 C.2.2.2.1 (C.2.2.2.2 (.constant RJ6 266 (858993459)) (by decide +kernel)) dJ6_bitCount_0f7a4_11 ?_
  refine lv_iand C.1 C.2.1 dJ6_bitCount_0f7a4_14 ?_
  refine lv_iload_n C.1 C.2.1 dJ6_bitCount_0f7a4_15 rfl (lv_at hl 0 rfl) ?_
  refine z_iconst C dJ6_bitCount_0f7a4_16 ?_
  refine lv_iushr (v := (((iI n) - ((((iI n).toUInt32 >>> ((iI 1).toUInt32 &&& Int32.toUInt32 31)).toInt32) &&& 1431655765)).toUInt32 >>> ((iI 2).toUInt32 &&& Int32.toUInt32 31)).toInt32) C.1 C.2.1 dJ6_bitCount_0f7a4_17 rfl ?_
  refine lv_ldcw C.1 C.2.1 C.2.2.2.1 (C.2.2.2.2 (.constant RJ6 266 (858993459)) (by decide +kernel)) dJ6_bitCount_0f7a4_18 ?_
  refine lv_iand C.1 C.2.1 dJ6_bitCount_0f7a4_21 ?_
  refine lv_iadd C.1 C.2.1 dJ6_bitCount_0f7a4_22 ?_
  refine lv_istore_n (lv' := [(0, .int ((((iI n) - ((((iI n).toUInt32 >>> ((iI 1).toUInt32 &&& Int32.toUInt32 31)).toInt32) &&& 1431655765)) &&& 858993459) + (((((iI n) - ((((iI n).toUInt32 >>> ((iI 1).toUInt32 &&& Int32.toUInt32 31)).toInt32) &&& 1431655765)).toUInt32 >>> ((iI 2).toUInt32 &&& Int32.toUInt32 31)).toInt32) &&& 858993459)))]) C.1 C.2.1 dJ6_bitCount_0f7a4_23 rfl hl (by decide) rfl (fun ls hl => ?_)
  refine lv_iload_n C.1 C.2.1 dJ6_bitCount_0f7a4_24 rfl (lv_at hl 0 rfl) ?_
  refine lv_iload_n C.1 C.2.1 dJ6_bitCount_0f7a4_25 rfl (lv_at hl 0 rfl) ?_
  refine z_iconst C dJ6_bitCount_0f7a4_26 ?_
  refine lv_iushr (v := (((((iI n) - ((((iI n).toUInt32 >>> ((iI 1).toUInt32 &&& Int32.toUInt32 31)).toInt32) &&& 1431655765)) &&& 858993459) + (((((iI n) - ((((iI n).toUInt32 >>> ((iI 1).toUInt32 &&& Int32.toUInt32 31)).toInt32) &&& 1431655765)).toUInt32 >>> ((iI 2).toUInt32 &&& Int32.toUInt32 31)).toInt32) &&& 858993459)).toUInt32 >>> ((iI 4).toUInt32 &&& Int32.toUInt32 31)).toInt32) C.1 C.2.1 dJ6_bitCount_0f7a4_27 rfl ?_
  refine lv_iadd C.1 C.2.1 dJ6_bitCount_0f7a4_28 ?_
  refine lv_ldcw C.1 C.2.1 C.2.2.2.1 (C.2.2.2.2 (.constant RJ6 267 (252645135)) (by decide +kernel)) dJ6_bitCount_0f7a4_29 ?_
  refine lv_iand C.1 C.2.1 dJ6_bitCount_0f7a4_32 ?_
  refine lv_istore_n (lv' := [(0, .int ((((((iI n) - ((((iI n).toUInt32 >>> ((iI 1).toUInt32 &&& Int32.toUInt32 31)).toInt32) &&& 1431655765)) &&& 858993459) + (((((iI n) - ((((iI n).toUInt32 >>> ((iI 1).toUInt32 &&& Int32.toUInt32 31)).toInt32) &&& 1431655765)).toUInt32 >>> ((iI 2).toUInt32 &&& Int32.toUInt32 31)).toInt32) &&& 858993459)) + ((((((iI n) - ((((iI n).toUInt32 >>> ((iI 1).toUInt32 &&& Int32.toUInt32 31)).toInt32) &&& 1431655765)) &&& 858993459) + (((((iI n) - ((((iI n).toUInt32 >>> ((iI 1).toUInt32 &&& Int32.toUInt32 31)).toInt32) &&& 1431655765)).toUInt32 >>> ((iI 2).toUInt32 &&& Int32.toUInt32 31)).toInt32) &&& 858993459)).toUInt32 >>> ((iI 4).toUInt32 &&& Int32.toUInt32 31)).toInt32)) &&& 252645135))]) C.1 C.2.1 dJ6_bitCount_0f7a4_33 rfl hl (by decide) rfl (fun ls hl => ?_)
  refine lv_iload_n C.1 C.2.1 dJ6_bitCount_0f7a4_34 rfl (lv_at hl 0 rfl) ?_
  refine lv_iload_n C.1 C.2.1 dJ6_bitCount_0f7a4_35 rfl (lv_at hl 0 rfl) ?_
  refine z_bipush C dJ6_bitCount_0f7a4_36 (by decide +kernel) ?_
  refine lv_iushr (v := (((((((iI n) - ((((iI n).toUInt32 >>> ((iI 1).toUInt32 &&& Int32.toUInt32 31)).toInt32) &&& 1431655765)) &&& 858993459) + (((((iI n) - ((((iI n).toUInt32 >>> ((iI 1).toUInt32 &&& Int32.toUInt32 31)).toInt32) &&& 1431655765)).toUInt32 >>> ((iI 2).toUInt32 &&& Int32.toUInt32 31)).toInt32) &&& 858993459)) + ((((((iI n) - ((((iI n).toUInt32 >>> ((iI 1).toUInt32 &&& Int32.toUInt32 31)).toInt32) &&& 1431655765)) &&& 858993459) + (((((iI n) - ((((iI n).toUInt32 >>> ((iI 1).toUInt32 &&& Int32.toUInt32 31)).toInt32) &&& 1431655765)).toUInt32 >>> ((iI 2).toUInt32 &&& Int32.toUInt32 31)).toInt32) &&& 858993459)).toUInt32 >>> ((iI 4).toUInt32 &&& Int32.toUInt32 31)).toInt32)) &&& 252645135).toUInt32 >>> ((iI 8).toUInt32 &&& Int32.toUInt32 31)).toInt32) C.1 C.2.1 dJ6_bitCount_0f7a4_38 rfl ?_
  refine lv_iadd C.1 C.2.1 dJ6_bitCount_0f7a4_39 ?_
  refine lv_istore_n (lv' := [(0, .int (((((((iI n) - ((((iI n).toUInt32 >>> ((iI 1).toUInt32 &&& Int32.toUInt32 31)).toInt32) &&& 1431655765)) &&& 858993459) + (((((iI n) - ((((iI n).toUInt32 >>> ((iI 1).toUInt32 &&& Int32.toUInt32 31)).toInt32) &&& 1431655765)).toUInt32 >>> ((iI 2).toUInt32 &&& Int32.toUInt32 31)).toInt32) &&& 858993459)) + ((((((iI n) - ((((iI n).toUInt32 >>> ((iI 1).toUInt32 &&& Int32.toUInt32 31)).toInt32) &&& 1431655765)) &&& 858993459) + (((((iI n) - ((((iI n).toUInt32 >>> ((iI 1).toUInt32 &&& Int32.toUInt32 31)).toInt32) &&& 1431655765)).toUInt32 >>> ((iI 2).toUInt32 &&& Int32.toUInt32 31)).toInt32) &&& 858993459)).toUInt32 >>> ((iI 4).toUInt32 &&& Int32.toUInt32 31)).toInt32)) &&& 252645135) + ((((((((iI n) - ((((iI n).toUInt32 >>> ((iI 1).toUInt32 &&& Int32.toUInt32 31)).toInt32) &&& 1431655765)) &&& 858993459) + (((((iI n) - ((((iI n).toUInt32 >>> ((iI 1).toUInt32 &&& Int32.toUInt32 31)).toInt32) &&& 1431655765)).toUInt32 >>> ((iI 2).toUInt32 &&& Int32.toUInt32 31)).toInt32) &&& 858993459)) + ((((((iI n) - ((((iI n).toUInt32 >>> ((iI 1).toUInt32 &&& Int32.toUInt32 31)).toInt32) &&& 1431655765)) &&& 858993459) + (((((iI n) - ((((iI n).toUInt32 >>> ((iI 1).toUInt32 &&& Int32.toUInt32 31)).toInt32) &&& 1431655765)).toUInt32 >>> ((iI 2).toUInt32 &&& Int32.toUInt32 31)).toInt32) &&& 858993459)).toUInt32 >>> ((iI 4).toUInt32 &&& Int32.toUInt32 31)).toInt32)) &&& 252645135).toUInt32 >>> ((iI 8).toUInt32 &&& Int32.toUInt32 31)).toInt32)))]) C.1 C.2.1 dJ6_bitCount_0f7a4_40 rfl hl (by decide) rfl (fun ls hl => ?_)
  refine lv_iload_n C.1 C.2.1 dJ6_bitCount_0f7a4_41 rfl (lv_at hl 0 rfl) ?_
  refine lv_iload_n C.1 C.2.1 dJ6_bitCount_0f7a4_42 rfl (lv_at hl 0 rfl) ?_
  refine z_bipush C dJ6_bitCount_0f7a4_43 (by decide +kernel) ?_
  refine lv_iushr (v := ((((((((iI n) - ((((iI n).toUInt32 >>> ((iI 1).toUInt32 &&& Int32.toUInt32 31)).toInt32) &&& 1431655765)) &&& 858993459) + (((((iI n) - ((((iI n).toUInt32 >>> ((iI 1).toUInt32 &&& Int32.toUInt32 31)).toInt32) &&& 1431655765)).toUInt32 >>> ((iI 2).toUInt32 &&& Int32.toUInt32 31)).toInt32) &&& 858993459)) + ((((((iI n) - ((((iI n).toUInt32 >>> ((iI 1).toUInt32 &&& Int32.toUInt32 31)).toInt32) &&& 1431655765)) &&& 858993459) + (((((iI n) - ((((iI n).toUInt32 >>> ((iI 1).toUInt32 &&& Int32.toUInt32 31)).toInt32) &&& 1431655765)).toUInt32 >>> ((iI 2).toUInt32 &&& Int32.toUInt32 31)).toInt32) &&& 858993459)).toUInt32 >>> ((iI 4).toUInt32 &&& Int32.toUInt32 31)).toInt32)) &&& 252645135) + ((((((((iI n) - ((((iI n).toUInt32 >>> ((iI 1).toUInt32 &&& Int32.toUInt32 31)).toInt32) &&& 1431655765)) &&& 858993459) + (((((iI n) - ((((iI n).toUInt32 >>> ((iI 1).toUInt32 &&& Int32.toUInt32 31)).toInt32) &&& 1431655765)).toUInt32 >>> ((iI 2).toUInt32 &&& Int32.toUInt32 31)).toInt32) &&& 858993459)) + ((((((iI n) - ((((iI n).toUInt32 >>> ((iI 1).toUInt32 &&& Int32.toUInt32 31)).toInt32) &&& 1431655765)) &&& 858993459) + (((((iI n) - ((((iI n).toUInt32 >>> ((iI 1).toUInt32 &&& Int32.toUInt32 31)).toInt32) &&& 1431655765)).toUInt32 >>> ((iI 2).toUInt32 &&& Int32.toUInt32 31)).toInt32) &&& 858993459)).toUInt32 >>> ((iI 4).toUInt32 &&& Int32.toUInt32 31)).toInt32)) &&& 252645135).toUInt32 >>> ((iI 8).toUInt32 &&& Int32.toUInt32 31)).toInt32)).toUInt32 >>> ((iI 16).toUInt32 &&& Int32.toUInt32 31)).toInt32) C.1 C.2.1 dJ6_bitCount_0f7a4_45 rfl ?_
  refine lv_iadd C.1 C.2.1 dJ6_bitCount_0f7a4_46 ?_
  refine lv_istore_n (lv' := [(0, .int ((((((((iI n) - ((((iI n).toUInt32 >>> ((iI 1).toUInt32 &&& Int32.toUInt32 31)).toInt32) &&& 1431655765)) &&& 858993459) + (((((iI n) - ((((iI n).toUInt32 >>> ((iI 1).toUInt32 &&& Int32.toUInt32 31)).toInt32) &&& 1431655765)).toUInt32 >>> ((iI 2).toUInt32 &&& Int32.toUInt32 31)).toInt32) &&& 858993459)) + ((((((iI n) - ((((iI n).toUInt32 >>> ((iI 1).toUInt32 &&& Int32.toUInt32 31)).toInt32) &&& 1431655765)) &&& 858993459) + (((((iI n) - ((((iI n).toUInt32 >>> ((iI 1).toUInt32 &&& Int32.toUInt32 31)).toInt32) &&& 1431655765)).toUInt32 >>> ((iI 2).toUInt32 &&& Int32.toUInt32 31)).toInt32) &&& 858993459)).toUInt32 >>> ((iI 4).toUInt32 &&& Int32.toUInt32 31)).toInt32)) &&& 252645135) + ((((((((iI n) - ((((iI n).toUInt32 >>> ((iI 1).toUInt32 &&& Int32.toUInt32 31)).toInt32) &&& 1431655765)) &&& 858993459) + (((((iI n) - ((((iI n).toUInt32 >>> ((iI 1).toUInt32 &&& Int32.toUInt32 31)).toInt32) &&& 1431655765)).toUInt32 >>> ((iI 2).toUInt32 &&& Int32.toUInt32 31)).toInt32) &&& 858993459)) + ((((((iI n) - ((((iI n).toUInt32 >>> ((iI 1).toUInt32 &&& Int32.toUInt32 31)).toInt32) &&& 1431655765)) &&& 858993459) + (((((iI n) - ((((iI n).toUInt32 >>> ((iI 1).toUInt32 &&& Int32.toUInt32 31)).toInt32) &&& 1431655765)).toUInt32 >>> ((iI 2).toUInt32 &&& Int32.toUInt32 31)).toInt32) &&& 858993459)).toUInt32 >>> ((iI 4).toUInt32 &&& Int32.toUInt32 31)).toInt32)) &&& 252645135).toUInt32 >>> ((iI 8).toUInt32 &&& Int32.toUInt32 31)).toInt32)) + (((((((((iI n) - ((((iI n).toUInt32 >>> ((iI 1).toUInt32 &&& Int32.toUInt32 31)).toInt32) &&& 1431655765)) &&& 858993459) + (((((iI n) - ((((iI n).toUInt32 >>> ((iI 1).toUInt32 &&& Int32.toUInt32 31)).toInt32) &&& 1431655765)).toUInt32 >>> ((iI 2).toUInt32 &&& Int32.toUInt32 31)).toInt32) &&& 858993459)) + ((((((iI n) - ((((iI n).toUInt32 >>> ((iI 1).toUInt32 &&& Int32.toUInt32 31)).toInt32) &&& 1431655765)) &&& 858993459) + (((((iI n) - ((((iI n).toUInt32 >>> ((iI 1).toUInt32 &&& Int32.toUInt32 31)).toInt32) &&& 1431655765)).toUInt32 >>> ((iI 2).toUInt32 &&& Int32.toUInt32 31)).toInt32) &&& 858993459)).toUInt32 >>> ((iI 4).toUInt32 &&& Int32.toUInt32 31)).toInt32)) &&& 252645135) + ((((((((iI n) - ((((iI n).toUInt32 >>> ((iI 1).toUInt32 &&& Int32.toUInt32 31)).toInt32) &&& 1431655765)) &&& 858993459) + (((((iI n) - ((((iI n).toUInt32 >>> ((iI 1).toUInt32 &&& Int32.toUInt32 31)).toInt32) &&& 1431655765)).toUInt32 >>> ((iI 2).toUInt32 &&& Int32.toUInt32 31)).toInt32) &&& 858993459)) + ((((((iI n) - ((((iI n).toUInt32 >>> ((iI 1).toUInt32 &&& Int32.toUInt32 31)).toInt32) &&& 1431655765)) &&& 858993459) + (((((iI n) - ((((iI n).toUInt32 >>> ((iI 1).toUInt32 &&& Int32.toUInt32 31)).toInt32) &&& 1431655765)).toUInt32 >>> ((iI 2).toUInt32 &&& Int32.toUInt32 31)).toInt32) &&& 858993459)).toUInt32 >>> ((iI 4).toUInt32 &&& Int32.toUInt32 31)).toInt32)) &&& 252645135).toUInt32 >>> ((iI 8).toUInt32 &&& Int32.toUInt32 31)).toInt32)).toUInt32 >>> ((iI 16).toUInt32 &&& Int32.toUInt32 31)).toInt32)))]) C.1 C.2.1 dJ6_bitCount_0f7a4_47 rfl hl (by decide) rfl (fun ls hl => ?_)
  refine lv_iload_n C.1 C.2.1 dJ6_bitCount_0f7a4_48 rfl (lv_at hl 0 rfl) ?_
  refine z_bipush C dJ6_bitCount_0f7a4_49 (by decide +kernel) ?_
  refine lv_iand C.1 C.2.1 dJ6_bitCount_0f7a4_51 ?_
  refine z_topI (b := pop6 n) (ib_pop hn.1 hn.2) ?_
  exact z_iret C hr hlk wd (by first | rfl | omega) dJ6_bitCount_0f7a4_52
set_option maxRecDepth 100000 in
set_option maxHeartbeats 4000000 in
theorem c_X0_choose (l : Launch) (D : va_G) (cy cs : ClassId) (a0 a1 : Nat) (mm oo f0 f1 f2 f3 : Int) (tp : Int → Int) (h3 : 0 ≤ f3 ∧ f3 < 64) : zCv l D (zT cy cs) yX0_choose wsX0_choose ({ frames := 0, cells := 0, slots := 0, locals := 0 } : Room) [.ref a0, .int (iI f0), .int (iI f1), .int (iI f2), .int (iI f3)] [zO a0 0 [.int (iI mm), .int (iI oo), .ref a1], zA cy a1 3 tp] [zO a0 0 [.int (iI f0), .int (iI (oT f3)), .ref a1], zA cy a1 3 (uZ (uZ (uZ tp 0 f1) 1 f2) 2 f3)] := by
  intro sz
  refine zM_mk (cc := cX0_choose) (maxL := 5) (ret := none) (own := RX0) (Qc := fun sz => va_Qv (fun (_ : Unit) => True) (fun _ t => zQ D (zT cy cs) (va_A [zO a0 0 [.int (iI mm), .int (iI oo), .ref a1], zA cy a1 3 tp] sz) [zO a0 0 [.int (iI f0), .int (iI (oT f3)), .ref a1], zA cy a1 3 (uZ (uZ (uZ tp 0 f1) 1 f2) 2 f3)] t) (va_A [zO a0 0 [.int (iI mm), .int (iI oo), .ref a1], zA cy a1 3 tp] sz)) (by decide) rfl rfl (Nat.le_of_ble_eq_true rfl) rfl sz ?_
  intro p e s m args below meth c ls C hr hlk hnm hl hsz hA wd
  subst hsz
  have hl : lv_has ls 5 [(0, .ref a0), (1, .int (iI f0)), (2, .int (iI f1)), (3, .int (iI f2)), (4, .int (iI f3))] := hl
  have iX0 : ∀ w ∈ u_ws RX0 TX0 3, w ∈ wsX0_choose := by decide +kernel
  have L9 := C.2.2.2.2 (.fieldLink RX0 9 "LikelyWalks$Code" "taps" "[I") (by decide +kernel)
  have L19 := C.2.2.2.2 (.fieldLink RX0 19 "LikelyWalks$Code" "memory" "I") (by decide +kernel)
  have L23 := C.2.2.2.2 (.fieldLink RX0 23 "LikelyWalks$Code" "outputs" "I") (by decide +kernel)
  refine lv_aload_n C.1 C.2.1 dX0_choose_0 rfl (lv_at hl 0 rfl) ?_
  refine lv_iload_n C.1 C.2.1 dX0_choose_1 rfl (lv_at hl 1 rfl) ?_
  refine z_put C wd (Cn := RX0) (TT := TX0) (N := 3) (ci := 0) (ws2 := [zO a0 0 [.int (iI f0), .int (iI oo), .ref a1], zA cy a1 3 tp]) iX0 tyX0 tyX0_ok nmX0 0 rfl rfl 0 (by decide) L19 (fun _ h => h) rfl (ty := .int) (by decide +kernel) rfl rfl (Nat.le_of_ble_eq_true rfl) rfl dX0_choose_2 (fun H locs wd => ?_)
  refine lv_aload_n C.1 C.2.1 dX0_choose_5 rfl (lv_at hl 0 rfl) ?_
  refine lv_iload C.1 C.2.1 dX0_choose_6 (lv_at hl 4 rfl) ?_
  refine z_if_ne C (tgt := 15) dX0_choose_8 (by decide) (by omega) (fun c_1 => ?_) (fun c_1 => ?_)
  · skip
    refine z_iconst C dX0_choose_15 ?_
    refine z_put C wd (Cn := RX0) (TT := TX0) (N := 3) (ci := 0) (ws2 := [zO a0 0 [.int (iI f0), .int (iI 3), .ref a1], zA cy a1 3 tp]) iX0 tyX0 tyX0_ok nmX0 0 rfl rfl 1 (by decide) L23 (fun _ h => h) rfl (ty := .int) (by decide +kernel) rfl rfl (Nat.le_of_ble_eq_true rfl) rfl dX0_choose_16 (fun H locs wd => ?_)
    refine lv_aload_n C.1 C.2.1 dX0_choose_19 rfl (lv_at hl 0 rfl) ?_
    refine z_get C wd (Cn := RX0) (TT := TX0) (N := 3) (ci := 0) iX0 0 rfl rfl 2 (by decide) L9 (fun _ h => h) rfl dX0_choose_20 ?_
    refine z_iconst C dX0_choose_23 ?_
    refine lv_iload_n C.1 C.2.1 dX0_choose_24 rfl (lv_at hl 2 rfl) ?_
    refine z_iast C wd (ws2 := [zO a0 0 [.int (iI f0), .int (iI 3), .ref a1], zA cy a1 3 (uZ tp 0 f1)]) 1 rfl (by omega) (by decide) rfl dX0_choose_25 (fun H locs wd => ?_)
    refine lv_aload_n C.1 C.2.1 dX0_choose_26 rfl (lv_at hl 0 rfl) ?_
    refine z_get C wd (Cn := RX0) (TT := TX0) (N := 3) (ci := 0) iX0 0 rfl rfl 2 (by decide) L9 (fun _ h => h) rfl dX0_choose_27 ?_
    refine z_iconst C dX0_choose_30 ?_
    refine lv_iload_n C.1 C.2.1 dX0_choose_31 rfl (lv_at hl 3 rfl) ?_
    refine z_iast C wd (ws2 := [zO a0 0 [.int (iI f0), .int (iI 3), .ref a1], zA cy a1 3 (uZ (uZ tp 0 f1) 1 f2)]) 1 rfl (by omega) (by decide) rfl dX0_choose_32 (fun H locs wd => ?_)
    refine lv_aload_n C.1 C.2.1 dX0_choose_33 rfl (lv_at hl 0 rfl) ?_
    refine z_get C wd (Cn := RX0) (TT := TX0) (N := 3) (ci := 0) iX0 0 rfl rfl 2 (by decide) L9 (fun _ h => h) rfl dX0_choose_34 ?_
    refine z_iconst C dX0_choose_37 ?_
    refine lv_iload C.1 C.2.1 dX0_choose_38 (lv_at hl 4 rfl) ?_
    refine z_iast C wd (ws2 := [zO a0 0 [.int (iI f0), .int (iI 3), .ref a1], zA cy a1 3 (uZ (uZ (uZ tp 0 f1) 1 f2) 2 f3)]) 1 rfl (by omega) (by decide) rfl dX0_choose_40 (fun H locs wd => ?_)
    have wd := z_fld wd (ws2 := [zO a0 0 [.int (iI f0), .int (iI (oT f3)), .ref a1], zA cy a1 3 (uZ (uZ (uZ tp 0 f1) 1 f2) 2 f3)]) 0 rfl (congrArg (fun z0 => zO a0 0 [.int (iI f0), .int (iI z0), .ref a1]) (show (3 : Int) = oT f3 from (by first | (rw [oT, if_pos (by omega)]) | (rw [oT, if_neg (by omega)])))) rfl
    exact z_vret C hr hlk wd dX0_choose_41
  · skip
    refine z_iconst C dX0_choose_11 ?_
    refine z_goto C (tgt := 16) dX0_choose_12 (by decide) ?_
    refine z_put C wd (Cn := RX0) (TT := TX0) (N := 3) (ci := 0) (ws2 := [zO a0 0 [.int (iI f0), .int (iI 2), .ref a1], zA cy a1 3 tp]) iX0 tyX0 tyX0_ok nmX0 0 rfl rfl 1 (by decide) L23 (fun _ h => h) rfl (ty := .int) (by decide +kernel) rfl rfl (Nat.le_of_ble_eq_true rfl) rfl dX0_choose_16 (fun H locs wd => ?_)
    refine lv_aload_n C.1 C.2.1 dX0_choose_19 rfl (lv_at hl 0 rfl) ?_
    refine z_get C wd (Cn := RX0) (TT := TX0) (N := 3) (ci := 0) iX0 0 rfl rfl 2 (by decide) L9 (fun _ h => h) rfl dX0_choose_20 ?_
    refine z_iconst C dX0_choose_23 ?_
    refine lv_iload_n C.1 C.2.1 dX0_choose_24 rfl (lv_at hl 2 rfl) ?_
    refine z_iast C wd (ws2 := [zO a0 0 [.int (iI f0), .int (iI 2), .ref a1], zA cy a1 3 (uZ tp 0 f1)]) 1 rfl (by omega) (by decide) rfl dX0_choose_25 (fun H locs wd => ?_)
    refine lv_aload_n C.1 C.2.1 dX0_choose_26 rfl (lv_at hl 0 rfl) ?_
    refine z_get C wd (Cn := RX0) (TT := TX0) (N := 3) (ci := 0) iX0 0 rfl rfl 2 (by decide) L9 (fun _ h => h) rfl dX0_choose_27 ?_
    refine z_iconst C dX0_choose_30 ?_
    refine lv_iload_n C.1 C.2.1 dX0_choose_31 rfl (lv_at hl 3 rfl) ?_
    refine z_iast C wd (ws2 := [zO a0 0 [.int (iI f0), .int (iI 2), .ref a1], zA cy a1 3 (uZ (uZ tp 0 f1) 1 f2)]) 1 rfl (by omega) (by decide) rfl dX0_choose_32 (fun H locs wd => ?_)
    refine lv_aload_n C.1 C.2.1 dX0_choose_33 rfl (lv_at hl 0 rfl) ?_
    refine z_get C wd (Cn := RX0) (TT := TX0) (N := 3) (ci := 0) iX0 0 rfl rfl 2 (by decide) L9 (fun _ h => h) rfl dX0_choose_34 ?_
    refine z_iconst C dX0_choose_37 ?_
    refine lv_iload C.1 C.2.1 dX0_choose_38 (lv_at hl 4 rfl) ?_
    refine z_iast C wd (ws2 := [zO a0 0 [.int (iI f0), .int (iI 2), .ref a1], zA cy a1 3 (uZ (uZ (uZ tp 0 f1) 1 f2) 2 f3)]) 1 rfl (by omega) (by decide) rfl dX0_choose_40 (fun H locs wd => ?_)
    have wd := z_fld wd (ws2 := [zO a0 0 [.int (iI f0), .int (iI (oT f3)), .ref a1], zA cy a1 3 (uZ (uZ (uZ tp 0 f1) 1 f2) 2 f3)]) 0 rfl (congrArg (fun z0 => zO a0 0 [.int (iI f0), .int (iI z0), .ref a1]) (show (2 : Int) = oT f3 from (by first | (rw [oT, if_pos (by omega)]) | (rw [oT, if_neg (by omega)])))) rfl
    exact z_vret C hr hlk wd dX0_choose_41
set_option maxRecDepth 100000 in
set_option maxHeartbeats 4000000 in
theorem c_X0_copyFrom (l : Launch) (D : va_G) (cy cs : ClassId) (a0 a1 b0 b1 : Nat) (mm oo mq oq : Int) (tp tq : Int → Int) (ht : tpOk tq) (hq : oq = oT (tq 2)) : zCv l D (zT cy cs) yX0_copyFrom wsX0_copyFrom ({ frames := 1, cells := 0, slots := 0, locals := 24 } : Room) [.ref a0, .ref b0] [zO a0 0 [.int (iI mm), .int (iI oo), .ref a1], zA cy a1 3 tp, zO b0 0 [.int (iI mq), .int (iI oq), .ref b1], zA cy b1 3 tq] [zO a0 0 [.int (iI mq), .int (iI oq), .ref a1], zA cy a1 3 tq, zO b0 0 [.int (iI mq), .int (iI oq), .ref b1], zA cy b1 3 tq] := by
  intro sz
  refine zM_mk (cc := cX0_copyFrom) (maxL := 2) (ret := none) (own := RX0) (Qc := fun sz => va_Qv (fun (_ : Unit) => True) (fun _ t => zQ D (zT cy cs) (va_A [zO a0 0 [.int (iI mm), .int (iI oo), .ref a1], zA cy a1 3 tp, zO b0 0 [.int (iI mq), .int (iI oq), .ref b1], zA cy b1 3 tq] sz) [zO a0 0 [.int (iI mq), .int (iI oq), .ref a1], zA cy a1 3 tq, zO b0 0 [.int (iI mq), .int (iI oq), .ref b1], zA cy b1 3 tq] t) (va_A [zO a0 0 [.int (iI mm), .int (iI oo), .ref a1], zA cy a1 3 tp, zO b0 0 [.int (iI mq), .int (iI oq), .ref b1], zA cy b1 3 tq] sz)) (by decide) rfl rfl (Nat.le_of_ble_eq_true rfl) rfl sz ?_
  intro p e s m args below meth c ls C hr hlk hnm hl hsz hA wd
  subst hsz
  have hl : lv_has ls 2 [(0, .ref a0), (1, .ref b0)] := hl
  have iX0 : ∀ w ∈ u_ws RX0 TX0 3, w ∈ wsX0_copyFrom := by decide +kernel
  have L9 := C.2.2.2.2 (.fieldLink RX0 9 "LikelyWalks$Code" "taps" "[I") (by decide +kernel)
  have L19 := C.2.2.2.2 (.fieldLink RX0 19 "LikelyWalks$Code" "memory" "I") (by decide +kernel)
  have ht2 := ht 2 (by omega) (by omega)
  refine lv_aload_n C.1 C.2.1 dX0_copyFrom_0 rfl (lv_at hl 0 rfl) ?_
  refine lv_aload_n C.1 C.2.1 dX0_copyFrom_1 rfl (lv_at hl 1 rfl) ?_
  refine z_get C wd (Cn := RX0) (TT := TX0) (N := 3) (ci := 0) iX0 2 rfl rfl 0 (by decide) L19 (fun _ h => h) rfl dX0_copyFrom_2 ?_
  refine lv_aload_n C.1 C.2.1 dX0_copyFrom_5 rfl (lv_at hl 1 rfl) ?_
  refine z_get C wd (Cn := RX0) (TT := TX0) (N := 3) (ci := 0) iX0 2 rfl rfl 2 (by decide) L9 (fun _ h => h) rfl dX0_copyFrom_6 ?_
  refine z_iconst C dX0_copyFrom_9 ?_
  refine z_iald C wd 3 rfl (by omega) (by decide) dX0_copyFrom_10 ?_
  refine lv_aload_n C.1 C.2.1 dX0_copyFrom_11 rfl (lv_at hl 1 rfl) ?_
  refine z_get C wd (Cn := RX0) (TT := TX0) (N := 3) (ci := 0) iX0 2 rfl rfl 2 (by decide) L9 (fun _ h => h) rfl dX0_copyFrom_12 ?_
  refine z_iconst C dX0_copyFrom_15 ?_
  refine z_iald C wd 3 rfl (by omega) (by decide) dX0_copyFrom_16 ?_
  refine lv_aload_n C.1 C.2.1 dX0_copyFrom_17 rfl (lv_at hl 1 rfl) ?_
  refine z_get C wd (Cn := RX0) (TT := TX0) (N := 3) (ci := 0) iX0 2 rfl rfl 2 (by decide) L9 (fun _ h => h) rfl dX0_copyFrom_18 ?_
  refine z_iconst C dX0_copyFrom_21 ?_
  refine z_iald C wd 3 rfl (by omega) (by decide) dX0_copyFrom_22 ?_
  refine z_cvv C wd hA (As := [.int (iI mq), .int (iI (tq 0)), .int (iI (tq 1)), .int (iI (tq 2))]) (rest := []) (ws2 := [zO a0 0 [.int (iI mq), .int (iI (oT (tq 2))), .ref a1], zA cy a1 3 (uZ (uZ (uZ tp 0 (tq 0)) 1 (tq 1)) 2 (tq 2)), zO b0 0 [.int (iI mq), .int (iI oq), .ref b1], zA cy b1 3 tq]) (c_X0_choose l D cy cs a0 a1 mm oo mq (tq 0) (tq 1) (tq 2) tp (by omega)) (cwV 4 C.2.2.2.2 gX0_copyFrom_X0_choose rfl rfl rfl (by decide +kernel) ⟨Nat.le_of_ble_eq_true rfl, Nat.le_of_ble_eq_true rfl⟩) [0, 1] rfl rfl rfl ⟨rfl, [2, 3], [zO b0 0 [.int (iI mq), .int (iI oq), .ref b1], zA cy b1 3 tq], 4, rfl, rfl, rfl, by decide +kernel⟩ rfl rfl rfl rfl (Nat.le_of_ble_eq_true rfl) hl.1 dX0_copyFrom_23 ⟨Nat.zero_le _, Nat.zero_le _⟩ (fun H locs wd => ?_)
  have wd := z_fld wd (ws2 := [zO a0 0 [.int (iI mq), .int (iI oq), .ref a1], zA cy a1 3 (uZ (uZ (uZ tp 0 (tq 0)) 1 (tq 1)) 2 (tq 2)), zO b0 0 [.int (iI mq), .int (iI oq), .ref b1], zA cy b1 3 tq]) 0 rfl (congrArg (fun z0 => zO a0 0 [.int (iI mq), .int (iI z0), .ref a1]) (show (oT (tq 2) : Int) = oq from hq.symm)) rfl
  have wd := z_cell wd (ws2 := [zO a0 0 [.int (iI mq), .int (iI oq), .ref a1], zA cy a1 3 tq, zO b0 0 [.int (iI mq), .int (iI oq), .ref b1], zA cy b1 3 tq]) 1 rfl (by intro k k0 k1; rcases (show k = 0 ∨ k = 1 ∨ k = 2 by omega) with rfl | rfl | rfl <;> rfl) rfl
  exact z_vret C hr hlk wd dX0_copyFrom_26
set_option maxRecDepth 100000 in
set_option maxHeartbeats 4000000 in
theorem c_X0_states (l : Launch) (D : va_G) (cy cs : ClassId) (a0 a1 : Nat) (mm oo : Int) (hm : 1 ≤ mm ∧ mm ≤ 5) : zCi l D (zT cy cs) yX0_states wsX0_states ({ frames := 0, cells := 0, slots := 0, locals := 0 } : Room) [.ref a0] [zO a0 0 [.int (iI mm), .int (iI oo), .ref a1]] (p2 mm) [zO a0 0 [.int (iI mm), .int (iI oo), .ref a1]] := by
  intro sz
  refine zM_mk (cc := cX0_states) (maxL := 1) (ret := (some .int)) (own := RX0) (Qc := fun sz => va_Qi (fun r (_ : Unit) => r = iI (p2 mm)) (fun _ t => zQ D (zT cy cs) (va_A [zO a0 0 [.int (iI mm), .int (iI oo), .ref a1]] sz) [zO a0 0 [.int (iI mm), .int (iI oo), .ref a1]] t) (va_A [zO a0 0 [.int (iI mm), .int (iI oo), .ref a1]] sz)) (by decide) rfl rfl (Nat.le_of_ble_eq_true rfl) rfl sz ?_
  intro p e s m args below meth c ls C hr hlk hnm hl hsz hA wd
  subst hsz
  have hl : lv_has ls 1 [(0, .ref a0)] := hl
  have iX0 : ∀ w ∈ u_ws RX0 TX0 3, w ∈ wsX0_states := by decide +kernel
  have L19 := C.2.2.2.2 (.fieldLink RX0 19 "LikelyWalks$Code" "memory" "I") (by decide +kernel)
  refine z_iconst C dX0_states_0 ?_
  refine lv_aload_n C.1 C.2.1 dX0_states_1 rfl (lv_at hl 0 rfl) ?_
  refine z_get C wd (Cn := RX0) (TT := TX0) (N := 3) (ci := 0) iX0 0 rfl rfl 0 (by decide) L19 (fun _ h => h) rfl dX0_states_2 ?_
  refine z_ishl C (p2 mm) dX0_states_5 (iI_1shl hm.1 hm.2) ?_
  exact z_iret C hr hlk wd (by first | rfl | omega) dX0_states_6
set_option maxRecDepth 100000 in
set_option maxHeartbeats 4000000 in
theorem c_X0_hasState (l : Launch) (D : va_G) (cy cs : ClassId) (a0 a1 : Nat) (mm oo : Int) (st : Int) (hm : 1 ≤ mm ∧ mm ≤ 5) (hs : -2147483648 ≤ st ∧ st < 2147483648) : zCi l D (zT cy cs) yX0_hasState wsX0_hasState ({ frames := 1, cells := 0, slots := 0, locals := 20 } : Room) [.ref a0, .int (iI st)] [zO a0 0 [.int (iI mm), .int (iI oo), .ref a1]] (bI (0 ≤ st ∧ st < p2 mm)) [zO a0 0 [.int (iI mm), .int (iI oo), .ref a1]] := by
  intro sz
  refine zM_mk (cc := cX0_hasState) (maxL := 2) (ret := (some .boolean)) (own := RX0) (Qc := fun sz => va_Qi (fun r (_ : Unit) => r = iI (bI (0 ≤ st ∧ st < p2 mm))) (fun _ t => zQ D (zT cy cs) (va_A [zO a0 0 [.int (iI mm), .int (iI oo), .ref a1]] sz) [zO a0 0 [.int (iI mm), .int (iI oo), .ref a1]] t) (va_A [zO a0 0 [.int (iI mm), .int (iI oo), .ref a1]] sz)) (by decide) rfl rfl (Nat.le_of_ble_eq_true rfl) rfl sz ?_
  intro p e s m args below meth c ls C hr hlk hnm hl hsz hA wd
  subst hsz
  have hl : lv_has ls 2 [(0, .ref a0), (1, .int (iI st))] := hl
  have hp := p2_all hm.1 hm.2
  refine lv_iload_n C.1 C.2.1 dX0_hasState_0 rfl (lv_at hl 1 rfl) ?_
  refine z_if_lt C (tgt := 16) dX0_hasState_1 (by decide) (by omega) (fun c_1 => ?_) (fun c_1 => ?_)
  · skip
    refine z_iconst C dX0_hasState_16 ?_
    exact z_zret C hr hlk (by omega) wd (by first | rfl | exact (bI_t (by omega)).symm | exact (bI_f (by omega)).symm) dX0_hasState_17
  · skip
    refine lv_iload_n C.1 C.2.1 dX0_hasState_4 rfl (lv_at hl 1 rfl) ?_
    refine lv_aload_n C.1 C.2.1 dX0_hasState_5 rfl (lv_at hl 0 rfl) ?_
    refine z_cvi C wd hA (As := []) (rest := [.int (iI st)]) (ws2 := [zO a0 0 [.int (iI mm), .int (iI oo), .ref a1]]) (c_X0_states l D cy cs a0 a1 mm oo (by omega)) (cwV 0 C.2.2.2.2 gX0_hasState_X0_states rfl rfl rfl (by decide +kernel) ⟨Nat.le_of_ble_eq_true rfl, Nat.le_of_ble_eq_true rfl⟩) [0] rfl rfl rfl ⟨rfl, [], [], 1, rfl, rfl, rfl, by decide +kernel⟩ rfl rfl rfl rfl (Nat.le_of_ble_eq_true rfl) hl.1 dX0_hasState_6 ⟨Nat.zero_le _, Nat.zero_le _⟩ (fun H locs wd => ?_)
    refine z_icmp_ge C (tgt := 16) dX0_hasState_9 (by decide) (by omega) (fun c_2 => ?_) (fun c_2 => ?_)
    · skip
      refine z_iconst C dX0_hasState_16 ?_
      exact z_zret C hr hlk (by omega) wd (by first | rfl | exact (bI_t (by omega)).symm | exact (bI_f (by omega)).symm) dX0_hasState_17
    · skip
      refine z_iconst C dX0_hasState_12 ?_
      refine z_goto C (tgt := 17) dX0_hasState_13 (by decide) ?_
      exact z_zret C hr hlk (by omega) wd (by first | rfl | exact (bI_t (by omega)).symm | exact (bI_f (by omega)).symm) dX0_hasState_17
set_option maxRecDepth 100000 in
set_option maxHeartbeats 4000000 in
theorem c_X0_windowOf (l : Launch) (D : va_G) (cy cs : ClassId) (a0 a1 : Nat) (mm oo : Int) (st b : Int) (hm : 1 ≤ mm ∧ mm ≤ 5) (hb : 0 ≤ b ∧ b ≤ 1) : zCi l D (zT cy cs) yX0_windowOf wsX0_windowOf ({ frames := 0, cells := 0, slots := 0, locals := 0 } : Room) [.ref a0, .int (iI st), .int (iI b)] [zO a0 0 [.int (iI mm), .int (iI oo), .ref a1]] (wn mm st b) [zO a0 0 [.int (iI mm), .int (iI oo), .ref a1]] := by
  intro sz
  refine zM_mk (cc := cX0_windowOf) (maxL := 3) (ret := (some .int)) (own := RX0) (Qc := fun sz => va_Qi (fun r (_ : Unit) => r = iI (wn mm st b)) (fun _ t => zQ D (zT cy cs) (va_A [zO a0 0 [.int (iI mm), .int (iI oo), .ref a1]] sz) [zO a0 0 [.int (iI mm), .int (iI oo), .ref a1]] t) (va_A [zO a0 0 [.int (iI mm), .int (iI oo), .ref a1]] sz)) (by decide) rfl rfl (Nat.le_of_ble_eq_true rfl) rfl sz ?_
  intro p e s m args below meth c ls C hr hlk hnm hl hsz hA wd
  subst hsz
  have hl : lv_has ls 3 [(0, .ref a0), (1, .int (iI st)), (2, .int (iI b))] := hl
  have iX0 : ∀ w ∈ u_ws RX0 TX0 3, w ∈ wsX0_windowOf := by decide +kernel
  have L19 := C.2.2.2.2 (.fieldLink RX0 19 "LikelyWalks$Code" "memory" "I") (by decide +kernel)
  refine lv_iload_n C.1 C.2.1 dX0_windowOf_0 rfl (lv_at hl 2 rfl) ?_
  refine lv_aload_n C.1 C.2.1 dX0_windowOf_1 rfl (lv_at hl 0 rfl) ?_
  refine z_get C wd (Cn := RX0) (TT := TX0) (N := 3) (ci := 0) iX0 0 rfl rfl 0 (by decide) L19 (fun _ h => h) rfl dX0_windowOf_2 ?_
  refine z_ishl C (b * p2 mm) dX0_windowOf_5 (iI_bshl hm.1 hm.2 hb.1 hb.2) ?_
  refine lv_iload_n C.1 C.2.1 dX0_windowOf_6 rfl (lv_at hl 1 rfl) ?_
  refine z_iadd C dX0_windowOf_7 ?_
  exact z_iret C hr hlk wd (by first | rfl | omega) dX0_windowOf_8
set_option maxRecDepth 100000 in
set_option maxHeartbeats 4000000 in
theorem c_X0_stateAfter (l : Launch) (D : va_G) (cy cs : ClassId) (a0 a1 : Nat) (mm oo : Int) (st b : Int) (hm : 1 ≤ mm ∧ mm ≤ 5) (hs : 0 ≤ st ∧ st < p2 mm) (hb : 0 ≤ b ∧ b ≤ 1) : zCi l D (zT cy cs) yX0_stateAfter wsX0_stateAfter ({ frames := 1, cells := 0, slots := 0, locals := 22 } : Room) [.ref a0, .int (iI st), .int (iI b)] [zO a0 0 [.int (iI mm), .int (iI oo), .ref a1]] (wn mm st b / 2) [zO a0 0 [.int (iI mm), .int (iI oo), .ref a1]] := by
  intro sz
  refine zM_mk (cc := cX0_stateAfter) (maxL := 3) (ret := (some .int)) (own := RX0) (Qc := fun sz => va_Qi (fun r (_ : Unit) => r = iI (wn mm st b / 2)) (fun _ t => zQ D (zT cy cs) (va_A [zO a0 0 [.int (iI mm), .int (iI oo), .ref a1]] sz) [zO a0 0 [.int (iI mm), .int (iI oo), .ref a1]] t) (va_A [zO a0 0 [.int (iI mm), .int (iI oo), .ref a1]] sz)) (by decide) rfl rfl (Nat.le_of_ble_eq_true rfl) rfl sz ?_
  intro p e s m args below meth c ls C hr hlk hnm hl hsz hA wd
  subst hsz
  have hl : lv_has ls 3 [(0, .ref a0), (1, .int (iI st)), (2, .int (iI b))] := hl
  have hw := wn_le hm.1 hm.2 hs.1 hs.2 hb.1 hb.2
  refine lv_aload_n C.1 C.2.1 dX0_stateAfter_0 rfl (lv_at hl 0 rfl) ?_
  refine lv_iload_n C.1 C.2.1 dX0_stateAfter_1 rfl (lv_at hl 1 rfl) ?_
  refine lv_iload_n C.1 C.2.1 dX0_stateAfter_2 rfl (lv_at hl 2 rfl) ?_
  refine z_cvi C wd hA (As := [.int (iI st), .int (iI b)]) (rest := []) (ws2 := [zO a0 0 [.int (iI mm), .int (iI oo), .ref a1]]) (c_X0_windowOf l D cy cs a0 a1 mm oo st b (by omega) (by omega)) (cwV 2 C.2.2.2.2 gX0_stateAfter_X0_windowOf rfl rfl rfl (by decide +kernel) ⟨Nat.le_of_ble_eq_true rfl, Nat.le_of_ble_eq_true rfl⟩) [0] rfl rfl rfl ⟨rfl, [], [], 1, rfl, rfl, rfl, by decide +kernel⟩ rfl rfl rfl rfl (Nat.le_of_ble_eq_true rfl) hl.1 dX0_stateAfter_3 ⟨Nat.zero_le _, Nat.zero_le _⟩ (fun H locs wd => ?_)
  refine z_iconst C dX0_stateAfter_6 ?_
  refine z_ishr C (wn mm st b / 2) dX0_stateAfter_7 (iI_shr (k := 1) (by omega) (by omega) (by omega) (by omega)) ?_
  exact z_iret C hr hlk wd (by first | rfl | omega) dX0_stateAfter_8
set_option maxRecDepth 100000 in
set_option maxHeartbeats 4000000 in
theorem c_X0_bitInto (l : Launch) (D : va_G) (cy cs : ClassId) (a0 a1 : Nat) (mm oo : Int) (st : Int) (hm : 1 ≤ mm ∧ mm ≤ 5) (hs : 0 ≤ st ∧ st < p2 mm) : zCi l D (zT cy cs) yX0_bitInto wsX0_bitInto ({ frames := 0, cells := 0, slots := 0, locals := 0 } : Room) [.ref a0, .int (iI st)] [zO a0 0 [.int (iI mm), .int (iI oo), .ref a1]] (st / p2 (mm - 1)) [zO a0 0 [.int (iI mm), .int (iI oo), .ref a1]] := by
  intro sz
  refine zM_mk (cc := cX0_bitInto) (maxL := 2) (ret := (some .int)) (own := RX0) (Qc := fun sz => va_Qi (fun r (_ : Unit) => r = iI (st / p2 (mm - 1))) (fun _ t => zQ D (zT cy cs) (va_A [zO a0 0 [.int (iI mm), .int (iI oo), .ref a1]] sz) [zO a0 0 [.int (iI mm), .int (iI oo), .ref a1]] t) (va_A [zO a0 0 [.int (iI mm), .int (iI oo), .ref a1]] sz)) (by decide) rfl rfl (Nat.le_of_ble_eq_true rfl) rfl sz ?_
  intro p e s m args below meth c ls C hr hlk hnm hl hsz hA wd
  subst hsz
  have hl : lv_has ls 2 [(0, .ref a0), (1, .int (iI st))] := hl
  have iX0 : ∀ w ∈ u_ws RX0 TX0 3, w ∈ wsX0_bitInto := by decide +kernel
  have L19 := C.2.2.2.2 (.fieldLink RX0 19 "LikelyWalks$Code" "memory" "I") (by decide +kernel)
  have hp := p2_all hm.1 hm.2
  refine lv_iload_n C.1 C.2.1 dX0_bitInto_0 rfl (lv_at hl 1 rfl) ?_
  refine lv_aload_n C.1 C.2.1 dX0_bitInto_1 rfl (lv_at hl 0 rfl) ?_
  refine z_get C wd (Cn := RX0) (TT := TX0) (N := 3) (ci := 0) iX0 0 rfl rfl 0 (by decide) L19 (fun _ h => h) rfl dX0_bitInto_2 ?_
  refine z_iconst C dX0_bitInto_5 ?_
  refine z_isub C dX0_bitInto_6 ?_
  refine z_ishr C (st / p2 (mm - 1)) dX0_bitInto_7 (iI_shr (by omega) (by omega) (by omega) (by omega)) ?_
  exact z_iret C hr hlk wd (by first | rfl | omega) dX0_bitInto_8
set_option maxRecDepth 100000 in
set_option maxHeartbeats 4000000 in
theorem c_X0_lowerBefore (l : Launch) (D : va_G) (cy cs : ClassId) (a0 a1 : Nat) (mm oo : Int) (st : Int) (hm : 1 ≤ mm ∧ mm ≤ 5) (hs : 0 ≤ st ∧ st < p2 mm) : zCi l D (zT cy cs) yX0_lowerBefore wsX0_lowerBefore ({ frames := 1, cells := 0, slots := 0, locals := 20 } : Room) [.ref a0, .int (iI st)] [zO a0 0 [.int (iI mm), .int (iI oo), .ref a1]] (2 * st % p2 mm) [zO a0 0 [.int (iI mm), .int (iI oo), .ref a1]] := by
  intro sz
  refine zM_mk (cc := cX0_lowerBefore) (maxL := 2) (ret := (some .int)) (own := RX0) (Qc := fun sz => va_Qi (fun r (_ : Unit) => r = iI (2 * st % p2 mm)) (fun _ t => zQ D (zT cy cs) (va_A [zO a0 0 [.int (iI mm), .int (iI oo), .ref a1]] sz) [zO a0 0 [.int (iI mm), .int (iI oo), .ref a1]] t) (va_A [zO a0 0 [.int (iI mm), .int (iI oo), .ref a1]] sz)) (by decide) rfl rfl (Nat.le_of_ble_eq_true rfl) rfl sz ?_
  intro p e s m args below meth c ls C hr hlk hnm hl hsz hA wd
  subst hsz
  have hl : lv_has ls 2 [(0, .ref a0), (1, .int (iI st))] := hl
  have hp := p2_all hm.1 hm.2
  refine z_iconst C dX0_lowerBefore_0 ?_
  refine lv_iload_n C.1 C.2.1 dX0_lowerBefore_1 rfl (lv_at hl 1 rfl) ?_
  refine z_imul C dX0_lowerBefore_2 ?_
  refine lv_aload_n C.1 C.2.1 dX0_lowerBefore_3 rfl (lv_at hl 0 rfl) ?_
  refine z_cvi C wd hA (As := []) (rest := [.int (iI (2 * st))]) (ws2 := [zO a0 0 [.int (iI mm), .int (iI oo), .ref a1]]) (c_X0_states l D cy cs a0 a1 mm oo (by omega)) (cwV 0 C.2.2.2.2 gX0_lowerBefore_X0_states rfl rfl rfl (by decide +kernel) ⟨Nat.le_of_ble_eq_true rfl, Nat.le_of_ble_eq_true rfl⟩) [0] rfl rfl rfl ⟨rfl, [], [], 1, rfl, rfl, rfl, by decide +kernel⟩ rfl rfl rfl rfl (Nat.le_of_ble_eq_true rfl) hl.1 dX0_lowerBefore_4 ⟨Nat.zero_le _, Nat.zero_le _⟩ (fun H locs wd => ?_)
  refine z_iconst C dX0_lowerBefore_7 ?_
  refine z_isub C dX0_lowerBefore_8 ?_
  refine z_iand C (2 * st % p2 mm) dX0_lowerBefore_9 (iI_mask hm.1 hm.2 (by omega) (by omega)) ?_
  exact z_iret C hr hlk wd (by first | rfl | omega) dX0_lowerBefore_10
set_option maxRecDepth 100000 in
set_option maxHeartbeats 4000000 in
theorem c_X0_symbolOf (l : Launch) (D : va_G) (cy cs : ClassId) (a0 a1 : Nat) (mm oo : Int) (tp : Int → Int) (o w : Int) (ht : tpOk tp) (ho : 0 ≤ o ∧ o < 3) (hw : 0 ≤ w ∧ w < 64) : zCi l D (zT cy cs) yX0_symbolOf wsX0_symbolOf ({ frames := 1, cells := 0, slots := 0, locals := 20 } : Room) [.ref a0, .int (iI o), .int (iI w)] [zO a0 0 [.int (iI mm), .int (iI oo), .ref a1], zA cy a1 3 tp] (sy (tp o) w) [zO a0 0 [.int (iI mm), .int (iI oo), .ref a1], zA cy a1 3 tp] := by
  intro sz
  refine zM_mk (cc := cX0_symbolOf) (maxL := 3) (ret := (some .int)) (own := RX0) (Qc := fun sz => va_Qi (fun r (_ : Unit) => r = iI (sy (tp o) w)) (fun _ t => zQ D (zT cy cs) (va_A [zO a0 0 [.int (iI mm), .int (iI oo), .ref a1], zA cy a1 3 tp] sz) [zO a0 0 [.int (iI mm), .int (iI oo), .ref a1], zA cy a1 3 tp] t) (va_A [zO a0 0 [.int (iI mm), .int (iI oo), .ref a1], zA cy a1 3 tp] sz)) (by decide) rfl rfl (Nat.le_of_ble_eq_true rfl) rfl sz ?_
  intro p e s m args below meth c ls C hr hlk hnm hl hsz hA wd
  subst hsz
  have hl : lv_has ls 3 [(0, .ref a0), (1, .int (iI o)), (2, .int (iI w))] := hl
  have iX0 : ∀ w ∈ u_ws RX0 TX0 3, w ∈ wsX0_symbolOf := by decide +kernel
  have L9 := C.2.2.2.2 (.fieldLink RX0 9 "LikelyWalks$Code" "taps" "[I") (by decide +kernel)
  have hto := ht o ho.1 ho.2
  have hl6 := land_lt (b := w) hto.1 hto.2
  refine lv_aload_n C.1 C.2.1 dX0_symbolOf_0 rfl (lv_at hl 0 rfl) ?_
  refine z_get C wd (Cn := RX0) (TT := TX0) (N := 3) (ci := 0) iX0 0 rfl rfl 2 (by decide) L9 (fun _ h => h) rfl dX0_symbolOf_1 ?_
  refine lv_iload_n C.1 C.2.1 dX0_symbolOf_4 rfl (lv_at hl 1 rfl) ?_
  refine z_iald C wd 1 rfl (by omega) (by decide) dX0_symbolOf_5 ?_
  refine lv_iload_n C.1 C.2.1 dX0_symbolOf_6 rfl (lv_at hl 2 rfl) ?_
  refine z_iand C (((tp o).toNat &&& (w).toNat : Nat) : Int) dX0_symbolOf_7 (iI_land (by omega) (by omega)) ?_
  refine z_csi C wd hA (As := [.int (iI (((tp o).toNat &&& (w).toNat : Nat) : Int))]) (rest := []) (ws2 := [zO a0 0 [.int (iI mm), .int (iI oo), .ref a1], zA cy a1 3 tp]) (c_bitCount l D cy cs (((tp o).toNat &&& (w).toNat : Nat) : Int) (by omega)) (va_cwS 1 C.2.2.2.2 gX0_symbolOf_J6_bitCount_0f7a4 rfl rfl rfl (by decide +kernel) ⟨Nat.le_of_ble_eq_true rfl, Nat.le_of_ble_eq_true rfl⟩) [] rfl rfl rfl ⟨rfl, [0, 1], [zO a0 0 [.int (iI mm), .int (iI oo), .ref a1], zA cy a1 3 tp], 2, rfl, rfl, rfl, by decide +kernel⟩ rfl rfl (Nat.le_of_ble_eq_true rfl) hl.1 dX0_symbolOf_8 ⟨Nat.zero_le _, Nat.zero_le _⟩ (fun H locs wd => ?_)
  refine z_iconst C dX0_symbolOf_11 ?_
  refine z_iand C (sy (tp o) w) dX0_symbolOf_12 (by rw [iI_and1 (by unfold pop6; omega) (by unfold pop6; omega), pop6_par _ hl6]; rfl) ?_
  exact z_iret C hr hlk wd (by first | rfl | omega) dX0_symbolOf_13
set_option maxRecDepth 100000 in
set_option maxHeartbeats 4000000 in
theorem c_X0_symbolsOf (l : Launch) (D : va_G) (cy cs : ClassId) (a0 a1 : Nat) (mm oo : Int) (tp : Int → Int) (st b : Int) (hm : 1 ≤ mm ∧ mm ≤ 5) (ho : 2 ≤ oo ∧ oo ≤ 3) (ht : tpOk tp) (hs : 0 ≤ st ∧ st < p2 mm) (hb : 0 ≤ b ∧ b ≤ 1) : zCi l D (zT cy cs) yX0_symbolsOf wsX0_symbolsOf ({ frames := 2, cells := 0, slots := 0, locals := 42 } : Room) [.ref a0, .int (iI st), .int (iI b)] [zO a0 0 [.int (iI mm), .int (iI oo), .ref a1], zA cy a1 3 tp] (nb (fun z9 => sy (tp z9) (wn mm st b)) oo.toNat) [zO a0 0 [.int (iI mm), .int (iI oo), .ref a1], zA cy a1 3 tp] := by
  intro sz
  refine zM_mk (cc := cX0_symbolsOf) (maxL := 6) (ret := (some .int)) (own := RX0) (Qc := fun sz => va_Qi (fun r (_ : Unit) => r = iI (nb (fun z9 => sy (tp z9) (wn mm st b)) oo.toNat)) (fun _ t => zQ D (zT cy cs) (va_A [zO a0 0 [.int (iI mm), .int (iI oo), .ref a1], zA cy a1 3 tp] sz) [zO a0 0 [.int (iI mm), .int (iI oo), .ref a1], zA cy a1 3 tp] t) (va_A [zO a0 0 [.int (iI mm), .int (iI oo), .ref a1], zA cy a1 3 tp] sz)) (by decide) rfl rfl (Nat.le_of_ble_eq_true rfl) rfl sz ?_
  intro p e s m args below meth c ls C hr hlk hnm hl hsz hA wd
  subst hsz
  have hl : lv_has ls 6 [(0, .ref a0), (1, .int (iI st)), (2, .int (iI b))] := hl
  have iX0 : ∀ w ∈ u_ws RX0 TX0 3, w ∈ wsX0_symbolsOf := by decide +kernel
  have L23 := C.2.2.2.2 (.fieldLink RX0 23 "LikelyWalks$Code" "outputs" "I") (by decide +kernel)
  have hw := wn_le hm.1 hm.2 hs.1 hs.2 hb.1 hb.2
  refine lv_aload_n C.1 C.2.1 dX0_symbolsOf_0 rfl (lv_at hl 0 rfl) ?_
  refine lv_iload_n C.1 C.2.1 dX0_symbolsOf_1 rfl (lv_at hl 1 rfl) ?_
  refine lv_iload_n C.1 C.2.1 dX0_symbolsOf_2 rfl (lv_at hl 2 rfl) ?_
  refine z_cvi C wd hA (As := [.int (iI st), .int (iI b)]) (rest := []) (ws2 := [zO a0 0 [.int (iI mm), .int (iI oo), .ref a1], zA cy a1 3 tp]) (c_X0_windowOf l D cy cs a0 a1 mm oo st b (by omega) (by omega)) (cwV 2 C.2.2.2.2 gX0_symbolsOf_X0_windowOf rfl rfl rfl (by decide +kernel) ⟨Nat.le_of_ble_eq_true rfl, Nat.le_of_ble_eq_true rfl⟩) [0] rfl rfl rfl ⟨rfl, [1], [zA cy a1 3 tp], 2, rfl, rfl, rfl, by decide +kernel⟩ rfl rfl rfl rfl (Nat.le_of_ble_eq_true rfl) hl.1 dX0_symbolsOf_3 ⟨Nat.zero_le _, Nat.zero_le _⟩ (fun H locs wd => ?_)
  refine lv_istore_n (lv' := [(3, .int (iI (wn mm st b))), (0, .ref a0), (1, .int (iI st)), (2, .int (iI b))]) C.1 C.2.1 dX0_symbolsOf_6 rfl hl (by decide) rfl (fun ls hl => ?_)
  refine z_iconst C dX0_symbolsOf_7 ?_
  refine lv_istore (lv' := [(4, .int (iI 0)), (3, .int (iI (wn mm st b))), (0, .ref a0), (1, .int (iI st)), (2, .int (iI b))]) C.1 C.2.1 dX0_symbolsOf_8 hl (by decide) rfl (fun ls hl => ?_)
  refine z_iconst C dX0_symbolsOf_10 ?_
  refine lv_istore (lv' := [(5, .int (iI 0)), (4, .int (iI 0)), (3, .int (iI (wn mm st b))), (0, .ref a0), (1, .int (iI st)), (2, .int (iI b))]) C.1 C.2.1 dX0_symbolsOf_11 hl (by decide) rfl (fun ls hl => ?_)
  refine z_loop2 (P := fun (x : Int) (k : Int) => (0 ≤ k ∧ k ≤ oo) ∧ (x = nb (fun z9 => sy (tp z9) (wn mm st b)) k.toNat)) (mu := fun (x : Int) (k : Int) => (oo - k).toNat) (ws := fun (x : Int) (k : Int) => [zO a0 0 [.int (iI mm), .int (iI oo), .ref a1], zA cy a1 3 tp]) (lv := fun (x : Int) (k : Int) => [(0, .ref a0), (1, .int (iI st)), (2, .int (iI b)), (3, .int (iI (wn mm st b))), (4, .int (iI x)), (5, .int (iI k))]) 0 0 C ⟨(by omega), rfl⟩ wd (lv_sub hl [3, 4, 5, 2, 1, 0] rfl) ?_
  intro x k hP13 ih13 H locs ls wd hl
  obtain ⟨h13_0, h13_1⟩ := hP13
  try dsimp only at h13_0 h13_1
  have wd : Wd D (zT cy cs) _ s.heap s [zO a0 0 [.int (iI mm), .int (iI oo), .ref a1], zA cy a1 3 tp] H locs := wd
  have hl : lv_has ls 6 [(0, .ref a0), (1, .int (iI st)), (2, .int (iI b)), (3, .int (iI (wn mm st b))), (4, .int (iI x)), (5, .int (iI k))] := hl
  refine lv_iload C.1 C.2.1 dX0_symbolsOf_13 (lv_at hl 5 rfl) ?_
  refine lv_aload_n C.1 C.2.1 dX0_symbolsOf_15 rfl (lv_at hl 0 rfl) ?_
  refine z_get C wd (Cn := RX0) (TT := TX0) (N := 3) (ci := 0) iX0 0 rfl rfl 1 (by decide) L23 (fun _ h => h) rfl dX0_symbolsOf_16 ?_
  refine z_icmp_ge C (tgt := 42) dX0_symbolsOf_19 (by decide) (by omega) (fun c_1 => ?_) (fun c_1 => ?_)
  · skip
    refine lv_iload C.1 C.2.1 dX0_symbolsOf_42 (lv_at hl 4 rfl) ?_
    exact z_iret C hr hlk wd (by rw [h13_1, show k = oo by omega]) dX0_symbolsOf_44
  · skip
    refine z_iconst C dX0_symbolsOf_22 ?_
    refine lv_iload C.1 C.2.1 dX0_symbolsOf_23 (lv_at hl 4 rfl) ?_
    refine z_imul C dX0_symbolsOf_25 ?_
    refine lv_aload_n C.1 C.2.1 dX0_symbolsOf_26 rfl (lv_at hl 0 rfl) ?_
    refine lv_iload C.1 C.2.1 dX0_symbolsOf_27 (lv_at hl 5 rfl) ?_
    refine lv_iload_n C.1 C.2.1 dX0_symbolsOf_29 rfl (lv_at hl 3 rfl) ?_
    refine z_cvi C wd hA (As := [.int (iI k), .int (iI (wn mm st b))]) (rest := [.int (iI (2 * x))]) (ws2 := [zO a0 0 [.int (iI mm), .int (iI oo), .ref a1], zA cy a1 3 tp]) (c_X0_symbolOf l D cy cs a0 a1 mm oo tp k (wn mm st b) (by omega) (by omega) (by omega)) (cwV 2 C.2.2.2.2 gX0_symbolsOf_X0_symbolOf rfl rfl rfl (by decide +kernel) ⟨Nat.le_of_ble_eq_true rfl, Nat.le_of_ble_eq_true rfl⟩) [0, 1] rfl rfl rfl ⟨rfl, [], [], 2, rfl, rfl, rfl, by decide +kernel⟩ rfl rfl rfl rfl (Nat.le_of_ble_eq_true rfl) hl.1 dX0_symbolsOf_30 ⟨Nat.zero_le _, Nat.zero_le _⟩ (fun H locs wd => ?_)
    refine z_iadd C dX0_symbolsOf_33 ?_
    refine lv_istore (lv' := [(4, .int (iI ((2 * x) + (sy (tp k) (wn mm st b))))), (0, .ref a0), (1, .int (iI st)), (2, .int (iI b)), (3, .int (iI (wn mm st b))), (5, .int (iI k))]) C.1 C.2.1 dX0_symbolsOf_34 hl (by decide) rfl (fun ls hl => ?_)
    refine z_iinc C (lv' := [(5, .int (iI (k + 1))), (4, .int (iI ((2 * x) + (sy (tp k) (wn mm st b))))), (0, .ref a0), (1, .int (iI st)), (2, .int (iI b)), (3, .int (iI (wn mm st b)))]) hl 5 dX0_symbolsOf_36 rfl (by decide) rfl (fun ls hl => ?_)
    refine z_goto C (tgt := 13) dX0_symbolsOf_39 (by decide) ?_
    exact ih13 ((2 * x) + (sy (tp k) (wn mm st b))) (k + 1) ⟨(by omega), (by have e := nb_at (fun z9 => sy (tp z9) (wn mm st b)) h13_0.1; rw [e, h13_1])⟩ (by omega) H locs _ wd (lv_sub hl [2, 3, 4, 5, 1, 0] rfl)
set_option maxRecDepth 100000 in
set_option maxHeartbeats 4000000 in
theorem c_X0_onesOf (l : Launch) (D : va_G) (cy cs : ClassId) (a0 a1 : Nat) (mm oo : Int) (tp : Int → Int) (st b : Int) (hm : 1 ≤ mm ∧ mm ≤ 5) (ho : 2 ≤ oo ∧ oo ≤ 3) (ht : tpOk tp) (hs : 0 ≤ st ∧ st < p2 mm) (hb : 0 ≤ b ∧ b ≤ 1) : zCi l D (zT cy cs) yX0_onesOf wsX0_onesOf ({ frames := 3, cells := 0, slots := 0, locals := 67 } : Room) [.ref a0, .int (iI st), .int (iI b)] [zO a0 0 [.int (iI mm), .int (iI oo), .ref a1], zA cy a1 3 tp] (sm (fun z9 => sy (tp z9) (wn mm st b)) oo.toNat) [zO a0 0 [.int (iI mm), .int (iI oo), .ref a1], zA cy a1 3 tp] := by
  intro sz
  refine zM_mk (cc := cX0_onesOf) (maxL := 3) (ret := (some .int)) (own := RX0) (Qc := fun sz => va_Qi (fun r (_ : Unit) => r = iI (sm (fun z9 => sy (tp z9) (wn mm st b)) oo.toNat)) (fun _ t => zQ D (zT cy cs) (va_A [zO a0 0 [.int (iI mm), .int (iI oo), .ref a1], zA cy a1 3 tp] sz) [zO a0 0 [.int (iI mm), .int (iI oo), .ref a1], zA cy a1 3 tp] t) (va_A [zO a0 0 [.int (iI mm), .int (iI oo), .ref a1], zA cy a1 3 tp] sz)) (by decide) rfl rfl (Nat.le_of_ble_eq_true rfl) rfl sz ?_
  intro p e s m args below meth c ls C hr hlk hnm hl hsz hA wd
  subst hsz
  have hl : lv_has ls 3 [(0, .ref a0), (1, .int (iI st)), (2, .int (iI b))] := hl
  refine lv_aload_n C.1 C.2.1 dX0_onesOf_0 rfl (lv_at hl 0 rfl) ?_
  refine lv_iload_n C.1 C.2.1 dX0_onesOf_1 rfl (lv_at hl 1 rfl) ?_
  refine lv_iload_n C.1 C.2.1 dX0_onesOf_2 rfl (lv_at hl 2 rfl) ?_
  refine z_cvi C wd hA (As := [.int (iI st), .int (iI b)]) (rest := []) (ws2 := [zO a0 0 [.int (iI mm), .int (iI oo), .ref a1], zA cy a1 3 tp]) (c_X0_symbolsOf l D cy cs a0 a1 mm oo tp st b (by omega) (by omega) (by omega) (by omega) (by omega)) (cwV 2 C.2.2.2.2 gX0_onesOf_X0_symbolsOf rfl rfl rfl (by decide +kernel) ⟨Nat.le_of_ble_eq_true rfl, Nat.le_of_ble_eq_true rfl⟩) [0, 1] rfl rfl rfl ⟨rfl, [], [], 2, rfl, rfl, rfl, by decide +kernel⟩ rfl rfl rfl rfl (Nat.le_of_ble_eq_true rfl) hl.1 dX0_onesOf_3 ⟨Nat.zero_le _, Nat.zero_le _⟩ (fun H locs wd => ?_)
  have hF : ∀ k : Int, 0 ≤ k → k < oo.toNat → 0 ≤ (fun z9 => sy (tp z9) (wn mm st b)) k ∧ (fun z9 => sy (tp z9) (wn mm st b)) k ≤ 1 := fun k _ _ => sy_le _ _
  have hN := nb_le hF (by omega)
  refine z_csi C wd hA (As := [.int (iI (nb (fun z9 => sy (tp z9) (wn mm st b)) oo.toNat))]) (rest := []) (ws2 := [zO a0 0 [.int (iI mm), .int (iI oo), .ref a1], zA cy a1 3 tp]) (c_bitCount l D cy cs (nb (fun z9 => sy (tp z9) (wn mm st b)) oo.toNat) (by omega)) (va_cwS 1 C.2.2.2.2 gX0_onesOf_J6_bitCount_0f7a4 rfl rfl rfl (by decide +kernel) ⟨Nat.le_of_ble_eq_true rfl, Nat.le_of_ble_eq_true rfl⟩) [] rfl rfl rfl ⟨rfl, [0, 1], [zO a0 0 [.int (iI mm), .int (iI oo), .ref a1], zA cy a1 3 tp], 2, rfl, rfl, rfl, by decide +kernel⟩ rfl rfl (Nat.le_of_ble_eq_true rfl) hl.1 dX0_onesOf_6 ⟨Nat.zero_le _, Nat.zero_le _⟩ (fun H locs wd => ?_)
  exact z_iret C hr hlk wd (pop6_nb hF (by omega)) dX0_onesOf_9
set_option maxRecDepth 100000 in
set_option maxHeartbeats 4000000 in
theorem c_X0_priceOf (l : Launch) (D : va_G) (cy cs : ClassId) (a0 a1 a2 n : Nat) (mm oo : Int) (tp f : Int → Int) (st b q : Int) (hm : 1 ≤ mm ∧ mm ≤ 5) (ho : 2 ≤ oo ∧ oo ≤ 3) (ht : tpOk tp) (hf : rwOk f n) (hn : n < 2147483648) (hs : 0 ≤ st ∧ st < p2 mm) (hb : 0 ≤ b ∧ b ≤ 1) (hq : 0 ≤ q ∧ q + oo ≤ n) : zCi l D (zT cy cs) yX0_priceOf wsX0_priceOf ({ frames := 2, cells := 0, slots := 0, locals := 42 } : Room) [.ref a0, .int (iI st), .int (iI b), .ref a2, .int (iI q)] [zO a0 0 [.int (iI mm), .int (iI oo), .ref a1], zA cy a1 3 tp, zA cy a2 n f] (sm (pr1 tp f q (wn mm st b)) oo.toNat) [zO a0 0 [.int (iI mm), .int (iI oo), .ref a1], zA cy a1 3 tp, zA cy a2 n f] := by
  intro sz
  refine zM_mk (cc := cX0_priceOf) (maxL := 9) (ret := (some .int)) (own := RX0) (Qc := fun sz => va_Qi (fun r (_ : Unit) => r = iI (sm (pr1 tp f q (wn mm st b)) oo.toNat)) (fun _ t => zQ D (zT cy cs) (va_A [zO a0 0 [.int (iI mm), .int (iI oo), .ref a1], zA cy a1 3 tp, zA cy a2 n f] sz) [zO a0 0 [.int (iI mm), .int (iI oo), .ref a1], zA cy a1 3 tp, zA cy a2 n f] t) (va_A [zO a0 0 [.int (iI mm), .int (iI oo), .ref a1], zA cy a1 3 tp, zA cy a2 n f] sz)) (by decide) rfl rfl (Nat.le_of_ble_eq_true rfl) rfl sz ?_
  intro p e s m args below meth c ls C hr hlk hnm hl hsz hA wd
  subst hsz
  have hl : lv_has ls 9 [(0, .ref a0), (1, .int (iI st)), (2, .int (iI b)), (3, .ref a2), (4, .int (iI q))] := hl
  have iX0 : ∀ w ∈ u_ws RX0 TX0 3, w ∈ wsX0_priceOf := by decide +kernel
  have L23 := C.2.2.2.2 (.fieldLink RX0 23 "LikelyWalks$Code" "outputs" "I") (by decide +kernel)
  have hw := wn_le hm.1 hm.2 hs.1 hs.2 hb.1 hb.2
  refine lv_aload_n C.1 C.2.1 dX0_priceOf_0 rfl (lv_at hl 0 rfl) ?_
  refine lv_iload_n C.1 C.2.1 dX0_priceOf_1 rfl (lv_at hl 1 rfl) ?_
  refine lv_iload_n C.1 C.2.1 dX0_priceOf_2 rfl (lv_at hl 2 rfl) ?_
  refine z_cvi C wd hA (As := [.int (iI st), .int (iI b)]) (rest := []) (ws2 := [zO a0 0 [.int (iI mm), .int (iI oo), .ref a1], zA cy a1 3 tp, zA cy a2 n f]) (c_X0_windowOf l D cy cs a0 a1 mm oo st b (by omega) (by omega)) (cwV 2 C.2.2.2.2 gX0_priceOf_X0_windowOf rfl rfl rfl (by decide +kernel) ⟨Nat.le_of_ble_eq_true rfl, Nat.le_of_ble_eq_true rfl⟩) [0] rfl rfl rfl ⟨rfl, [1, 2], [zA cy a1 3 tp, zA cy a2 n f], 3, rfl, rfl, rfl, by decide +kernel⟩ rfl rfl rfl rfl (Nat.le_of_ble_eq_true rfl) hl.1 dX0_priceOf_3 ⟨Nat.zero_le _, Nat.zero_le _⟩ (fun H locs wd => ?_)
  refine lv_istore (lv' := [(5, .int (iI (wn mm st b))), (0, .ref a0), (1, .int (iI st)), (2, .int (iI b)), (3, .ref a2), (4, .int (iI q))]) C.1 C.2.1 dX0_priceOf_6 hl (by decide) rfl (fun ls hl => ?_)
  refine z_iconst C dX0_priceOf_8 ?_
  refine lv_istore (lv' := [(6, .int (iI 0)), (5, .int (iI (wn mm st b))), (0, .ref a0), (1, .int (iI st)), (2, .int (iI b)), (3, .ref a2), (4, .int (iI q))]) C.1 C.2.1 dX0_priceOf_9 hl (by decide) rfl (fun ls hl => ?_)
  refine z_iconst C dX0_priceOf_11 ?_
  refine lv_istore (lv' := [(7, .int (iI 0)), (6, .int (iI 0)), (5, .int (iI (wn mm st b))), (0, .ref a0), (1, .int (iI st)), (2, .int (iI b)), (3, .ref a2), (4, .int (iI q))]) C.1 C.2.1 dX0_priceOf_12 hl (by decide) rfl (fun ls hl => ?_)
  refine z_loop2 (P := fun (x : Int) (k : Int) => (0 ≤ k ∧ k ≤ oo) ∧ (x = sm (pr1 tp f q (wn mm st b)) k.toNat)) (mu := fun (x : Int) (k : Int) => (oo - k).toNat) (ws := fun (x : Int) (k : Int) => [zO a0 0 [.int (iI mm), .int (iI oo), .ref a1], zA cy a1 3 tp, zA cy a2 n f]) (lv := fun (x : Int) (k : Int) => [(0, .ref a0), (1, .int (iI st)), (2, .int (iI b)), (3, .ref a2), (4, .int (iI q)), (5, .int (iI (wn mm st b))), (6, .int (iI x)), (7, .int (iI k))]) 0 0 C ⟨(by omega), rfl⟩ wd (lv_sub hl [3, 4, 5, 6, 7, 2, 1, 0] rfl) ?_
  intro x k hP14 ih14 H locs ls wd hl
  obtain ⟨h14_0, h14_1⟩ := hP14
  try dsimp only at h14_0 h14_1
  have wd : Wd D (zT cy cs) _ s.heap s [zO a0 0 [.int (iI mm), .int (iI oo), .ref a1], zA cy a1 3 tp, zA cy a2 n f] H locs := wd
  have hl : lv_has ls 9 [(0, .ref a0), (1, .int (iI st)), (2, .int (iI b)), (3, .ref a2), (4, .int (iI q)), (5, .int (iI (wn mm st b))), (6, .int (iI x)), (7, .int (iI k))] := hl
  refine lv_iload C.1 C.2.1 dX0_priceOf_14 (lv_at hl 7 rfl) ?_
  refine lv_aload_n C.1 C.2.1 dX0_priceOf_16 rfl (lv_at hl 0 rfl) ?_
  refine z_get C wd (Cn := RX0) (TT := TX0) (N := 3) (ci := 0) iX0 0 rfl rfl 1 (by decide) L23 (fun _ h => h) rfl dX0_priceOf_17 ?_
  refine z_icmp_ge C (tgt := 60) dX0_priceOf_20 (by decide) (by omega) (fun c_1 => ?_) (fun c_1 => ?_)
  · skip
    refine lv_iload C.1 C.2.1 dX0_priceOf_60 (lv_at hl 6 rfl) ?_
    exact z_iret C hr hlk wd (by rw [h14_1, show k = oo by omega]) dX0_priceOf_62
  · skip
    refine lv_aload_n C.1 C.2.1 dX0_priceOf_23 rfl (lv_at hl 3 rfl) ?_
    refine lv_iload C.1 C.2.1 dX0_priceOf_24 (lv_at hl 4 rfl) ?_
    refine lv_iload C.1 C.2.1 dX0_priceOf_26 (lv_at hl 7 rfl) ?_
    refine z_iadd C dX0_priceOf_28 ?_
    refine z_iald C wd 2 rfl (by omega) (by omega) dX0_priceOf_29 ?_
    have hfk := hf (q + k) (by omega) (by omega)
    refine lv_istore (lv' := [(8, .int (iI (f (q + k)))), (0, .ref a0), (1, .int (iI st)), (2, .int (iI b)), (3, .ref a2), (4, .int (iI q)), (5, .int (iI (wn mm st b))), (6, .int (iI x)), (7, .int (iI k))]) C.1 C.2.1 dX0_priceOf_30 hl (by decide) rfl (fun ls hl => ?_)
    refine lv_iload C.1 C.2.1 dX0_priceOf_32 (lv_at hl 0 rfl) ?_
    refine z_iconst C dX0_priceOf_34 ?_
    refine z_icmp_eq C (tgt := 54) dX0_priceOf_35 (by decide) (by omega) (fun c_2 => ?_) (fun c_2 => ?_)
    · skip
      refine z_iinc C (lv' := [(7, .int (iI (k + 1))), (8, .int (iI (f (q + k)))), (0, .ref a0), (1, .int (iI st)), (2, .int (iI b)), (3, .ref a2), (4, .int (iI q)), (5, .int (iI (wn mm st b))), (6, .int (iI x))]) hl 8 dX0_priceOf_54 rfl (by decide) rfl (fun ls hl => ?_)
      refine z_goto C (tgt := 14) dX0_priceOf_57 (by decide) ?_
      exact ih14 x (k + 1) ⟨(by omega), (by have e := sm_at (pr1 tp f q (wn mm st b)) h14_0.1; have e2 : pr1 tp f q (wn mm st b) k = if f (q + k) = 2 ∨ f (q + k) = sy (tp k) (wn mm st b) then 0 else 1 := rfl; split at e2 <;> omega)⟩ (by omega) H locs _ wd (lv_sub hl [2, 3, 4, 5, 6, 7, 8, 0] rfl)
    · skip
      refine lv_iload C.1 C.2.1 dX0_priceOf_38 (lv_at hl 0 rfl) ?_
      refine lv_aload_n C.1 C.2.1 dX0_priceOf_40 rfl (lv_at hl 1 rfl) ?_
      refine lv_iload C.1 C.2.1 dX0_priceOf_41 (lv_at hl 8 rfl) ?_
      refine lv_iload C.1 C.2.1 dX0_priceOf_43 (lv_at hl 6 rfl) ?_
      refine z_cvi C wd hA (As := [.int (iI k), .int (iI (wn mm st b))]) (rest := [.int (iI (f (q + k)))]) (ws2 := [zO a0 0 [.int (iI mm), .int (iI oo), .ref a1], zA cy a1 3 tp, zA cy a2 n f]) (c_X0_symbolOf l D cy cs a0 a1 mm oo tp k (wn mm st b) (by omega) (by omega) (by omega)) (cwV 2 C.2.2.2.2 gX0_priceOf_X0_symbolOf rfl rfl rfl (by decide +kernel) ⟨Nat.le_of_ble_eq_true rfl, Nat.le_of_ble_eq_true rfl⟩) [0, 1] rfl rfl rfl ⟨rfl, [2], [zA cy a2 n f], 3, rfl, rfl, rfl, by decide +kernel⟩ rfl rfl rfl rfl (Nat.le_of_ble_eq_true rfl) hl.1 dX0_priceOf_45 ⟨Nat.zero_le _, Nat.zero_le _⟩ (fun H locs wd => ?_)
      have hsy := sy_le (tp k) (wn mm st b)
      refine z_icmp_eq C (tgt := 54) dX0_priceOf_48 (by decide) (by omega) (fun c_3 => ?_) (fun c_3 => ?_)
      · skip
        refine z_iinc C (lv' := [(7, .int (iI (k + 1))), (8, .int (iI (f (q + k)))), (0, .ref a0), (1, .int (iI st)), (2, .int (iI b)), (3, .ref a2), (4, .int (iI q)), (5, .int (iI (wn mm st b))), (6, .int (iI x))]) hl 8 dX0_priceOf_54 rfl (by decide) rfl (fun ls hl => ?_)
        refine z_goto C (tgt := 14) dX0_priceOf_57 (by decide) ?_
        exact ih14 x (k + 1) ⟨(by omega), (by have e := sm_at (pr1 tp f q (wn mm st b)) h14_0.1; have e2 : pr1 tp f q (wn mm st b) k = if f (q + k) = 2 ∨ f (q + k) = sy (tp k) (wn mm st b) then 0 else 1 := rfl; split at e2 <;> omega)⟩ (by omega) H locs _ wd (lv_sub hl [2, 3, 4, 5, 6, 7, 8, 0] rfl)
      · skip
        refine z_iinc C (lv' := [(6, .int (iI (x + 1))), (8, .int (iI (f (q + k)))), (0, .ref a0), (1, .int (iI st)), (2, .int (iI b)), (3, .ref a2), (4, .int (iI q)), (5, .int (iI (wn mm st b))), (7, .int (iI k))]) hl 7 dX0_priceOf_51 rfl (by decide) rfl (fun ls hl => ?_)
        refine z_iinc C (lv' := [(7, .int (iI (k + 1))), (6, .int (iI (x + 1))), (8, .int (iI (f (q + k)))), (0, .ref a0), (1, .int (iI st)), (2, .int (iI b)), (3, .ref a2), (4, .int (iI q)), (5, .int (iI (wn mm st b)))]) hl 8 dX0_priceOf_54 rfl (by decide) rfl (fun ls hl => ?_)
        refine z_goto C (tgt := 14) dX0_priceOf_57 (by decide) ?_
        exact ih14 (x + 1) (k + 1) ⟨(by omega), (by have e := sm_at (pr1 tp f q (wn mm st b)) h14_0.1; have e2 : pr1 tp f q (wn mm st b) k = if f (q + k) = 2 ∨ f (q + k) = sy (tp k) (wn mm st b) then 0 else 1 := rfl; split at e2 <;> omega)⟩ (by omega) H locs _ wd (lv_sub hl [3, 4, 5, 6, 7, 8, 1, 0] rfl)
