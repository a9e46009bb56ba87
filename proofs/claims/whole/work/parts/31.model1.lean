set_option maxRecDepth 100000 in
set_option maxHeartbeats 4000000 in
theorem c_X6_in (l : Launch) (D : va_G) (cy cs : ClassId) (v a b : Int) (hv : -2147483648 ≤ v ∧ v < 2147483648) (ha : -2147483648 ≤ a ∧ a < 2147483648) (hb : -2147483648 ≤ b ∧ b < 2147483648) : zCi l D (zT cy cs) yX6_in wsX6_in ({ frames := 0, cells := 0, slots := 0, locals := 0 } : Room) [.int (iI v), .int (iI a), .int (iI b)] [] (bI (a ≤ v ∧ v ≤ b)) [] := by
  intro sz
  refine zM_mk (cc := cX6_in) (maxL := 3) (ret := (some .boolean)) (own := RX6) (Qc := fun sz => va_Qi (fun r (_ : Unit) => r = iI (bI (a ≤ v ∧ v ≤ b))) (fun _ t => zQ D (zT cy cs) (va_A [] sz) [] t) (va_A [] sz)) (by decide) rfl rfl (Nat.le_of_ble_eq_true rfl) rfl sz ?_
  intro p e s m args below meth c ls C hr hlk hnm hl hsz hA wd
  subst hsz
  have hl : lv_has ls 3 [(0, .int (iI v)), (1, .int (iI a)), (2, .int (iI b))] := hl
  refine lv_iload_n C.1 C.2.1 dX6_in_0 rfl (lv_at hl 0 rfl) ?_
  refine lv_iload_n C.1 C.2.1 dX6_in_1 rfl (lv_at hl 1 rfl) ?_
  refine z_icmp_lt C (tgt := 14) dX6_in_2 (by decide) (by omega) (fun c_1 => ?_) (fun c_1 => ?_)
  · skip
    refine z_iconst C dX6_in_14 ?_
    exact z_zret C hr hlk (by omega) wd (by first | rfl | exact (bI_t (by omega)).symm | exact (bI_f (by omega)).symm) dX6_in_15
  · skip
    refine lv_iload_n C.1 C.2.1 dX6_in_5 rfl (lv_at hl 0 rfl) ?_
    refine lv_iload_n C.1 C.2.1 dX6_in_6 rfl (lv_at hl 2 rfl) ?_
    refine z_icmp_gt C (tgt := 14) dX6_in_7 (by decide) (by omega) (fun c_2 => ?_) (fun c_2 => ?_)
    · skip
      refine z_iconst C dX6_in_14 ?_
      exact z_zret C hr hlk (by omega) wd (by first | rfl | exact (bI_t (by omega)).symm | exact (bI_f (by omega)).symm) dX6_in_15
    · skip
      refine z_iconst C dX6_in_10 ?_
      refine z_goto C (tgt := 15) dX6_in_11 (by decide) ?_
      exact z_zret C hr hlk (by omega) wd (by first | rfl | exact (bI_t (by omega)).symm | exact (bI_f (by omega)).symm) dX6_in_15
set_option maxRecDepth 100000 in
set_option maxHeartbeats 4000000 in
theorem c_X6_registers (l : Launch) (D : va_G) (cy cs : ClassId) (m0 m1 m2 m3 m4 m5 m6 m7 m8 : Nat) (st iss ty : Int) (M : Int → Int) (hm : 1 ≤ M 0 ∧ M 0 ≤ 5) : zCi l D (zT cy cs) yX6_registers wsX6_registers ({ frames := 0, cells := 0, slots := 0, locals := 0 } : Room) [.ref m0] [zO m0 6 [.ref m1, .ref m2, .int (iI st), .ref m3, .int (iI iss), .ref m4, .int (iI ty), .ref m5, .ref m6, .ref m7, .ref m8], zA cy m1 780 M] (p2 (M 0)) [zO m0 6 [.ref m1, .ref m2, .int (iI st), .ref m3, .int (iI iss), .ref m4, .int (iI ty), .ref m5, .ref m6, .ref m7, .ref m8], zA cy m1 780 M] := by
  intro sz
  refine zM_mk (cc := cX6_registers) (maxL := 1) (ret := (some .int)) (own := RX6) (Qc := fun sz => va_Qi (fun r (_ : Unit) => r = iI (p2 (M 0))) (fun _ t => zQ D (zT cy cs) (va_A [zO m0 6 [.ref m1, .ref m2, .int (iI st), .ref m3, .int (iI iss), .ref m4, .int (iI ty), .ref m5, .ref m6, .ref m7, .ref m8], zA cy m1 780 M] sz) [zO m0 6 [.ref m1, .ref m2, .int (iI st), .ref m3, .int (iI iss), .ref m4, .int (iI ty), .ref m5, .ref m6, .ref m7, .ref m8], zA cy m1 780 M] t) (va_A [zO m0 6 [.ref m1, .ref m2, .int (iI st), .ref m3, .int (iI iss), .ref m4, .int (iI ty), .ref m5, .ref m6, .ref m7, .ref m8], zA cy m1 780 M] sz)) (by decide) rfl rfl (Nat.le_of_ble_eq_true rfl) rfl sz ?_
  intro p e s m args below meth c ls C hr hlk hnm hl hsz hA wd
  subst hsz
  have hl : lv_has ls 1 [(0, .ref m0)] := hl
  have iX6 : ∀ w ∈ u_ws RX6 TX6 11, w ∈ wsX6_registers := by decide +kernel
  have L7 := C.2.2.2.2 (.fieldLink RX6 7 "LikelyWalksModel" "now" "[I") (by decide +kernel)
  refine z_iconst C dX6_registers_0 ?_
  refine lv_aload_n C.1 C.2.1 dX6_registers_1 rfl (lv_at hl 0 rfl) ?_
  refine z_get C wd (Cn := RX6) (TT := TX6) (N := 11) (ci := 6) iX6 0 rfl rfl 0 (by decide) L7 (fun _ h => h) rfl dX6_registers_2 ?_
  refine z_iconst C dX6_registers_5 ?_
  refine z_iald C wd 1 rfl (by omega) (by decide) dX6_registers_6 ?_
  refine z_ishl C (p2 (M 0)) dX6_registers_7 (iI_1shl hm.1 hm.2) ?_
  exact z_iret C hr hlk wd (by first | rfl | omega) dX6_registers_8
set_option maxRecDepth 100000 in
set_option maxHeartbeats 4000000 in
theorem c_X6_window (l : Launch) (D : va_G) (cy cs : ClassId) (m0 m1 m2 m3 m4 m5 m6 m7 m8 : Nat) (st iss ty : Int) (M : Int → Int) (rg b : Int) (hm : 1 ≤ M 0 ∧ M 0 ≤ 5) : zCi l D (zT cy cs) yX6_window wsX6_window ({ frames := 1, cells := 0, slots := 0, locals := 20 } : Room) [.ref m0, .int (iI rg), .int (iI b)] [zO m0 6 [.ref m1, .ref m2, .int (iI st), .ref m3, .int (iI iss), .ref m4, .int (iI ty), .ref m5, .ref m6, .ref m7, .ref m8], zA cy m1 780 M] (wn (M 0) rg b) [zO m0 6 [.ref m1, .ref m2, .int (iI st), .ref m3, .int (iI iss), .ref m4, .int (iI ty), .ref m5, .ref m6, .ref m7, .ref m8], zA cy m1 780 M] := by
  intro sz
  refine zM_mk (cc := cX6_window) (maxL := 3) (ret := (some .int)) (own := RX6) (Qc := fun sz => va_Qi (fun r (_ : Unit) => r = iI (wn (M 0) rg b)) (fun _ t => zQ D (zT cy cs) (va_A [zO m0 6 [.ref m1, .ref m2, .int (iI st), .ref m3, .int (iI iss), .ref m4, .int (iI ty), .ref m5, .ref m6, .ref m7, .ref m8], zA cy m1 780 M] sz) [zO m0 6 [.ref m1, .ref m2, .int (iI st), .ref m3, .int (iI iss), .ref m4, .int (iI ty), .ref m5, .ref m6, .ref m7, .ref m8], zA cy m1 780 M] t) (va_A [zO m0 6 [.ref m1, .ref m2, .int (iI st), .ref m3, .int (iI iss), .ref m4, .int (iI ty), .ref m5, .ref m6, .ref m7, .ref m8], zA cy m1 780 M] sz)) (by decide) rfl rfl (Nat.le_of_ble_eq_true rfl) rfl sz ?_
  intro p e s m args below meth c ls C hr hlk hnm hl hsz hA wd
  subst hsz
  have hl : lv_has ls 3 [(0, .ref m0), (1, .int (iI rg)), (2, .int (iI b))] := hl
  refine lv_iload_n C.1 C.2.1 dX6_window_0 rfl (lv_at hl 2 rfl) ?_
  refine lv_aload_n C.1 C.2.1 dX6_window_1 rfl (lv_at hl 0 rfl) ?_
  refine z_cvi C wd hA (As := []) (rest := [.int (iI b)]) (ws2 := [zO m0 6 [.ref m1, .ref m2, .int (iI st), .ref m3, .int (iI iss), .ref m4, .int (iI ty), .ref m5, .ref m6, .ref m7, .ref m8], zA cy m1 780 M]) (c_X6_registers l D cy cs m0 m1 m2 m3 m4 m5 m6 m7 m8 st iss ty M (by omega)) (cwV 0 C.2.2.2.2 gX6_window_X6_registers rfl rfl rfl (by decide +kernel) ⟨Nat.le_of_ble_eq_true rfl, Nat.le_of_ble_eq_true rfl⟩) [0, 1] rfl rfl rfl ⟨rfl, [], [], 2, rfl, rfl, rfl, by decide +kernel⟩ rfl rfl rfl rfl (Nat.le_of_ble_eq_true rfl) hl.1 dX6_window_2 ⟨Nat.zero_le _, Nat.zero_le _⟩ (fun H locs wd => ?_)
  refine z_imul C dX6_window_5 ?_
  refine lv_iload_n C.1 C.2.1 dX6_window_6 rfl (lv_at hl 1 rfl) ?_
  refine z_iadd C dX6_window_7 ?_
  exact z_iret C hr hlk wd rfl dX6_window_8
set_option maxRecDepth 100000 in
set_option maxHeartbeats 4000000 in
theorem c_X6_symbol (l : Launch) (D : va_G) (cy cs : ClassId) (m0 m1 m2 m3 m4 m5 m6 m7 m8 : Nat) (st iss ty : Int) (M : Int → Int) (o v : Int) (ho : 0 ≤ o ∧ o < 3) (hv : 0 ≤ v ∧ v < 64) (htp : 0 ≤ M (2 + o) ∧ M (2 + o) < 64) : zCi l D (zT cy cs) yX6_symbol wsX6_symbol ({ frames := 0, cells := 0, slots := 0, locals := 0 } : Room) [.ref m0, .int (iI o), .int (iI v)] [zO m0 6 [.ref m1, .ref m2, .int (iI st), .ref m3, .int (iI iss), .ref m4, .int (iI ty), .ref m5, .ref m6, .ref m7, .ref m8], zA cy m1 780 M] (sy (M (2 + o)) v) [zO m0 6 [.ref m1, .ref m2, .int (iI st), .ref m3, .int (iI iss), .ref m4, .int (iI ty), .ref m5, .ref m6, .ref m7, .ref m8], zA cy m1 780 M] := by
  intro sz
  refine zM_mk (cc := cX6_symbol) (maxL := 5) (ret := (some .int)) (own := RX6) (Qc := fun sz => va_Qi (fun r (_ : Unit) => r = iI (sy (M (2 + o)) v)) (fun _ t => zQ D (zT cy cs) (va_A [zO m0 6 [.ref m1, .ref m2, .int (iI st), .ref m3, .int (iI iss), .ref m4, .int (iI ty), .ref m5, .ref m6, .ref m7, .ref m8], zA cy m1 780 M] sz) [zO m0 6 [.ref m1, .ref m2, .int (iI st), .ref m3, .int (iI iss), .ref m4, .int (iI ty), .ref m5, .ref m6, .ref m7, .ref m8], zA cy m1 780 M] t) (va_A [zO m0 6 [.ref m1, .ref m2, .int (iI st), .ref m3, .int (iI iss), .ref m4, .int (iI ty), .ref m5, .ref m6, .ref m7, .ref m8], zA cy m1 780 M] sz)) (by decide) rfl rfl (Nat.le_of_ble_eq_true rfl) rfl sz ?_
  intro p e s m args below meth c ls C hr hlk hnm hl hsz hA wd
  subst hsz
  have hl : lv_has ls 5 [(0, .ref m0), (1, .int (iI o)), (2, .int (iI v))] := hl
  have iX6 : ∀ w ∈ u_ws RX6 TX6 11, w ∈ wsX6_symbol := by decide +kernel
  have L7 := C.2.2.2.2 (.fieldLink RX6 7 "LikelyWalksModel" "now" "[I") (by decide +kernel)
  have hl6 := land_lt (b := v) htp.1 htp.2
  refine lv_aload_n C.1 C.2.1 dX6_symbol_0 rfl (lv_at hl 0 rfl) ?_
  refine z_get C wd (Cn := RX6) (TT := TX6) (N := 11) (ci := 6) iX6 0 rfl rfl 0 (by decide) L7 (fun _ h => h) rfl dX6_symbol_1 ?_
  refine z_iconst C dX6_symbol_4 ?_
  refine lv_iload_n C.1 C.2.1 dX6_symbol_5 rfl (lv_at hl 1 rfl) ?_
  refine z_iadd C dX6_symbol_6 ?_
  refine z_iald C wd 1 rfl (by omega) (by decide) dX6_symbol_7 ?_
  refine lv_iload_n C.1 C.2.1 dX6_symbol_8 rfl (lv_at hl 2 rfl) ?_
  refine z_iand C (((M (2 + o)).toNat &&& (v).toNat : Nat) : Int) dX6_symbol_9 (iI_land (by omega) (by omega)) ?_
  refine lv_istore_n (lv' := [(3, .int (iI (((M (2 + o)).toNat &&& (v).toNat : Nat) : Int))), (0, .ref m0), (1, .int (iI o)), (2, .int (iI v))]) C.1 C.2.1 dX6_symbol_10 rfl hl (by decide) rfl (fun ls hl => ?_)
  refine z_iconst C dX6_symbol_11 ?_
  refine lv_istore (lv' := [(4, .int (iI 0)), (3, .int (iI (((M (2 + o)).toNat &&& (v).toNat : Nat) : Int))), (0, .ref m0), (1, .int (iI o)), (2, .int (iI v))]) C.1 C.2.1 dX6_symbol_12 hl (by decide) rfl (fun ls hl => ?_)
  refine z_loop2 (P := fun (x : Int) (y : Int) => (0 ≤ x ∧ x < 64) ∧ (0 ≤ y ∧ y ≤ 1) ∧ ((y + par6 x.toNat) % 2 = sy (M (2 + o)) v)) (mu := fun (x : Int) (y : Int) => x.toNat) (ws := fun (x : Int) (y : Int) => [zO m0 6 [.ref m1, .ref m2, .int (iI st), .ref m3, .int (iI iss), .ref m4, .int (iI ty), .ref m5, .ref m6, .ref m7, .ref m8], zA cy m1 780 M]) (lv := fun (x : Int) (y : Int) => [(0, .ref m0), (1, .int (iI o)), (2, .int (iI v)), (3, .int (iI x)), (4, .int (iI y))]) (((M (2 + o)).toNat &&& (v).toNat : Nat) : Int) 0 C ⟨⟨Int.natCast_nonneg _, by omega⟩, (by omega), (by rw [Int.toNat_natCast]; have e := sy_le (M (2 + o)) v; unfold sy at e ⊢; omega)⟩ wd (lv_sub hl [2, 3, 4, 1, 0] rfl) ?_
  intro x y hP14 ih14 H locs ls wd hl
  obtain ⟨h14_0, h14_1, h14_2⟩ := hP14
  try dsimp only at h14_0 h14_1 h14_2
  have wd : Wd D (zT cy cs) _ s.heap s [zO m0 6 [.ref m1, .ref m2, .int (iI st), .ref m3, .int (iI iss), .ref m4, .int (iI ty), .ref m5, .ref m6, .ref m7, .ref m8], zA cy m1 780 M] H locs := wd
  have hl : lv_has ls 5 [(0, .ref m0), (1, .int (iI o)), (2, .int (iI v)), (3, .int (iI x)), (4, .int (iI y))] := hl
  refine lv_iload_n C.1 C.2.1 dX6_symbol_14 rfl (lv_at hl 3 rfl) ?_
  refine z_if_le C (tgt := 33) dX6_symbol_15 (by decide) (by omega) (fun c_1 => ?_) (fun c_1 => ?_)
  · skip
    refine lv_iload C.1 C.2.1 dX6_symbol_33 (lv_at hl 4 rfl) ?_
    exact z_iret C hr hlk wd (by have e2 : par6 x.toNat = 0 := (by rw [show x = 0 by omega]; rfl); omega) dX6_symbol_35
  · skip
    refine lv_iload C.1 C.2.1 dX6_symbol_18 (lv_at hl 4 rfl) ?_
    refine lv_iload_n C.1 C.2.1 dX6_symbol_20 rfl (lv_at hl 3 rfl) ?_
    refine z_iconst C dX6_symbol_21 ?_
    refine z_iand C (x % 2) dX6_symbol_22 (iI_and1 (by omega) (by omega)) ?_
    refine z_ixor C ((y + x % 2) % 2) dX6_symbol_23 (iI_xor1 (by omega) (by omega)) ?_
    refine lv_istore (lv' := [(4, .int (iI ((y + x % 2) % 2))), (0, .ref m0), (1, .int (iI o)), (2, .int (iI v)), (3, .int (iI x))]) C.1 C.2.1 dX6_symbol_24 hl (by decide) rfl (fun ls hl => ?_)
    refine lv_iload_n C.1 C.2.1 dX6_symbol_26 rfl (lv_at hl 4 rfl) ?_
    refine z_iconst C dX6_symbol_27 ?_
    refine z_idiv C dX6_symbol_28 (by omega) ?_
    refine lv_istore_n (lv' := [(3, .int (iI (x / 2))), (4, .int (iI ((y + x % 2) % 2))), (0, .ref m0), (1, .int (iI o)), (2, .int (iI v))]) C.1 C.2.1 dX6_symbol_29 rfl hl (by decide) rfl (fun ls hl => ?_)
    refine z_goto C (tgt := 14) dX6_symbol_30 (by decide) ?_
    exact ih14 (x / 2) ((y + x % 2) % 2) ⟨(by omega), (by omega), (by have e := par6_half h14_0.1 h14_0.2; omega)⟩ (by omega) H locs _ wd (lv_sub hl [2, 3, 4, 0, 1] rfl)
set_option maxRecDepth 100000 in
set_option maxHeartbeats 4000000 in
theorem c_X6_ones (l : Launch) (D : va_G) (cy cs : ClassId) (m0 m1 m2 m3 m4 m5 m6 m7 m8 : Nat) (st iss ty : Int) (M : Int → Int) (v : Int) (ho : 2 ≤ M 1 ∧ M 1 ≤ 3) (ht : tpOk (sl M 2)) (hv : 0 ≤ v ∧ v < 64) : zCi l D (zT cy cs) yX6_ones wsX6_ones ({ frames := 1, cells := 0, slots := 0, locals := 24 } : Room) [.ref m0, .int (iI v)] [zO m0 6 [.ref m1, .ref m2, .int (iI st), .ref m3, .int (iI iss), .ref m4, .int (iI ty), .ref m5, .ref m6, .ref m7, .ref m8], zA cy m1 780 M] (sm (fun z9 => sy (sl M 2 z9) v) (M 1).toNat) [zO m0 6 [.ref m1, .ref m2, .int (iI st), .ref m3, .int (iI iss), .ref m4, .int (iI ty), .ref m5, .ref m6, .ref m7, .ref m8], zA cy m1 780 M] := by
  intro sz
  refine zM_mk (cc := cX6_ones) (maxL := 4) (ret := (some .int)) (own := RX6) (Qc := fun sz => va_Qi (fun r (_ : Unit) => r = iI (sm (fun z9 => sy (sl M 2 z9) v) (M 1).toNat)) (fun _ t => zQ D (zT cy cs) (va_A [zO m0 6 [.ref m1, .ref m2, .int (iI st), .ref m3, .int (iI iss), .ref m4, .int (iI ty), .ref m5, .ref m6, .ref m7, .ref m8], zA cy m1 780 M] sz) [zO m0 6 [.ref m1, .ref m2, .int (iI st), .ref m3, .int (iI iss), .ref m4, .int (iI ty), .ref m5, .ref m6, .ref m7, .ref m8], zA cy m1 780 M] t) (va_A [zO m0 6 [.ref m1, .ref m2, .int (iI st), .ref m3, .int (iI iss), .ref m4, .int (iI ty), .ref m5, .ref m6, .ref m7, .ref m8], zA cy m1 780 M] sz)) (by decide) rfl rfl (Nat.le_of_ble_eq_true rfl) rfl sz ?_
  intro p e s m args below meth c ls C hr hlk hnm hl hsz hA wd
  subst hsz
  have hl : lv_has ls 4 [(0, .ref m0), (1, .int (iI v))] := hl
  have iX6 : ∀ w ∈ u_ws RX6 TX6 11, w ∈ wsX6_ones := by decide +kernel
  have L7 := C.2.2.2.2 (.fieldLink RX6 7 "LikelyWalksModel" "now" "[I") (by decide +kernel)
  refine z_iconst C dX6_ones_0 ?_
  refine lv_istore_n (lv' := [(2, .int (iI 0)), (0, .ref m0), (1, .int (iI v))]) C.1 C.2.1 dX6_ones_1 rfl hl (by decide) rfl (fun ls hl => ?_)
  refine z_iconst C dX6_ones_2 ?_
  refine lv_istore_n (lv' := [(3, .int (iI 0)), (2, .int (iI 0)), (0, .ref m0), (1, .int (iI v))]) C.1 C.2.1 dX6_ones_3 rfl hl (by decide) rfl (fun ls hl => ?_)
  refine z_loop2 (P := fun (x : Int) (k : Int) => (0 ≤ k ∧ k ≤ M 1) ∧ (x = sm (fun z9 => sy (sl M 2 z9) v) k.toNat)) (mu := fun (x : Int) (k : Int) => (M 1 - k).toNat) (ws := fun (x : Int) (k : Int) => [zO m0 6 [.ref m1, .ref m2, .int (iI st), .ref m3, .int (iI iss), .ref m4, .int (iI ty), .ref m5, .ref m6, .ref m7, .ref m8], zA cy m1 780 M]) (lv := fun (x : Int) (k : Int) => [(0, .ref m0), (1, .int (iI v)), (2, .int (iI x)), (3, .int (iI k))]) 0 0 C ⟨(by omega), rfl⟩ wd (lv_sub hl [2, 3, 1, 0] rfl) ?_
  intro x k hP4 ih4 H locs ls wd hl
  obtain ⟨h4_0, h4_1⟩ := hP4
  try dsimp only at h4_0 h4_1
  have wd : Wd D (zT cy cs) _ s.heap s [zO m0 6 [.ref m1, .ref m2, .int (iI st), .ref m3, .int (iI iss), .ref m4, .int (iI ty), .ref m5, .ref m6, .ref m7, .ref m8], zA cy m1 780 M] H locs := wd
  have hl : lv_has ls 4 [(0, .ref m0), (1, .int (iI v)), (2, .int (iI x)), (3, .int (iI k))] := hl
  refine lv_iload_n C.1 C.2.1 dX6_ones_4 rfl (lv_at hl 3 rfl) ?_
  refine lv_aload_n C.1 C.2.1 dX6_ones_5 rfl (lv_at hl 0 rfl) ?_
  refine z_get C wd (Cn := RX6) (TT := TX6) (N := 11) (ci := 6) iX6 0 rfl rfl 0 (by decide) L7 (fun _ h => h) rfl dX6_ones_6 ?_
  refine z_iconst C dX6_ones_9 ?_
  refine z_iald C wd 1 rfl (by omega) (by decide) dX6_ones_10 ?_
  refine z_icmp_ge C (tgt := 29) dX6_ones_11 (by decide) (by omega) (fun c_1 => ?_) (fun c_1 => ?_)
  · skip
    refine lv_iload_n C.1 C.2.1 dX6_ones_29 rfl (lv_at hl 2 rfl) ?_
    exact z_iret C hr hlk wd (by rw [h4_1, show k = M 1 by omega]) dX6_ones_30
  · skip
    have htk : 0 ≤ M (2 + k) ∧ M (2 + k) < 64 := ht k h4_0.1 (by omega)
    refine lv_iload_n C.1 C.2.1 dX6_ones_14 rfl (lv_at hl 2 rfl) ?_
    refine lv_aload_n C.1 C.2.1 dX6_ones_15 rfl (lv_at hl 0 rfl) ?_
    refine lv_iload_n C.1 C.2.1 dX6_ones_16 rfl (lv_at hl 3 rfl) ?_
    refine lv_iload_n C.1 C.2.1 dX6_ones_17 rfl (lv_at hl 1 rfl) ?_
    refine z_cvi C wd hA (As := [.int (iI k), .int (iI v)]) (rest := [.int (iI x)]) (ws2 := [zO m0 6 [.ref m1, .ref m2, .int (iI st), .ref m3, .int (iI iss), .ref m4, .int (iI ty), .ref m5, .ref m6, .ref m7, .ref m8], zA cy m1 780 M]) (c_X6_symbol l D cy cs m0 m1 m2 m3 m4 m5 m6 m7 m8 st iss ty M k v (by omega) (by omega) (by omega)) (cwV 2 C.2.2.2.2 gX6_ones_X6_symbol rfl rfl rfl (by decide +kernel) ⟨Nat.le_of_ble_eq_true rfl, Nat.le_of_ble_eq_true rfl⟩) [0, 1] rfl rfl rfl ⟨rfl, [], [], 2, rfl, rfl, rfl, by decide +kernel⟩ rfl rfl rfl rfl (Nat.le_of_ble_eq_true rfl) hl.1 dX6_ones_18 ⟨Nat.zero_le _, Nat.zero_le _⟩ (fun H locs wd => ?_)
    refine z_iadd C dX6_ones_21 ?_
    refine lv_istore_n (lv' := [(2, .int (iI (x + (sy (M (2 + k)) v)))), (0, .ref m0), (1, .int (iI v)), (3, .int (iI k))]) C.1 C.2.1 dX6_ones_22 rfl hl (by decide) rfl (fun ls hl => ?_)
    refine z_iinc C (lv' := [(3, .int (iI (k + 1))), (2, .int (iI (x + (sy (M (2 + k)) v)))), (0, .ref m0), (1, .int (iI v))]) hl 3 dX6_ones_23 rfl (by decide) rfl (fun ls hl => ?_)
    refine z_goto C (tgt := 4) dX6_ones_26 (by decide) ?_
    exact ih4 (x + (sy (M (2 + k)) v)) (k + 1) ⟨(by omega), (sm_one h4_0.1 h4_1 rfl)⟩ (by omega) H locs _ wd (lv_sub hl [2, 3, 1, 0] rfl)
set_option maxRecDepth 100000 in
set_option maxHeartbeats 4000000 in
theorem c_X6_clearReader (l : Launch) (D : va_G) (cy cs : ClassId) (m0 m1 m2 m3 m4 m5 m6 m7 m8 : Nat) (st iss ty : Int) (M : Int → Int)  : zCv l D (zT cy cs) yX6_clearReader wsX6_clearReader ({ frames := 0, cells := 0, slots := 0, locals := 0 } : Room) [.ref m0] [zO m0 6 [.ref m1, .ref m2, .int (iI st), .ref m3, .int (iI iss), .ref m4, .int (iI ty), .ref m5, .ref m6, .ref m7, .ref m8], zA cy m1 780 M] [zO m0 6 [.ref m1, .ref m2, .int (iI st), .ref m3, .int (iI iss), .ref m4, .int (iI ty), .ref m5, .ref m6, .ref m7, .ref m8], zA cy m1 780 (clR M)] := by
  intro sz
  refine zM_mk (cc := cX6_clearReader) (maxL := 2) (ret := none) (own := RX6) (Qc := fun sz => va_Qv (fun (_ : Unit) => True) (fun _ t => zQ D (zT cy cs) (va_A [zO m0 6 [.ref m1, .ref m2, .int (iI st), .ref m3, .int (iI iss), .ref m4, .int (iI ty), .ref m5, .ref m6, .ref m7, .ref m8], zA cy m1 780 M] sz) [zO m0 6 [.ref m1, .ref m2, .int (iI st), .ref m3, .int (iI iss), .ref m4, .int (iI ty), .ref m5, .ref m6, .ref m7, .ref m8], zA cy m1 780 (clR M)] t) (va_A [zO m0 6 [.ref m1, .ref m2, .int (iI st), .ref m3, .int (iI iss), .ref m4, .int (iI ty), .ref m5, .ref m6, .ref m7, .ref m8], zA cy m1 780 M] sz)) (by decide) rfl rfl (Nat.le_of_ble_eq_true rfl) rfl sz ?_
  intro p e s m args below meth c ls C hr hlk hnm hl hsz hA wd
  subst hsz
  have hl : lv_has ls 2 [(0, .ref m0)] := hl
  have iX6 : ∀ w ∈ u_ws RX6 TX6 11, w ∈ wsX6_clearReader := by decide +kernel
  have L7 := C.2.2.2.2 (.fieldLink RX6 7 "LikelyWalksModel" "now" "[I") (by decide +kernel)
  refine lv_aload_n C.1 C.2.1 dX6_clearReader_0 rfl (lv_at hl 0 rfl) ?_
  refine z_get C wd (Cn := RX6) (TT := TX6) (N := 11) (ci := 6) iX6 0 rfl rfl 0 (by decide) L7 (fun _ h => h) rfl dX6_clearReader_1 ?_
  refine z_bipush C dX6_clearReader_4 (by decide +kernel) ?_
  refine z_iconst C dX6_clearReader_6 ?_
  refine z_iast C wd (ws2 := [zO m0 6 [.ref m1, .ref m2, .int (iI st), .ref m3, .int (iI iss), .ref m4, .int (iI ty), .ref m5, .ref m6, .ref m7, .ref m8], zA cy m1 780 (uZ M 8 0)]) 1 rfl (by omega) (by decide) rfl dX6_clearReader_7 (fun H locs wd => ?_)
  refine lv_aload_n C.1 C.2.1 dX6_clearReader_8 rfl (lv_at hl 0 rfl) ?_
  refine z_get C wd (Cn := RX6) (TT := TX6) (N := 11) (ci := 6) iX6 0 rfl rfl 0 (by decide) L7 (fun _ h => h) rfl dX6_clearReader_9 ?_
  refine z_bipush C dX6_clearReader_12 (by decide +kernel) ?_
  refine z_iconst C dX6_clearReader_14 ?_
  refine z_iast C wd (ws2 := [zO m0 6 [.ref m1, .ref m2, .int (iI st), .ref m3, .int (iI iss), .ref m4, .int (iI ty), .ref m5, .ref m6, .ref m7, .ref m8], zA cy m1 780 (uZ (uZ M 8 0) 9 0)]) 1 rfl (by omega) (by decide) rfl dX6_clearReader_15 (fun H locs wd => ?_)
  refine lv_aload_n C.1 C.2.1 dX6_clearReader_16 rfl (lv_at hl 0 rfl) ?_
  refine z_get C wd (Cn := RX6) (TT := TX6) (N := 11) (ci := 6) iX6 0 rfl rfl 0 (by decide) L7 (fun _ h => h) rfl dX6_clearReader_17 ?_
  refine z_bipush C dX6_clearReader_20 (by decide +kernel) ?_
  refine z_iconst C dX6_clearReader_22 ?_
  refine z_iast C wd (ws2 := [zO m0 6 [.ref m1, .ref m2, .int (iI st), .ref m3, .int (iI iss), .ref m4, .int (iI ty), .ref m5, .ref m6, .ref m7, .ref m8], zA cy m1 780 (uZ (uZ (uZ M 8 0) 9 0) 10 0)]) 1 rfl (by omega) (by decide) rfl dX6_clearReader_23 (fun H locs wd => ?_)
  refine lv_aload_n C.1 C.2.1 dX6_clearReader_24 rfl (lv_at hl 0 rfl) ?_
  refine z_get C wd (Cn := RX6) (TT := TX6) (N := 11) (ci := 6) iX6 0 rfl rfl 0 (by decide) L7 (fun _ h => h) rfl dX6_clearReader_25 ?_
  refine z_bipush C dX6_clearReader_28 (by decide +kernel) ?_
  refine z_iconst C dX6_clearReader_30 ?_
  refine z_iast C wd (ws2 := [zO m0 6 [.ref m1, .ref m2, .int (iI st), .ref m3, .int (iI iss), .ref m4, .int (iI ty), .ref m5, .ref m6, .ref m7, .ref m8], zA cy m1 780 (uZ (uZ (uZ (uZ M 8 0) 9 0) 10 0) 11 0)]) 1 rfl (by omega) (by decide) rfl dX6_clearReader_31 (fun H locs wd => ?_)
  refine z_iconst C dX6_clearReader_32 ?_
  refine lv_istore_n (lv' := [(1, .int (iI 0)), (0, .ref m0)]) C.1 C.2.1 dX6_clearReader_33 rfl hl (by decide) rfl (fun ls hl => ?_)
  refine z_loop2 (P := fun (k : Int) (g : Int → Int) => (0 ≤ k ∧ k ≤ 32) ∧ (g = wrS (uZ (uZ (uZ (uZ M 8 0) 9 0) 10 0) 11 0) 572 k clV)) (mu := fun (k : Int) (g : Int → Int) => (32 - k).toNat) (ws := fun (k : Int) (g : Int → Int) => [zO m0 6 [.ref m1, .ref m2, .int (iI st), .ref m3, .int (iI iss), .ref m4, .int (iI ty), .ref m5, .ref m6, .ref m7, .ref m8], zA cy m1 780 g]) (lv := fun (k : Int) (g : Int → Int) => [(0, .ref m0), (1, .int (iI k))]) 0 (uZ (uZ (uZ (uZ M 8 0) 9 0) 10 0) 11 0) C ⟨(by omega), (wrS_0 _ _ _).symm⟩ wd (lv_sub hl [1, 0] rfl) ?_
  intro k g hP34 ih34 H locs ls wd hl
  obtain ⟨h34_0, h34_1⟩ := hP34
  try dsimp only at h34_0 h34_1
  have wd : Wd D (zT cy cs) _ s.heap s [zO m0 6 [.ref m1, .ref m2, .int (iI st), .ref m3, .int (iI iss), .ref m4, .int (iI ty), .ref m5, .ref m6, .ref m7, .ref m8], zA cy m1 780 g] H locs := wd
  have hl : lv_has ls 2 [(0, .ref m0), (1, .int (iI k))] := hl
  have hcv : clV k = if k = 0 then 0 else -1 := rfl
  refine lv_iload_n C.1 C.2.1 dX6_clearReader_34 rfl (lv_at hl 1 rfl) ?_
  refine z_bipush C dX6_clearReader_35 (by decide +kernel) ?_
  refine z_icmp_ge C (tgt := 65) dX6_clearReader_37 (by decide) (by omega) (fun c_1 => ?_) (fun c_1 => ?_)
  · skip
    refine z_iconst C dX6_clearReader_65 ?_
    refine lv_istore_n (lv' := [(1, .int (iI 0)), (0, .ref m0)]) C.1 C.2.1 dX6_clearReader_66 rfl hl (by decide) rfl (fun ls hl => ?_)
    refine z_loop2 (P := fun (k2 : Int) (g2 : Int → Int) => (0 ≤ k2 ∧ k2 ≤ 96) ∧ (g2 = wrS (wrS (uZ (uZ (uZ (uZ M 8 0) 9 0) 10 0) 11 0) 572 32 clV) 684 k2 (fun _ => 0))) (mu := fun (k2 : Int) (g2 : Int → Int) => (96 - k2).toNat) (ws := fun (k2 : Int) (g2 : Int → Int) => [zO m0 6 [.ref m1, .ref m2, .int (iI st), .ref m3, .int (iI iss), .ref m4, .int (iI ty), .ref m5, .ref m6, .ref m7, .ref m8], zA cy m1 780 g2]) (lv := fun (k2 : Int) (g2 : Int → Int) => [(0, .ref m0), (1, .int (iI k2))]) 0 g C ⟨(by omega), (by rw [wrS_0, h34_1, show k = 32 by omega])⟩ wd (lv_sub hl [1, 0] rfl) ?_
    intro k2 g2 hP67 ih67 H locs ls wd hl
    obtain ⟨h67_0, h67_1⟩ := hP67
    try dsimp only at h67_0 h67_1
    have wd : Wd D (zT cy cs) _ s.heap s [zO m0 6 [.ref m1, .ref m2, .int (iI st), .ref m3, .int (iI iss), .ref m4, .int (iI ty), .ref m5, .ref m6, .ref m7, .ref m8], zA cy m1 780 g2] H locs := wd
    have hl : lv_has ls 2 [(0, .ref m0), (1, .int (iI k2))] := hl
    refine lv_iload_n C.1 C.2.1 dX6_clearReader_67 rfl (lv_at hl 1 rfl) ?_
    refine z_bipush C dX6_clearReader_68 (by decide +kernel) ?_
    refine z_icmp_ge C (tgt := 90) dX6_clearReader_70 (by decide) (by omega) (fun c_2 => ?_) (fun c_2 => ?_)
    · skip
      have wd := z_cell wd (ws2 := [zO m0 6 [.ref m1, .ref m2, .int (iI st), .ref m3, .int (iI iss), .ref m4, .int (iI ty), .ref m5, .ref m6, .ref m7, .ref m8], zA cy m1 780 (clR M)]) 1 rfl (by intro j j0 j1; rw [h67_1, show k2 = 96 by omega]; exact clR_of M j j0 j1) rfl
      exact z_vret C hr hlk wd dX6_clearReader_90
    · skip
      refine lv_aload_n C.1 C.2.1 dX6_clearReader_73 rfl (lv_at hl 0 rfl) ?_
      refine z_get C wd (Cn := RX6) (TT := TX6) (N := 11) (ci := 6) iX6 0 rfl rfl 0 (by decide) L7 (fun _ h => h) rfl dX6_clearReader_74 ?_
      refine z_sipush C dX6_clearReader_77 (by decide +kernel) ?_
      refine lv_iload_n C.1 C.2.1 dX6_clearReader_80 rfl (lv_at hl 1 rfl) ?_
      refine z_iadd C dX6_clearReader_81 ?_
      refine z_iconst C dX6_clearReader_82 ?_
      refine z_iast C wd (ws2 := [zO m0 6 [.ref m1, .ref m2, .int (iI st), .ref m3, .int (iI iss), .ref m4, .int (iI ty), .ref m5, .ref m6, .ref m7, .ref m8], zA cy m1 780 (uZ g2 (684 + k2) 0)]) 1 rfl (by omega) (by decide) rfl dX6_clearReader_83 (fun H locs wd => ?_)
      refine z_iinc C (lv' := [(1, .int (iI (k2 + 1))), (0, .ref m0)]) hl 1 dX6_clearReader_84 rfl (by decide) rfl (fun ls hl => ?_)
      refine z_goto C (tgt := 67) dX6_clearReader_87 (by decide) ?_
      exact ih67 (k2 + 1) (uZ g2 (684 + k2) 0) ⟨(by omega), (by rw [h67_1]; exact wrS_step _ _ _ (fun _ => 0) h67_0.1)⟩ (by omega) H locs _ wd (lv_sub hl [1, 0] rfl)
  · skip
    refine lv_aload_n C.1 C.2.1 dX6_clearReader_40 rfl (lv_at hl 0 rfl) ?_
    refine z_get C wd (Cn := RX6) (TT := TX6) (N := 11) (ci := 6) iX6 0 rfl rfl 0 (by decide) L7 (fun _ h => h) rfl dX6_clearReader_41 ?_
    refine z_sipush C dX6_clearReader_44 (by decide +kernel) ?_
    refine lv_iload_n C.1 C.2.1 dX6_clearReader_47 rfl (lv_at hl 1 rfl) ?_
    refine z_iadd C dX6_clearReader_48 ?_
    refine lv_iload_n C.1 C.2.1 dX6_clearReader_49 rfl (lv_at hl 1 rfl) ?_
    refine z_if_ne C (tgt := 57) dX6_clearReader_50 (by decide) (by omega) (fun c_3 => ?_) (fun c_3 => ?_)
    · skip
      refine z_iconst C dX6_clearReader_57 ?_
      refine z_iast C wd (ws2 := [zO m0 6 [.ref m1, .ref m2, .int (iI st), .ref m3, .int (iI iss), .ref m4, .int (iI ty), .ref m5, .ref m6, .ref m7, .ref m8], zA cy m1 780 (uZ g (572 + k) (-1))]) 1 rfl (by omega) (by decide) rfl dX6_clearReader_58 (fun H locs wd => ?_)
      refine z_iinc C (lv' := [(1, .int (iI (k + 1))), (0, .ref m0)]) hl 1 dX6_clearReader_59 rfl (by decide) rfl (fun ls hl => ?_)
      refine z_goto C (tgt := 34) dX6_clearReader_62 (by decide) ?_
      exact ih34 (k + 1) (uZ g (572 + k) (-1)) ⟨(by omega), (by rw [h34_1, ← wrS_step (uZ (uZ (uZ (uZ M 8 0) 9 0) 10 0) 11 0) 572 k clV h34_0.1]; first | (rw [show clV k = 0 from by rw [hcv, if_pos (by omega)]]; done) | (rw [show clV k = -1 from by rw [hcv, if_neg (by omega)]]; done))⟩ (by omega) H locs _ wd (lv_sub hl [1, 0] rfl)
    · skip
      refine z_iconst C dX6_clearReader_53 ?_
      refine z_goto C (tgt := 58) dX6_clearReader_54 (by decide) ?_
      refine z_iast C wd (ws2 := [zO m0 6 [.ref m1, .ref m2, .int (iI st), .ref m3, .int (iI iss), .ref m4, .int (iI ty), .ref m5, .ref m6, .ref m7, .ref m8], zA cy m1 780 (uZ g (572 + k) 0)]) 1 rfl (by omega) (by decide) rfl dX6_clearReader_58 (fun H locs wd => ?_)
      refine z_iinc C (lv' := [(1, .int (iI (k + 1))), (0, .ref m0)]) hl 1 dX6_clearReader_59 rfl (by decide) rfl (fun ls hl => ?_)
      refine z_goto C (tgt := 34) dX6_clearReader_62 (by decide) ?_
      exact ih34 (k + 1) (uZ g (572 + k) 0) ⟨(by omega), (by rw [h34_1, ← wrS_step (uZ (uZ (uZ (uZ M 8 0) 9 0) 10 0) 11 0) 572 k clV h34_0.1]; first | (rw [show clV k = 0 from by rw [hcv, if_pos (by omega)]]; done) | (rw [show clV k = -1 from by rw [hcv, if_neg (by omega)]]; done))⟩ (by omega) H locs _ wd (lv_sub hl [1, 0] rfl)
set_option maxRecDepth 100000 in
set_option maxHeartbeats 4000000 in
theorem c_mrecA (l : Launch) (D : va_G) (cy cs : ClassId) (m0 m1 m2 m3 m4 m5 m6 m7 m8 : Nat) (st iss ty : Int) (M : Int → Int) (Hs : Int → Int) (hst : 0 ≤ st ∧ st < 4) : zCv l D (zT cy cs) yX6_record wsX6_record ({ frames := 0, cells := 0, slots := 0, locals := 0 } : Room) [.ref m0] [zO m0 6 [.ref m1, .ref m2, .int (iI st), .ref m3, .int (iI iss), .ref m4, .int (iI ty), .ref m5, .ref m6, .ref m7, .ref m8], zA cy m1 780 M, zA cy m2 3120 Hs] [zO m0 6 [.ref m1, .ref m2, .int (iI (st + 1)), .ref m3, .int (iI iss), .ref m4, .int (iI ty), .ref m5, .ref m6, .ref m7, .ref m8], zA cy m1 780 M, zA cy m2 3120 (wrS Hs (780 * st) 780 M)] := by
  intro sz
  refine zM_mk (cc := cX6_record) (maxL := 2) (ret := none) (own := RX6) (Qc := fun sz => va_Qv (fun (_ : Unit) => True) (fun _ t => zQ D (zT cy cs) (va_A [zO m0 6 [.ref m1, .ref m2, .int (iI st), .ref m3, .int (iI iss), .ref m4, .int (iI ty), .ref m5, .ref m6, .ref m7, .ref m8], zA cy m1 780 M, zA cy m2 3120 Hs] sz) [zO m0 6 [.ref m1, .ref m2, .int (iI (st + 1)), .ref m3, .int (iI iss), .ref m4, .int (iI ty), .ref m5, .ref m6, .ref m7, .ref m8], zA cy m1 780 M, zA cy m2 3120 (wrS Hs (780 * st) 780 M)] t) (va_A [zO m0 6 [.ref m1, .ref m2, .int (iI st), .ref m3, .int (iI iss), .ref m4, .int (iI ty), .ref m5, .ref m6, .ref m7, .ref m8], zA cy m1 780 M, zA cy m2 3120 Hs] sz)) (by decide) rfl rfl (Nat.le_of_ble_eq_true rfl) rfl sz ?_
  intro p e s m args below meth c ls C hr hlk hnm hl hsz hA wd
  subst hsz
  have hl : lv_has ls 2 [(0, .ref m0)] := hl
  have iX6 : ∀ w ∈ u_ws RX6 TX6 11, w ∈ wsX6_record := by decide +kernel
  have L7 := C.2.2.2.2 (.fieldLink RX6 7 "LikelyWalksModel" "now" "[I") (by decide +kernel)
  have L13 := C.2.2.2.2 (.fieldLink RX6 13 "LikelyWalksModel" "history" "[I") (by decide +kernel)
  have L37 := C.2.2.2.2 (.fieldLink RX6 37 "LikelyWalksModel" "states" "I") (by decide +kernel)
  refine lv_aload_n C.1 C.2.1 dX6_record_0 rfl (lv_at hl 0 rfl) ?_
  refine z_get C wd (Cn := RX6) (TT := TX6) (N := 11) (ci := 6) iX6 0 rfl rfl 2 (by decide) L37 (fun _ h => h) rfl dX6_record_1 ?_
  refine z_iconst C dX6_record_4 ?_
  refine z_icmp_ne C (tgt := 49) dX6_record_5 (by decide) (by omega) (fun c_1 => ?_) (fun c_1 => ?_)
  · skip
    refine z_iconst C dX6_record_49 ?_
    refine lv_istore_n (lv' := [(1, .int (iI 0)), (0, .ref m0)]) C.1 C.2.1 dX6_record_50 rfl hl (by decide) rfl (fun ls hl => ?_)
    refine z_loop2 (P := fun (k : Int) (g : Int → Int) => (0 ≤ k ∧ k ≤ 780) ∧ (g = wrS Hs (780 * st) k M)) (mu := fun (k : Int) (g : Int → Int) => (780 - k).toNat) (ws := fun (k : Int) (g : Int → Int) => [zO m0 6 [.ref m1, .ref m2, .int (iI st), .ref m3, .int (iI iss), .ref m4, .int (iI ty), .ref m5, .ref m6, .ref m7, .ref m8], zA cy m1 780 M, zA cy m2 3120 g]) (lv := fun (k : Int) (g : Int → Int) => [(0, .ref m0), (1, .int (iI k))]) 0 Hs C ⟨(by omega), (wrS_0 _ _ _).symm⟩ wd (lv_sub hl [1, 0] rfl) ?_
    intro k g hP51 ih51 H locs ls wd hl
    obtain ⟨h51_0, h51_1⟩ := hP51
    try dsimp only at h51_0 h51_1
    have wd : Wd D (zT cy cs) _ s.heap s [zO m0 6 [.ref m1, .ref m2, .int (iI st), .ref m3, .int (iI iss), .ref m4, .int (iI ty), .ref m5, .ref m6, .ref m7, .ref m8], zA cy m1 780 M, zA cy m2 3120 g] H locs := wd
    have hl : lv_has ls 2 [(0, .ref m0), (1, .int (iI k))] := hl
    refine lv_iload_n C.1 C.2.1 dX6_record_51 rfl (lv_at hl 1 rfl) ?_
    refine z_sipush C dX6_record_52 (by decide +kernel) ?_
    refine z_icmp_ge C (tgt := 85) dX6_record_55 (by decide) (by omega) (fun c_2 => ?_) (fun c_2 => ?_)
    · skip
      refine lv_aload_n C.1 C.2.1 dX6_record_85 rfl (lv_at hl 0 rfl) ?_
      refine lv_dup C.1 C.2.1 dX6_record_86 rfl ?_
      refine z_get C wd (Cn := RX6) (TT := TX6) (N := 11) (ci := 6) iX6 0 rfl rfl 2 (by decide) L37 (fun _ h => h) rfl dX6_record_87 ?_
      refine z_iconst C dX6_record_90 ?_
      refine z_iadd C dX6_record_91 ?_
      refine z_put C wd (Cn := RX6) (TT := TX6) (N := 11) (ci := 6) (ws2 := [zO m0 6 [.ref m1, .ref m2, .int (iI (st + 1)), .ref m3, .int (iI iss), .ref m4, .int (iI ty), .ref m5, .ref m6, .ref m7, .ref m8], zA cy m1 780 M, zA cy m2 3120 g]) iX6 tyX6 tyX6_ok nmX6 0 rfl rfl 2 (by decide) L37 (fun _ h => h) rfl (ty := .int) (by decide +kernel) rfl rfl (Nat.le_of_ble_eq_true rfl) rfl dX6_record_92 (fun H locs wd => ?_)
      have wd := z_cell wd (ws2 := [zO m0 6 [.ref m1, .ref m2, .int (iI (st + 1)), .ref m3, .int (iI iss), .ref m4, .int (iI ty), .ref m5, .ref m6, .ref m7, .ref m8], zA cy m1 780 M, zA cy m2 3120 (wrS Hs (780 * st) 780 M)]) 2 rfl (by intro j j0 j1; rw [h51_1, show k = 780 by omega]) rfl
      exact z_vret C hr hlk wd dX6_record_95
    · skip
      refine lv_aload_n C.1 C.2.1 dX6_record_58 rfl (lv_at hl 0 rfl) ?_
      refine z_get C wd (Cn := RX6) (TT := TX6) (N := 11) (ci := 6) iX6 0 rfl rfl 1 (by decide) L13 (fun _ h => h) rfl dX6_record_59 ?_
      refine z_sipush C dX6_record_62 (by decide +kernel) ?_
      refine lv_aload_n C.1 C.2.1 dX6_record_65 rfl (lv_at hl 0 rfl) ?_
      refine z_get C wd (Cn := RX6) (TT := TX6) (N := 11) (ci := 6) iX6 0 rfl rfl 2 (by decide) L37 (fun _ h => h) rfl dX6_record_66 ?_
      refine z_imul C dX6_record_69 ?_
      refine lv_iload_n C.1 C.2.1 dX6_record_70 rfl (lv_at hl 1 rfl) ?_
      refine z_iadd C dX6_record_71 ?_
      refine lv_aload_n C.1 C.2.1 dX6_record_72 rfl (lv_at hl 0 rfl) ?_
      refine z_get C wd (Cn := RX6) (TT := TX6) (N := 11) (ci := 6) iX6 0 rfl rfl 0 (by decide) L7 (fun _ h => h) rfl dX6_record_73 ?_
      refine lv_iload_n C.1 C.2.1 dX6_record_76 rfl (lv_at hl 1 rfl) ?_
      refine z_iald C wd 1 rfl (by omega) (by decide) dX6_record_77 ?_
      refine z_iast C wd (ws2 := [zO m0 6 [.ref m1, .ref m2, .int (iI st), .ref m3, .int (iI iss), .ref m4, .int (iI ty), .ref m5, .ref m6, .ref m7, .ref m8], zA cy m1 780 M, zA cy m2 3120 (uZ g ((780 * st) + k) (M k))]) 2 rfl (by omega) (by decide) rfl dX6_record_78 (fun H locs wd => ?_)
      refine z_iinc C (lv' := [(1, .int (iI (k + 1))), (0, .ref m0)]) hl 1 dX6_record_79 rfl (by decide) rfl (fun ls hl => ?_)
      refine z_goto C (tgt := 51) dX6_record_82 (by decide) ?_
      exact ih51 (k + 1) (uZ g ((780 * st) + k) (M k)) ⟨(by omega), (by rw [h51_1]; exact wrS_step _ _ _ _ h51_0.1)⟩ (by omega) H locs _ wd (lv_sub hl [1, 0] rfl)
  · skip
    exact False.elim (by omega)
set_option maxRecDepth 100000 in
set_option maxHeartbeats 4000000 in
theorem c_mrecB (l : Launch) (D : va_G) (cy cs : ClassId) (m0 m1 m2 m3 m4 m5 m6 m7 m8 : Nat) (iss ty : Int) (M : Int → Int) (Hs : Int → Int)  : zCv l D (zT cy cs) yX6_record wsX6_record ({ frames := 0, cells := 0, slots := 0, locals := 0 } : Room) [.ref m0] [zO m0 6 [.ref m1, .ref m2, .int (iI 4), .ref m3, .int (iI iss), .ref m4, .int (iI ty), .ref m5, .ref m6, .ref m7, .ref m8], zA cy m1 780 M, zA cy m2 3120 Hs] [zO m0 6 [.ref m1, .ref m2, .int (iI 4), .ref m3, .int (iI iss), .ref m4, .int (iI ty), .ref m5, .ref m6, .ref m7, .ref m8], zA cy m1 780 M, zA cy m2 3120 (wrS (shH Hs 2340) 2340 780 M)] := by
  intro sz
  refine zM_mk (cc := cX6_record) (maxL := 2) (ret := none) (own := RX6) (Qc := fun sz => va_Qv (fun (_ : Unit) => True) (fun _ t => zQ D (zT cy cs) (va_A [zO m0 6 [.ref m1, .ref m2, .int (iI 4), .ref m3, .int (iI iss), .ref m4, .int (iI ty), .ref m5, .ref m6, .ref m7, .ref m8], zA cy m1 780 M, zA cy m2 3120 Hs] sz) [zO m0 6 [.ref m1, .ref m2, .int (iI 4), .ref m3, .int (iI iss), .ref m4, .int (iI ty), .ref m5, .ref m6, .ref m7, .ref m8], zA cy m1 780 M, zA cy m2 3120 (wrS (shH Hs 2340) 2340 780 M)] t) (va_A [zO m0 6 [.ref m1, .ref m2, .int (iI 4), .ref m3, .int (iI iss), .ref m4, .int (iI ty), .ref m5, .ref m6, .ref m7, .ref m8], zA cy m1 780 M, zA cy m2 3120 Hs] sz)) (by decide) rfl rfl (Nat.le_of_ble_eq_true rfl) rfl sz ?_
  intro p e s m args below meth c ls C hr hlk hnm hl hsz hA wd
  subst hsz
  have hl : lv_has ls 2 [(0, .ref m0)] := hl
  have iX6 : ∀ w ∈ u_ws RX6 TX6 11, w ∈ wsX6_record := by decide +kernel
  have L7 := C.2.2.2.2 (.fieldLink RX6 7 "LikelyWalksModel" "now" "[I") (by decide +kernel)
  have L13 := C.2.2.2.2 (.fieldLink RX6 13 "LikelyWalksModel" "history" "[I") (by decide +kernel)
  have L37 := C.2.2.2.2 (.fieldLink RX6 37 "LikelyWalksModel" "states" "I") (by decide +kernel)
  refine lv_aload_n C.1 C.2.1 dX6_record_0 rfl (lv_at hl 0 rfl) ?_
  refine z_get C wd (Cn := RX6) (TT := TX6) (N := 11) (ci := 6) iX6 0 rfl rfl 2 (by decide) L37 (fun _ h => h) rfl dX6_record_1 ?_
  refine z_iconst C dX6_record_4 ?_
  refine z_icmp_ne C (tgt := 49) dX6_record_5 (by decide) (by omega) (fun c_1 => ?_) (fun c_1 => ?_)
  · skip
    exact False.elim (by omega)
  · skip
    refine z_iconst C dX6_record_8 ?_
    refine lv_istore_n (lv' := [(1, .int (iI 0)), (0, .ref m0)]) C.1 C.2.1 dX6_record_9 rfl hl (by decide) rfl (fun ls hl => ?_)
    refine z_loop2 (P := fun (k0 : Int) (g0 : Int → Int) => (0 ≤ k0 ∧ k0 ≤ 2340) ∧ (g0 = shH Hs k0)) (mu := fun (k0 : Int) (g0 : Int → Int) => (2340 - k0).toNat) (ws := fun (k0 : Int) (g0 : Int → Int) => [zO m0 6 [.ref m1, .ref m2, .int (iI 4), .ref m3, .int (iI iss), .ref m4, .int (iI ty), .ref m5, .ref m6, .ref m7, .ref m8], zA cy m1 780 M, zA cy m2 3120 g0]) (lv := fun (k0 : Int) (g0 : Int → Int) => [(0, .ref m0), (1, .int (iI k0))]) 0 Hs C ⟨(by omega), (shH_0 Hs).symm⟩ wd (lv_sub hl [1, 0] rfl) ?_
    intro k0 g0 hP10 ih10 H locs ls wd hl
    obtain ⟨h10_0, h10_1⟩ := hP10
    try dsimp only at h10_0 h10_1
    have wd : Wd D (zT cy cs) _ s.heap s [zO m0 6 [.ref m1, .ref m2, .int (iI 4), .ref m3, .int (iI iss), .ref m4, .int (iI ty), .ref m5, .ref m6, .ref m7, .ref m8], zA cy m1 780 M, zA cy m2 3120 g0] H locs := wd
    have hl : lv_has ls 2 [(0, .ref m0), (1, .int (iI k0))] := hl
    have hg0 : g0 (k0 + 780) = Hs (k0 + 780) := by rw [h10_1]; exact shH_at Hs h10_0.1
    refine lv_iload_n C.1 C.2.1 dX6_record_10 rfl (lv_at hl 1 rfl) ?_
    refine z_sipush C dX6_record_11 (by decide +kernel) ?_
    refine z_icmp_ge C (tgt := 39) dX6_record_14 (by decide) (by omega) (fun c_2 => ?_) (fun c_2 => ?_)
    · skip
      refine lv_aload_n C.1 C.2.1 dX6_record_39 rfl (lv_at hl 0 rfl) ?_
      refine lv_dup C.1 C.2.1 dX6_record_40 rfl ?_
      refine z_get C wd (Cn := RX6) (TT := TX6) (N := 11) (ci := 6) iX6 0 rfl rfl 2 (by decide) L37 (fun _ h => h) rfl dX6_record_41 ?_
      refine z_iconst C dX6_record_44 ?_
      refine z_isub C dX6_record_45 ?_
      refine z_put C wd (Cn := RX6) (TT := TX6) (N := 11) (ci := 6) (ws2 := [zO m0 6 [.ref m1, .ref m2, .int (iI (4 - 1)), .ref m3, .int (iI iss), .ref m4, .int (iI ty), .ref m5, .ref m6, .ref m7, .ref m8], zA cy m1 780 M, zA cy m2 3120 g0]) iX6 tyX6 tyX6_ok nmX6 0 rfl rfl 2 (by decide) L37 (fun _ h => h) rfl (ty := .int) (by decide +kernel) rfl rfl (Nat.le_of_ble_eq_true rfl) rfl dX6_record_46 (fun H locs wd => ?_)
      refine z_iconst C dX6_record_49 ?_
      refine lv_istore_n (lv' := [(1, .int (iI 0)), (0, .ref m0)]) C.1 C.2.1 dX6_record_50 rfl hl (by decide) rfl (fun ls hl => ?_)
      refine z_loop2 (P := fun (k : Int) (g : Int → Int) => (0 ≤ k ∧ k ≤ 780) ∧ (g = wrS (shH Hs 2340) (2340) k M)) (mu := fun (k : Int) (g : Int → Int) => (780 - k).toNat) (ws := fun (k : Int) (g : Int → Int) => [zO m0 6 [.ref m1, .ref m2, .int (iI (4 - 1)), .ref m3, .int (iI iss), .ref m4, .int (iI ty), .ref m5, .ref m6, .ref m7, .ref m8], zA cy m1 780 M, zA cy m2 3120 g]) (lv := fun (k : Int) (g : Int → Int) => [(0, .ref m0), (1, .int (iI k))]) 0 g0 C ⟨(by omega), (by rw [wrS_0, h10_1, show k0 = 2340 by omega])⟩ wd (lv_sub hl [1, 0] rfl) ?_
      intro k g hP51 ih51 H locs ls wd hl
      obtain ⟨h51_0, h51_1⟩ := hP51
      try dsimp only at h51_0 h51_1
      have wd : Wd D (zT cy cs) _ s.heap s [zO m0 6 [.ref m1, .ref m2, .int (iI (4 - 1)), .ref m3, .int (iI iss), .ref m4, .int (iI ty), .ref m5, .ref m6, .ref m7, .ref m8], zA cy m1 780 M, zA cy m2 3120 g] H locs := wd
      have hl : lv_has ls 2 [(0, .ref m0), (1, .int (iI k))] := hl
      refine lv_iload_n C.1 C.2.1 dX6_record_51 rfl (lv_at hl 1 rfl) ?_
      refine z_sipush C dX6_record_52 (by decide +kernel) ?_
      refine z_icmp_ge C (tgt := 85) dX6_record_55 (by decide) (by omega) (fun c_3 => ?_) (fun c_3 => ?_)
      · skip
        refine lv_aload_n C.1 C.2.1 dX6_record_85 rfl (lv_at hl 0 rfl) ?_
        refine lv_dup C.1 C.2.1 dX6_record_86 rfl ?_
        refine z_get C wd (Cn := RX6) (TT := TX6) (N := 11) (ci := 6) iX6 0 rfl rfl 2 (by decide) L37 (fun _ h => h) rfl dX6_record_87 ?_
        refine z_iconst C dX6_record_90 ?_
        refine z_iadd C dX6_record_91 ?_
        refine z_put C wd (Cn := RX6) (TT := TX6) (N := 11) (ci := 6) (ws2 := [zO m0 6 [.ref m1, .ref m2, .int (iI ((4 - 1) + 1)), .ref m3, .int (iI iss), .ref m4, .int (iI ty), .ref m5, .ref m6, .ref m7, .ref m8], zA cy m1 780 M, zA cy m2 3120 g]) iX6 tyX6 tyX6_ok nmX6 0 rfl rfl 2 (by decide) L37 (fun _ h => h) rfl (ty := .int) (by decide +kernel) rfl rfl (Nat.le_of_ble_eq_true rfl) rfl dX6_record_92 (fun H locs wd => ?_)
        have wd := z_fld wd (ws2 := [zO m0 6 [.ref m1, .ref m2, .int (iI 4), .ref m3, .int (iI iss), .ref m4, .int (iI ty), .ref m5, .ref m6, .ref m7, .ref m8], zA cy m1 780 M, zA cy m2 3120 g]) 0 rfl (congrArg (fun z0 => zO m0 6 [.ref m1, .ref m2, .int (iI z0), .ref m3, .int (iI iss), .ref m4, .int (iI ty), .ref m5, .ref m6, .ref m7, .ref m8]) (show ((4 - 1) + 1 : Int) = 4 from (by decide))) rfl
        have wd := z_cell wd (ws2 := [zO m0 6 [.ref m1, .ref m2, .int (iI 4), .ref m3, .int (iI iss), .ref m4, .int (iI ty), .ref m5, .ref m6, .ref m7, .ref m8], zA cy m1 780 M, zA cy m2 3120 (wrS (shH Hs 2340) 2340 780 M)]) 2 rfl (by intro j j0 j1; rw [h51_1, show k = 780 by omega]) rfl
        exact z_vret C hr hlk wd dX6_record_95
      · skip
        refine lv_aload_n C.1 C.2.1 dX6_record_58 rfl (lv_at hl 0 rfl) ?_
        refine z_get C wd (Cn := RX6) (TT := TX6) (N := 11) (ci := 6) iX6 0 rfl rfl 1 (by decide) L13 (fun _ h => h) rfl dX6_record_59 ?_
        refine z_sipush C dX6_record_62 (by decide +kernel) ?_
        refine lv_aload_n C.1 C.2.1 dX6_record_65 rfl (lv_at hl 0 rfl) ?_
        refine z_get C wd (Cn := RX6) (TT := TX6) (N := 11) (ci := 6) iX6 0 rfl rfl 2 (by decide) L37 (fun _ h => h) rfl dX6_record_66 ?_
        refine z_imul C dX6_record_69 ?_
        refine lv_iload_n C.1 C.2.1 dX6_record_70 rfl (lv_at hl 1 rfl) ?_
        refine z_iadd C dX6_record_71 ?_
        refine lv_aload_n C.1 C.2.1 dX6_record_72 rfl (lv_at hl 0 rfl) ?_
        refine z_get C wd (Cn := RX6) (TT := TX6) (N := 11) (ci := 6) iX6 0 rfl rfl 0 (by decide) L7 (fun _ h => h) rfl dX6_record_73 ?_
        refine lv_iload_n C.1 C.2.1 dX6_record_76 rfl (lv_at hl 1 rfl) ?_
        refine z_iald C wd 1 rfl (by omega) (by decide) dX6_record_77 ?_
        refine z_iast C wd (ws2 := [zO m0 6 [.ref m1, .ref m2, .int (iI (4 - 1)), .ref m3, .int (iI iss), .ref m4, .int (iI ty), .ref m5, .ref m6, .ref m7, .ref m8], zA cy m1 780 M, zA cy m2 3120 (uZ g ((780 * (4 - 1)) + k) (M k))]) 2 rfl (by omega) (by decide) rfl dX6_record_78 (fun H locs wd => ?_)
        refine z_iinc C (lv' := [(1, .int (iI (k + 1))), (0, .ref m0)]) hl 1 dX6_record_79 rfl (by decide) rfl (fun ls hl => ?_)
        refine z_goto C (tgt := 51) dX6_record_82 (by decide) ?_
        exact ih51 (k + 1) (uZ g ((780 * (4 - 1)) + k) (M k)) ⟨(by omega), (by rw [h51_1]; exact wrS_step (shH Hs 2340) 2340 k M h51_0.1)⟩ (by omega) H locs _ wd (lv_sub hl [1, 0] rfl)
    · skip
      refine lv_aload_n C.1 C.2.1 dX6_record_17 rfl (lv_at hl 0 rfl) ?_
      refine z_get C wd (Cn := RX6) (TT := TX6) (N := 11) (ci := 6) iX6 0 rfl rfl 1 (by decide) L13 (fun _ h => h) rfl dX6_record_18 ?_
      refine lv_iload_n C.1 C.2.1 dX6_record_21 rfl (lv_at hl 1 rfl) ?_
      refine lv_aload_n C.1 C.2.1 dX6_record_22 rfl (lv_at hl 0 rfl) ?_
      refine z_get C wd (Cn := RX6) (TT := TX6) (N := 11) (ci := 6) iX6 0 rfl rfl 1 (by decide) L13 (fun _ h => h) rfl dX6_record_23 ?_
      refine lv_iload_n C.1 C.2.1 dX6_record_26 rfl (lv_at hl 1 rfl) ?_
      refine z_sipush C dX6_record_27 (by decide +kernel) ?_
      refine z_iadd C dX6_record_30 ?_
      refine z_iald C wd 2 rfl (by omega) (by decide) dX6_record_31 ?_
      refine z_iast C wd (ws2 := [zO m0 6 [.ref m1, .ref m2, .int (iI 4), .ref m3, .int (iI iss), .ref m4, .int (iI ty), .ref m5, .ref m6, .ref m7, .ref m8], zA cy m1 780 M, zA cy m2 3120 (uZ g0 k0 (g0 (k0 + 780)))]) 2 rfl (by omega) (by decide) rfl dX6_record_32 (fun H locs wd => ?_)
      refine z_iinc C (lv' := [(1, .int (iI (k0 + 1))), (0, .ref m0)]) hl 1 dX6_record_33 rfl (by decide) rfl (fun ls hl => ?_)
      refine z_goto C (tgt := 10) dX6_record_36 (by decide) ?_
      exact ih10 (k0 + 1) (uZ g0 k0 (g0 (k0 + 780))) ⟨(by omega), (by rw [hg0, h10_1]; exact shH_step Hs h10_0.1)⟩ (by omega) H locs _ wd (lv_sub hl [1, 0] rfl)
theorem c_X6_record (l : Launch) (D : va_G) (cy cs : ClassId) (m0 m1 m2 m3 m4 m5 m6 m7 m8 : Nat) (st iss ty : Int) (M : Int → Int) (Hs : Int → Int) (hst : 0 ≤ st ∧ st ≤ 4) : zCv l D (zT cy cs) yX6_record wsX6_record ({ frames := 0, cells := 0, slots := 0, locals := 0 } : Room) [.ref m0] [zO m0 6 [.ref m1, .ref m2, .int (iI st), .ref m3, .int (iI iss), .ref m4, .int (iI ty), .ref m5, .ref m6, .ref m7, .ref m8], zA cy m1 780 M, zA cy m2 3120 Hs] [zO m0 6 [.ref m1, .ref m2, .int (iI (pn st)), .ref m3, .int (iI iss), .ref m4, .int (iI ty), .ref m5, .ref m6, .ref m7, .ref m8], zA cy m1 780 M, zA cy m2 3120 (recH M Hs st)] := by
  by_cases h : st < 4
  · rw [show pn st = st + 1 from if_pos h, show recH M Hs st = wrS Hs (780 * st) 780 M from if_neg (by omega)]
    exact c_mrecA l D cy cs m0 m1 m2 m3 m4 m5 m6 m7 m8 st iss ty M Hs ⟨hst.1, h⟩
  · have h4 : st = 4 := by omega
    subst h4
    exact c_mrecB l D cy cs m0 m1 m2 m3 m4 m5 m6 m7 m8 iss ty M Hs

