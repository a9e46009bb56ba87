set_option maxRecDepth 100000 in
set_option maxHeartbeats 4000000 in
theorem c_mflipB (l : Launch) (D : va_G) (cy cs : ClassId) (m0 m1 m2 m3 m4 m5 m6 m7 m8 : Nat) (st iss ty : Int) (M : Int → Int) (k : Int) (hln : 0 ≤ M 7 * M 1 ∧ M 7 * M 1 ≤ 240) (hli : ∀ j : Int, 0 ≤ j → j < 240 → 0 ≤ M (92 + j) ∧ M (92 + j) ≤ 2) (h8 : 0 ≤ M 8 ∧ M 8 ≤ 240) (hk : -2147483648 ≤ k ∧ k < 2147483648) (hno : ¬ (0 ≤ k ∧ k < M 7 * M 1) ∨ M (92 + k) = 2 ∨ k < M 8) : zCi l D (zT cy cs) yX6_flip wsX6_flip ({ frames := 1, cells := 0, slots := 0, locals := 22 } : Room) [.ref m0, .int (iI k)] [zO m0 6 [.ref m1, .ref m2, .int (iI st), .ref m3, .int (iI iss), .ref m4, .int (iI ty), .ref m5, .ref m6, .ref m7, .ref m8], zA cy m1 780 M] (fNo M k) [zO m0 6 [.ref m1, .ref m2, .int (iI st), .ref m3, .int (iI iss), .ref m4, .int (iI ty), .ref m5, .ref m6, .ref m7, .ref m8], zA cy m1 780 M] := by
  intro sz
  refine zM_mk (cc := cX6_flip) (maxL := 2) (ret := (some .int)) (own := RX6) (Qc := fun sz => va_Qi (fun r (_ : Unit) => r = iI (fNo M k)) (fun _ t => zQ D (zT cy cs) (va_A [zO m0 6 [.ref m1, .ref m2, .int (iI st), .ref m3, .int (iI iss), .ref m4, .int (iI ty), .ref m5, .ref m6, .ref m7, .ref m8], zA cy m1 780 M] sz) [zO m0 6 [.ref m1, .ref m2, .int (iI st), .ref m3, .int (iI iss), .ref m4, .int (iI ty), .ref m5, .ref m6, .ref m7, .ref m8], zA cy m1 780 M] t) (va_A [zO m0 6 [.ref m1, .ref m2, .int (iI st), .ref m3, .int (iI iss), .ref m4, .int (iI ty), .ref m5, .ref m6, .ref m7, .ref m8], zA cy m1 780 M] sz)) (by decide) rfl rfl (Nat.le_of_ble_eq_true rfl) rfl sz ?_
  intro p e s m args below meth c ls C hr hlk hnm hl hsz hA wd
  subst hsz
  have hl : lv_has ls 2 [(0, .ref m0), (1, .int (iI k))] := hl
  have iX6 : ∀ w ∈ u_ws RX6 TX6 11, w ∈ wsX6_flip := by decide +kernel
  have L7 := C.2.2.2.2 (.fieldLink RX6 7 "LikelyWalksModel" "now" "[I") (by decide +kernel)
  refine lv_iload_n C.1 C.2.1 dX6_flip_0 rfl (lv_at hl 1 rfl) ?_
  refine z_iconst C dX6_flip_1 ?_
  refine lv_aload_n C.1 C.2.1 dX6_flip_2 rfl (lv_at hl 0 rfl) ?_
  refine z_cvi C wd hA (As := []) (rest := [.int (iI 0), .int (iI k)]) (ws2 := [zO m0 6 [.ref m1, .ref m2, .int (iI st), .ref m3, .int (iI iss), .ref m4, .int (iI ty), .ref m5, .ref m6, .ref m7, .ref m8], zA cy m1 780 M]) (c_X6_symbols l D cy cs m0 m1 m2 m3 m4 m5 m6 m7 m8 st iss ty M ) (cwV 0 C.2.2.2.2 gX6_flip_X6_symbols rfl rfl rfl (by decide +kernel) ⟨Nat.le_of_ble_eq_true rfl, Nat.le_of_ble_eq_true rfl⟩) [0, 1] rfl rfl rfl ⟨rfl, [], [], 2, rfl, rfl, rfl, by decide +kernel⟩ rfl rfl rfl rfl (Nat.le_of_ble_eq_true rfl) hl.1 dX6_flip_3 ⟨Nat.zero_le _, Nat.zero_le _⟩ (fun H locs wd => ?_)
  refine z_iconst C dX6_flip_6 ?_
  refine z_isub C dX6_flip_7 ?_
  refine z_csi C wd hA (As := [.int (iI k), .int (iI 0), .int (iI ((M 7 * M 1) - 1))]) (rest := []) (ws2 := [zO m0 6 [.ref m1, .ref m2, .int (iI st), .ref m3, .int (iI iss), .ref m4, .int (iI ty), .ref m5, .ref m6, .ref m7, .ref m8], zA cy m1 780 M]) (c_X6_in l D cy cs k 0 ((M 7 * M 1) - 1) (by omega) (by omega) (by omega)) (cwS 3 C.2.2.2.2 gX6_flip_X6_in rfl rfl rfl (by decide +kernel) ⟨Nat.le_of_ble_eq_true rfl, Nat.le_of_ble_eq_true rfl⟩) [] rfl rfl rfl ⟨rfl, [0, 1], [zO m0 6 [.ref m1, .ref m2, .int (iI st), .ref m3, .int (iI iss), .ref m4, .int (iI ty), .ref m5, .ref m6, .ref m7, .ref m8], zA cy m1 780 M], 2, rfl, rfl, rfl, by decide +kernel⟩ rfl rfl (Nat.le_of_ble_eq_true rfl) hl.1 dX6_flip_8 ⟨Nat.zero_le _, Nat.zero_le _⟩ (fun H locs wd => ?_)
  refine z_ifb_ne C (tgt := 16) dX6_flip_11 (by decide) (fun c_1 => ?_) (fun c_1 => ?_)
  · skip
    refine lv_aload_n C.1 C.2.1 dX6_flip_16 rfl (lv_at hl 0 rfl) ?_
    refine z_get C wd (Cn := RX6) (TT := TX6) (N := 11) (ci := 6) iX6 0 rfl rfl 0 (by decide) L7 (fun _ h => h) rfl dX6_flip_17 ?_
    refine z_bipush C dX6_flip_20 (by decide +kernel) ?_
    refine lv_iload_n C.1 C.2.1 dX6_flip_22 rfl (lv_at hl 1 rfl) ?_
    refine z_iadd C dX6_flip_23 ?_
    have hx := hli k (by omega) (by omega)
    refine z_iald C wd 1 rfl (by omega) (by decide) dX6_flip_24 ?_
    refine z_iconst C dX6_flip_25 ?_
    refine z_icmp_eq C (tgt := 40) dX6_flip_26 (by decide) (by omega) (fun c_2 => ?_) (fun c_2 => ?_)
    · skip
      refine z_bipush C dX6_flip_40 (by decide +kernel) ?_
      exact z_iret C hr hlk wd (by unfold fNo; (repeat (first | rw [if_pos (by omega)] | rw [if_neg (by omega)])); first | done | rfl) dX6_flip_42
    · skip
      refine lv_iload_n C.1 C.2.1 dX6_flip_29 rfl (lv_at hl 1 rfl) ?_
      refine lv_aload_n C.1 C.2.1 dX6_flip_30 rfl (lv_at hl 0 rfl) ?_
      refine z_get C wd (Cn := RX6) (TT := TX6) (N := 11) (ci := 6) iX6 0 rfl rfl 0 (by decide) L7 (fun _ h => h) rfl dX6_flip_31 ?_
      refine z_bipush C dX6_flip_34 (by decide +kernel) ?_
      refine z_iald C wd 1 rfl (by omega) (by decide) dX6_flip_36 ?_
      refine z_icmp_ge C (tgt := 43) dX6_flip_37 (by decide) (by omega) (fun c_3 => ?_) (fun c_3 => ?_)
      · skip
        exact False.elim (by omega)
      · skip
        refine z_bipush C dX6_flip_40 (by decide +kernel) ?_
        exact z_iret C hr hlk wd (by unfold fNo; (repeat (first | rw [if_pos (by omega)] | rw [if_neg (by omega)])); first | done | rfl) dX6_flip_42
  · skip
    refine z_iconst C dX6_flip_14 ?_
    exact z_iret C hr hlk wd (by unfold fNo; (repeat (first | rw [if_pos (by omega)] | rw [if_neg (by omega)])); first | done | rfl) dX6_flip_15
set_option maxRecDepth 100000 in
set_option maxHeartbeats 4000000 in
theorem c_meraseB (l : Launch) (D : va_G) (cy cs : ClassId) (m0 m1 m2 m3 m4 m5 m6 m7 m8 : Nat) (st iss ty : Int) (M : Int → Int) (k : Int) (hln : 0 ≤ M 7 * M 1 ∧ M 7 * M 1 ≤ 240) (hli : ∀ j : Int, 0 ≤ j → j < 240 → 0 ≤ M (92 + j) ∧ M (92 + j) ≤ 2) (h8 : 0 ≤ M 8 ∧ M 8 ≤ 240) (hk : -2147483648 ≤ k ∧ k < 2147483648) (hno : ¬ (0 ≤ k ∧ k < M 7 * M 1) ∨ M (92 + k) = 2 ∨ k < M 8) : zCi l D (zT cy cs) yX6_erase wsX6_erase ({ frames := 1, cells := 0, slots := 0, locals := 22 } : Room) [.ref m0, .int (iI k)] [zO m0 6 [.ref m1, .ref m2, .int (iI st), .ref m3, .int (iI iss), .ref m4, .int (iI ty), .ref m5, .ref m6, .ref m7, .ref m8], zA cy m1 780 M] (eNo M k) [zO m0 6 [.ref m1, .ref m2, .int (iI st), .ref m3, .int (iI iss), .ref m4, .int (iI ty), .ref m5, .ref m6, .ref m7, .ref m8], zA cy m1 780 M] := by
  intro sz
  refine zM_mk (cc := cX6_erase) (maxL := 3) (ret := (some .int)) (own := RX6) (Qc := fun sz => va_Qi (fun r (_ : Unit) => r = iI (eNo M k)) (fun _ t => zQ D (zT cy cs) (va_A [zO m0 6 [.ref m1, .ref m2, .int (iI st), .ref m3, .int (iI iss), .ref m4, .int (iI ty), .ref m5, .ref m6, .ref m7, .ref m8], zA cy m1 780 M] sz) [zO m0 6 [.ref m1, .ref m2, .int (iI st), .ref m3, .int (iI iss), .ref m4, .int (iI ty), .ref m5, .ref m6, .ref m7, .ref m8], zA cy m1 780 M] t) (va_A [zO m0 6 [.ref m1, .ref m2, .int (iI st), .ref m3, .int (iI iss), .ref m4, .int (iI ty), .ref m5, .ref m6, .ref m7, .ref m8], zA cy m1 780 M] sz)) (by decide) rfl rfl (Nat.le_of_ble_eq_true rfl) rfl sz ?_
  intro p e s m args below meth c ls C hr hlk hnm hl hsz hA wd
  subst hsz
  have hl : lv_has ls 3 [(0, .ref m0), (1, .int (iI k))] := hl
  have iX6 : ∀ w ∈ u_ws RX6 TX6 11, w ∈ wsX6_erase := by decide +kernel
  have L7 := C.2.2.2.2 (.fieldLink RX6 7 "LikelyWalksModel" "now" "[I") (by decide +kernel)
  refine lv_iload_n C.1 C.2.1 dX6_erase_0 rfl (lv_at hl 1 rfl) ?_
  refine z_iconst C dX6_erase_1 ?_
  refine lv_aload_n C.1 C.2.1 dX6_erase_2 rfl (lv_at hl 0 rfl) ?_
  refine z_cvi C wd hA (As := []) (rest := [.int (iI 0), .int (iI k)]) (ws2 := [zO m0 6 [.ref m1, .ref m2, .int (iI st), .ref m3, .int (iI iss), .ref m4, .int (iI ty), .ref m5, .ref m6, .ref m7, .ref m8], zA cy m1 780 M]) (c_X6_symbols l D cy cs m0 m1 m2 m3 m4 m5 m6 m7 m8 st iss ty M ) (cwV 0 C.2.2.2.2 gX6_erase_X6_symbols rfl rfl rfl (by decide +kernel) ⟨Nat.le_of_ble_eq_true rfl, Nat.le_of_ble_eq_true rfl⟩) [0, 1] rfl rfl rfl ⟨rfl, [], [], 2, rfl, rfl, rfl, by decide +kernel⟩ rfl rfl rfl rfl (Nat.le_of_ble_eq_true rfl) hl.1 dX6_erase_3 ⟨Nat.zero_le _, Nat.zero_le _⟩ (fun H locs wd => ?_)
  refine z_iconst C dX6_erase_6 ?_
  refine z_isub C dX6_erase_7 ?_
  refine z_csi C wd hA (As := [.int (iI k), .int (iI 0), .int (iI ((M 7 * M 1) - 1))]) (rest := []) (ws2 := [zO m0 6 [.ref m1, .ref m2, .int (iI st), .ref m3, .int (iI iss), .ref m4, .int (iI ty), .ref m5, .ref m6, .ref m7, .ref m8], zA cy m1 780 M]) (c_X6_in l D cy cs k 0 ((M 7 * M 1) - 1) (by omega) (by omega) (by omega)) (cwS 3 C.2.2.2.2 gX6_erase_X6_in rfl rfl rfl (by decide +kernel) ⟨Nat.le_of_ble_eq_true rfl, Nat.le_of_ble_eq_true rfl⟩) [] rfl rfl rfl ⟨rfl, [0, 1], [zO m0 6 [.ref m1, .ref m2, .int (iI st), .ref m3, .int (iI iss), .ref m4, .int (iI ty), .ref m5, .ref m6, .ref m7, .ref m8], zA cy m1 780 M], 2, rfl, rfl, rfl, by decide +kernel⟩ rfl rfl (Nat.le_of_ble_eq_true rfl) hl.1 dX6_erase_8 ⟨Nat.zero_le _, Nat.zero_le _⟩ (fun H locs wd => ?_)
  refine z_ifb_ne C (tgt := 16) dX6_erase_11 (by decide) (fun c_1 => ?_) (fun c_1 => ?_)
  · skip
    refine lv_iload_n C.1 C.2.1 dX6_erase_16 rfl (lv_at hl 1 rfl) ?_
    refine lv_aload_n C.1 C.2.1 dX6_erase_17 rfl (lv_at hl 0 rfl) ?_
    refine z_get C wd (Cn := RX6) (TT := TX6) (N := 11) (ci := 6) iX6 0 rfl rfl 0 (by decide) L7 (fun _ h => h) rfl dX6_erase_18 ?_
    refine z_bipush C dX6_erase_21 (by decide +kernel) ?_
    refine z_iald C wd 1 rfl (by omega) (by decide) dX6_erase_23 ?_
    refine z_icmp_ge C (tgt := 30) dX6_erase_24 (by decide) (by omega) (fun c_2 => ?_) (fun c_2 => ?_)
    · skip
      refine lv_aload_n C.1 C.2.1 dX6_erase_30 rfl (lv_at hl 0 rfl) ?_
      refine z_get C wd (Cn := RX6) (TT := TX6) (N := 11) (ci := 6) iX6 0 rfl rfl 0 (by decide) L7 (fun _ h => h) rfl dX6_erase_31 ?_
      refine z_bipush C dX6_erase_34 (by decide +kernel) ?_
      refine lv_iload_n C.1 C.2.1 dX6_erase_36 rfl (lv_at hl 1 rfl) ?_
      refine z_iadd C dX6_erase_37 ?_
      have hx := hli k (by omega) (by omega)
      refine z_iald C wd 1 rfl (by omega) (by decide) dX6_erase_38 ?_
      refine lv_istore_n (lv' := [(2, .int (iI (M (92 + k)))), (0, .ref m0), (1, .int (iI k))]) C.1 C.2.1 dX6_erase_39 rfl hl (by decide) rfl (fun ls hl => ?_)
      refine lv_iload_n C.1 C.2.1 dX6_erase_40 rfl (lv_at hl 0 rfl) ?_
      refine z_iconst C dX6_erase_41 ?_
      refine z_icmp_ne C (tgt := 48) dX6_erase_42 (by decide) (by omega) (fun c_3 => ?_) (fun c_3 => ?_)
      · skip
        exact False.elim (by omega)
      · skip
        refine z_bipush C dX6_erase_45 (by decide +kernel) ?_
        exact z_iret C hr hlk wd (by unfold eNo; (repeat (first | rw [if_pos (by omega)] | rw [if_neg (by omega)])); first | done | rfl) dX6_erase_47
    · skip
      refine z_bipush C dX6_erase_27 (by decide +kernel) ?_
      exact z_iret C hr hlk wd (by unfold eNo; (repeat (first | rw [if_pos (by omega)] | rw [if_neg (by omega)])); first | done | rfl) dX6_erase_29
  · skip
    refine z_iconst C dX6_erase_14 ?_
    exact z_iret C hr hlk wd (by unfold eNo; (repeat (first | rw [if_pos (by omega)] | rw [if_neg (by omega)])); first | done | rfl) dX6_erase_15
set_option maxRecDepth 100000 in
set_option maxHeartbeats 4000000 in
theorem c_msetDepthB (l : Launch) (D : va_G) (cy cs : ClassId) (m0 m1 m2 m3 m4 m5 m6 m7 m8 : Nat) (st iss ty : Int) (M : Int → Int) (d : Int) (h9 : 0 ≤ M 9 ∧ M 9 ≤ 80) (h5 : 2 ≤ M 5 ∧ M 5 ≤ 40) (hd : -2147483648 ≤ d ∧ d < 2147483648) (hno : ¬ (2 ≤ d ∧ d ≤ 40) ∨ 0 < M 9 ∨ M 5 = d) : zCi l D (zT cy cs) yX6_setDepth wsX6_setDepth ({ frames := 1, cells := 0, slots := 0, locals := 22 } : Room) [.ref m0, .int (iI d)] [zO m0 6 [.ref m1, .ref m2, .int (iI st), .ref m3, .int (iI iss), .ref m4, .int (iI ty), .ref m5, .ref m6, .ref m7, .ref m8], zA cy m1 780 M] (sdNo M d) [zO m0 6 [.ref m1, .ref m2, .int (iI st), .ref m3, .int (iI iss), .ref m4, .int (iI ty), .ref m5, .ref m6, .ref m7, .ref m8], zA cy m1 780 M] := by
  intro sz
  refine zM_mk (cc := cX6_setDepth) (maxL := 3) (ret := (some .int)) (own := RX6) (Qc := fun sz => va_Qi (fun r (_ : Unit) => r = iI (sdNo M d)) (fun _ t => zQ D (zT cy cs) (va_A [zO m0 6 [.ref m1, .ref m2, .int (iI st), .ref m3, .int (iI iss), .ref m4, .int (iI ty), .ref m5, .ref m6, .ref m7, .ref m8], zA cy m1 780 M] sz) [zO m0 6 [.ref m1, .ref m2, .int (iI st), .ref m3, .int (iI iss), .ref m4, .int (iI ty), .ref m5, .ref m6, .ref m7, .ref m8], zA cy m1 780 M] t) (va_A [zO m0 6 [.ref m1, .ref m2, .int (iI st), .ref m3, .int (iI iss), .ref m4, .int (iI ty), .ref m5, .ref m6, .ref m7, .ref m8], zA cy m1 780 M] sz)) (by decide) rfl rfl (Nat.le_of_ble_eq_true rfl) rfl sz ?_
  intro p e s m args below meth c ls C hr hlk hnm hl hsz hA wd
  subst hsz
  have hl : lv_has ls 3 [(0, .ref m0), (1, .int (iI d))] := hl
  have iX6 : ∀ w ∈ u_ws RX6 TX6 11, w ∈ wsX6_setDepth := by decide +kernel
  have L7 := C.2.2.2.2 (.fieldLink RX6 7 "LikelyWalksModel" "now" "[I") (by decide +kernel)
  refine lv_iload_n C.1 C.2.1 dX6_setDepth_0 rfl (lv_at hl 1 rfl) ?_
  refine z_iconst C dX6_setDepth_1 ?_
  refine z_bipush C dX6_setDepth_2 (by decide +kernel) ?_
  refine z_csi C wd hA (As := [.int (iI d), .int (iI 2), .int (iI 40)]) (rest := []) (ws2 := [zO m0 6 [.ref m1, .ref m2, .int (iI st), .ref m3, .int (iI iss), .ref m4, .int (iI ty), .ref m5, .ref m6, .ref m7, .ref m8], zA cy m1 780 M]) (c_X6_in l D cy cs d 2 40 (by omega) (by omega) (by omega)) (cwS 3 C.2.2.2.2 gX6_setDepth_X6_in rfl rfl rfl (by decide +kernel) ⟨Nat.le_of_ble_eq_true rfl, Nat.le_of_ble_eq_true rfl⟩) [] rfl rfl rfl ⟨rfl, [0, 1], [zO m0 6 [.ref m1, .ref m2, .int (iI st), .ref m3, .int (iI iss), .ref m4, .int (iI ty), .ref m5, .ref m6, .ref m7, .ref m8], zA cy m1 780 M], 2, rfl, rfl, rfl, by decide +kernel⟩ rfl rfl (Nat.le_of_ble_eq_true rfl) hl.1 dX6_setDepth_4 ⟨Nat.zero_le _, Nat.zero_le _⟩ (fun H locs wd => ?_)
  refine z_ifb_ne C (tgt := 13) dX6_setDepth_7 (by decide) (fun c_1 => ?_) (fun c_1 => ?_)
  · skip
    refine lv_aload_n C.1 C.2.1 dX6_setDepth_13 rfl (lv_at hl 0 rfl) ?_
    refine z_get C wd (Cn := RX6) (TT := TX6) (N := 11) (ci := 6) iX6 0 rfl rfl 0 (by decide) L7 (fun _ h => h) rfl dX6_setDepth_14 ?_
    refine z_iconst C dX6_setDepth_17 ?_
    refine z_iald C wd 1 rfl (by omega) (by decide) dX6_setDepth_18 ?_
    refine lv_istore_n (lv' := [(2, .int (iI (M 5))), (0, .ref m0), (1, .int (iI d))]) C.1 C.2.1 dX6_setDepth_19 rfl hl (by decide) rfl (fun ls hl => ?_)
    refine lv_aload_n C.1 C.2.1 dX6_setDepth_20 rfl (lv_at hl 1 rfl) ?_
    refine z_get C wd (Cn := RX6) (TT := TX6) (N := 11) (ci := 6) iX6 0 rfl rfl 0 (by decide) L7 (fun _ h => h) rfl dX6_setDepth_21 ?_
    refine z_bipush C dX6_setDepth_24 (by decide +kernel) ?_
    refine z_iald C wd 1 rfl (by omega) (by decide) dX6_setDepth_26 ?_
    refine z_if_le C (tgt := 33) dX6_setDepth_27 (by decide) (by omega) (fun c_2 => ?_) (fun c_2 => ?_)
    · skip
      refine lv_iload_n C.1 C.2.1 dX6_setDepth_33 rfl (lv_at hl 0 rfl) ?_
      refine lv_iload_n C.1 C.2.1 dX6_setDepth_34 rfl (lv_at hl 2 rfl) ?_
      refine z_icmp_ne C (tgt := 41) dX6_setDepth_35 (by decide) (by omega) (fun c_3 => ?_) (fun c_3 => ?_)
      · skip
        exact False.elim (by omega)
      · skip
        refine z_bipush C dX6_setDepth_38 (by decide +kernel) ?_
        exact z_iret C hr hlk wd (by unfold sdNo; (repeat (first | rw [if_pos (by omega)] | rw [if_neg (by omega)])); first | done | rfl) dX6_setDepth_40
    · skip
      refine z_bipush C dX6_setDepth_30 (by decide +kernel) ?_
      exact z_iret C hr hlk wd (by unfold sdNo; (repeat (first | rw [if_pos (by omega)] | rw [if_neg (by omega)])); first | done | rfl) dX6_setDepth_32
  · skip
    refine z_bipush C dX6_setDepth_10 (by decide +kernel) ?_
    exact z_iret C hr hlk wd (by unfold sdNo; (repeat (first | rw [if_pos (by omega)] | rw [if_neg (by omega)])); first | done | rfl) dX6_setDepth_12
set_option maxRecDepth 100000 in
set_option maxHeartbeats 4000000 in
theorem c_msetCodeB (l : Launch) (D : va_G) (cy cs : ClassId) (m0 m1 m2 m3 m4 m5 m6 m7 m8 : Nat) (st iss ty : Int) (M : Int → Int) (f0 f1 f2 f3 : Int) (hf0 : -2147483648 ≤ f0 ∧ f0 < 2147483648) (hf1 : -2147483648 ≤ f1 ∧ f1 < 2147483648) (hf2 : -2147483648 ≤ f2 ∧ f2 < 2147483648) (hf3 : -2147483648 ≤ f3 ∧ f3 < 2147483648) (hno : ¬ (1 ≤ f0 ∧ f0 ≤ 5) ∨ ¬ (1 ≤ f1 ∧ f1 ≤ 2 * p2 f0 - 1) ∨ ¬ (1 ≤ f2 ∧ f2 ≤ 2 * p2 f0 - 1) ∨ ¬ (0 ≤ f3 ∧ f3 ≤ 2 * p2 f0 - 1)) : zCi l D (zT cy cs) yX6_setCode wsX6_setCode ({ frames := 1, cells := 0, slots := 0, locals := 22 } : Room) [.ref m0, .int (iI f0), .int (iI f1), .int (iI f2), .int (iI f3)] [zO m0 6 [.ref m1, .ref m2, .int (iI st), .ref m3, .int (iI iss), .ref m4, .int (iI ty), .ref m5, .ref m6, .ref m7, .ref m8]] (-2) [zO m0 6 [.ref m1, .ref m2, .int (iI st), .ref m3, .int (iI iss), .ref m4, .int (iI ty), .ref m5, .ref m6, .ref m7, .ref m8]] := by
  intro sz
  refine zM_mk (cc := cX6_setCode) (maxL := 6) (ret := (some .int)) (own := RX6) (Qc := fun sz => va_Qi (fun r (_ : Unit) => r = iI (-2)) (fun _ t => zQ D (zT cy cs) (va_A [zO m0 6 [.ref m1, .ref m2, .int (iI st), .ref m3, .int (iI iss), .ref m4, .int (iI ty), .ref m5, .ref m6, .ref m7, .ref m8]] sz) [zO m0 6 [.ref m1, .ref m2, .int (iI st), .ref m3, .int (iI iss), .ref m4, .int (iI ty), .ref m5, .ref m6, .ref m7, .ref m8]] t) (va_A [zO m0 6 [.ref m1, .ref m2, .int (iI st), .ref m3, .int (iI iss), .ref m4, .int (iI ty), .ref m5, .ref m6, .ref m7, .ref m8]] sz)) (by decide) rfl rfl (Nat.le_of_ble_eq_true rfl) rfl sz ?_
  intro p e s m args below meth c ls C hr hlk hnm hl hsz hA wd
  subst hsz
  have hl : lv_has ls 6 [(0, .ref m0), (1, .int (iI f0)), (2, .int (iI f1)), (3, .int (iI f2)), (4, .int (iI f3))] := hl
  refine lv_iload_n C.1 C.2.1 dX6_setCode_0 rfl (lv_at hl 1 rfl) ?_
  refine z_iconst C dX6_setCode_1 ?_
  refine z_iconst C dX6_setCode_2 ?_
  refine z_csi C wd hA (As := [.int (iI f0), .int (iI 1), .int (iI 5)]) (rest := []) (ws2 := [zO m0 6 [.ref m1, .ref m2, .int (iI st), .ref m3, .int (iI iss), .ref m4, .int (iI ty), .ref m5, .ref m6, .ref m7, .ref m8]]) (c_X6_in l D cy cs f0 1 5 (by omega) (by omega) (by omega)) (cwS 3 C.2.2.2.2 gX6_setCode_X6_in rfl rfl rfl (by decide +kernel) ⟨Nat.le_of_ble_eq_true rfl, Nat.le_of_ble_eq_true rfl⟩) [] rfl rfl rfl ⟨rfl, [0], [zO m0 6 [.ref m1, .ref m2, .int (iI st), .ref m3, .int (iI iss), .ref m4, .int (iI ty), .ref m5, .ref m6, .ref m7, .ref m8]], 1, rfl, rfl, rfl, by decide +kernel⟩ rfl rfl (Nat.le_of_ble_eq_true rfl) hl.1 dX6_setCode_3 ⟨Nat.zero_le _, Nat.zero_le _⟩ (fun H locs wd => ?_)
  refine z_ifb_ne C (tgt := 12) dX6_setCode_6 (by decide) (fun c_1 => ?_) (fun c_1 => ?_)
  · skip
    have hp := p2_all (mm := f0) (by omega) (by omega)
    refine z_iconst C dX6_setCode_12 ?_
    refine lv_iload_n C.1 C.2.1 dX6_setCode_13 rfl (lv_at hl 1 rfl) ?_
    refine z_ishl C (2 * p2 f0) dX6_setCode_14 (iI_shl (by omega) (by omega) (by omega) (by omega)) ?_
    refine z_iconst C dX6_setCode_15 ?_
    refine z_isub C dX6_setCode_16 ?_
    refine lv_istore (lv' := [(5, .int (iI ((2 * p2 f0) - 1))), (0, .ref m0), (1, .int (iI f0)), (2, .int (iI f1)), (3, .int (iI f2)), (4, .int (iI f3))]) C.1 C.2.1 dX6_setCode_17 hl (by decide) rfl (fun ls hl => ?_)
    refine lv_iload_n C.1 C.2.1 dX6_setCode_19 rfl (lv_at hl 3 rfl) ?_
    refine z_iconst C dX6_setCode_20 ?_
    refine lv_iload C.1 C.2.1 dX6_setCode_21 (lv_at hl 0 rfl) ?_
    refine z_csi C wd hA (As := [.int (iI f1), .int (iI 1), .int (iI ((2 * p2 f0) - 1))]) (rest := []) (ws2 := [zO m0 6 [.ref m1, .ref m2, .int (iI st), .ref m3, .int (iI iss), .ref m4, .int (iI ty), .ref m5, .ref m6, .ref m7, .ref m8]]) (c_X6_in l D cy cs f1 1 ((2 * p2 f0) - 1) (by omega) (by omega) (by omega)) (cwS 3 C.2.2.2.2 gX6_setCode_X6_in rfl rfl rfl (by decide +kernel) ⟨Nat.le_of_ble_eq_true rfl, Nat.le_of_ble_eq_true rfl⟩) [] rfl rfl rfl ⟨rfl, [0], [zO m0 6 [.ref m1, .ref m2, .int (iI st), .ref m3, .int (iI iss), .ref m4, .int (iI ty), .ref m5, .ref m6, .ref m7, .ref m8]], 1, rfl, rfl, rfl, by decide +kernel⟩ rfl rfl (Nat.le_of_ble_eq_true rfl) hl.1 dX6_setCode_23 ⟨Nat.zero_le _, Nat.zero_le _⟩ (fun H locs wd => ?_)
    refine z_ifb_eq C (tgt := 50) dX6_setCode_26 (by decide) (fun c_2 => ?_) (fun c_2 => ?_)
    · skip
      refine z_bipush C dX6_setCode_50 (by decide +kernel) ?_
      exact z_iret C hr hlk wd rfl dX6_setCode_52
    · skip
      refine lv_iload_n C.1 C.2.1 dX6_setCode_29 rfl (lv_at hl 4 rfl) ?_
      refine z_iconst C dX6_setCode_30 ?_
      refine lv_iload C.1 C.2.1 dX6_setCode_31 (lv_at hl 0 rfl) ?_
      refine z_csi C wd hA (As := [.int (iI f2), .int (iI 1), .int (iI ((2 * p2 f0) - 1))]) (rest := []) (ws2 := [zO m0 6 [.ref m1, .ref m2, .int (iI st), .ref m3, .int (iI iss), .ref m4, .int (iI ty), .ref m5, .ref m6, .ref m7, .ref m8]]) (c_X6_in l D cy cs f2 1 ((2 * p2 f0) - 1) (by omega) (by omega) (by omega)) (cwS 3 C.2.2.2.2 gX6_setCode_X6_in rfl rfl rfl (by decide +kernel) ⟨Nat.le_of_ble_eq_true rfl, Nat.le_of_ble_eq_true rfl⟩) [] rfl rfl rfl ⟨rfl, [0], [zO m0 6 [.ref m1, .ref m2, .int (iI st), .ref m3, .int (iI iss), .ref m4, .int (iI ty), .ref m5, .ref m6, .ref m7, .ref m8]], 1, rfl, rfl, rfl, by decide +kernel⟩ rfl rfl (Nat.le_of_ble_eq_true rfl) hl.1 dX6_setCode_33 ⟨Nat.zero_le _, Nat.zero_le _⟩ (fun H locs wd => ?_)
      refine z_ifb_eq C (tgt := 50) dX6_setCode_36 (by decide) (fun c_3 => ?_) (fun c_3 => ?_)
      · skip
        refine z_bipush C dX6_setCode_50 (by decide +kernel) ?_
        exact z_iret C hr hlk wd rfl dX6_setCode_52
      · skip
        refine lv_iload C.1 C.2.1 dX6_setCode_39 (lv_at hl 5 rfl) ?_
        refine z_iconst C dX6_setCode_41 ?_
        refine lv_iload C.1 C.2.1 dX6_setCode_42 (lv_at hl 0 rfl) ?_
        refine z_csi C wd hA (As := [.int (iI f3), .int (iI 0), .int (iI ((2 * p2 f0) - 1))]) (rest := []) (ws2 := [zO m0 6 [.ref m1, .ref m2, .int (iI st), .ref m3, .int (iI iss), .ref m4, .int (iI ty), .ref m5, .ref m6, .ref m7, .ref m8]]) (c_X6_in l D cy cs f3 0 ((2 * p2 f0) - 1) (by omega) (by omega) (by omega)) (cwS 3 C.2.2.2.2 gX6_setCode_X6_in rfl rfl rfl (by decide +kernel) ⟨Nat.le_of_ble_eq_true rfl, Nat.le_of_ble_eq_true rfl⟩) [] rfl rfl rfl ⟨rfl, [0], [zO m0 6 [.ref m1, .ref m2, .int (iI st), .ref m3, .int (iI iss), .ref m4, .int (iI ty), .ref m5, .ref m6, .ref m7, .ref m8]], 1, rfl, rfl, rfl, by decide +kernel⟩ rfl rfl (Nat.le_of_ble_eq_true rfl) hl.1 dX6_setCode_44 ⟨Nat.zero_le _, Nat.zero_le _⟩ (fun H locs wd => ?_)
        refine z_ifb_ne C (tgt := 53) dX6_setCode_47 (by decide) (fun c_4 => ?_) (fun c_4 => ?_)
        · skip
          exact False.elim (by omega)
        · skip
          refine z_bipush C dX6_setCode_50 (by decide +kernel) ?_
          exact z_iret C hr hlk wd rfl dX6_setCode_52
  · skip
    refine z_bipush C dX6_setCode_9 (by decide +kernel) ?_
    exact z_iret C hr hlk wd rfl dX6_setCode_11
set_option maxRecDepth 100000 in
set_option maxHeartbeats 4000000 in
theorem c_msendB (l : Launch) (D : va_G) (cy cs : ClassId) (m0 m1 m2 m3 m4 m5 m6 m7 m8 : Nat) (st iss ty : Int) (M : Int → Int) (tx : Int → Int) (h7 : 0 ≤ M 7 ∧ M 7 ≤ 80) (hty : 0 ≤ ty ∧ ty ≤ 60) (htx : ∀ k : Int, 0 ≤ k → k < 60 → 0 ≤ tx k ∧ tx k < 65536) (hno : ff (fun z9 => vc (tx z9)) ty (1 + 0) ≠ -1 ∨ 80 < M 7 + ty) (hfl : -1 ≤ ff (fun z9 => vc (tx z9)) ty (1 + 0) ∧ ff (fun z9 => vc (tx z9)) ty (1 + 0) ≤ 60) : zCi l D (zT cy cs) yX6_send wsX6_send ({ frames := 1, cells := 0, slots := 0, locals := 22 } : Room) [.ref m0] [zO m0 6 [.ref m1, .ref m2, .int (iI st), .ref m3, .int (iI iss), .ref m4, .int (iI ty), .ref m5, .ref m6, .ref m7, .ref m8], zA cy m1 780 M, zA cy m4 60 tx] (sNo (ff (fun z9 => vc (tx z9)) ty (1 + 0))) [zO m0 6 [.ref m1, .ref m2, .int (iI st), .ref m3, .int (iI iss), .ref m4, .int (iI ty), .ref m5, .ref m6, .ref m7, .ref m8], zA cy m1 780 M, zA cy m4 60 tx] := by
  intro sz
  refine zM_mk (cc := cX6_send) (maxL := 3) (ret := (some .int)) (own := RX6) (Qc := fun sz => va_Qi (fun r (_ : Unit) => r = iI (sNo (ff (fun z9 => vc (tx z9)) ty (1 + 0)))) (fun _ t => zQ D (zT cy cs) (va_A [zO m0 6 [.ref m1, .ref m2, .int (iI st), .ref m3, .int (iI iss), .ref m4, .int (iI ty), .ref m5, .ref m6, .ref m7, .ref m8], zA cy m1 780 M, zA cy m4 60 tx] sz) [zO m0 6 [.ref m1, .ref m2, .int (iI st), .ref m3, .int (iI iss), .ref m4, .int (iI ty), .ref m5, .ref m6, .ref m7, .ref m8], zA cy m1 780 M, zA cy m4 60 tx] t) (va_A [zO m0 6 [.ref m1, .ref m2, .int (iI st), .ref m3, .int (iI iss), .ref m4, .int (iI ty), .ref m5, .ref m6, .ref m7, .ref m8], zA cy m1 780 M, zA cy m4 60 tx] sz)) (by decide) rfl rfl (Nat.le_of_ble_eq_true rfl) rfl sz ?_
  intro p e s m args below meth c ls C hr hlk hnm hl hsz hA wd
  subst hsz
  have hl : lv_has ls 3 [(0, .ref m0)] := hl
  have iX6 : ∀ w ∈ u_ws RX6 TX6 11, w ∈ wsX6_send := by decide +kernel
  have L7 := C.2.2.2.2 (.fieldLink RX6 7 "LikelyWalksModel" "now" "[I") (by decide +kernel)
  have L56 := C.2.2.2.2 (.fieldLink RX6 56 "LikelyWalksModel" "typed" "I") (by decide +kernel)
  refine lv_aload_n C.1 C.2.1 dX6_send_0 rfl (lv_at hl 0 rfl) ?_
  refine z_iconst C dX6_send_1 ?_
  refine z_cvi C wd hA (As := [.int (iI 0)]) (rest := []) (ws2 := [zO m0 6 [.ref m1, .ref m2, .int (iI st), .ref m3, .int (iI iss), .ref m4, .int (iI ty), .ref m5, .ref m6, .ref m7, .ref m8], zA cy m1 780 M, zA cy m4 60 tx]) (c_X6_fault l D cy cs m0 m1 m2 m3 m4 m5 m6 m7 m8 st iss ty (fun _ => 0) 0 tx (by omega) (by omega) htx) (cwV 1 C.2.2.2.2 gX6_send_X6_fault rfl rfl rfl (by decide +kernel) ⟨Nat.le_of_ble_eq_true rfl, Nat.le_of_ble_eq_true rfl⟩) [0, 2] rfl rfl rfl ⟨rfl, [1], [zA cy m1 780 M], 3, rfl, rfl, rfl, by decide +kernel⟩ rfl rfl rfl rfl (Nat.le_of_ble_eq_true rfl) hl.1 dX6_send_2 ⟨Nat.zero_le _, Nat.zero_le _⟩ (fun H locs wd => ?_)
  refine lv_istore_n (lv' := [(1, .int (iI (ff (fun z9 => vc (tx z9)) ty (1 + 0)))), (0, .ref m0)]) C.1 C.2.1 dX6_send_5 rfl hl (by decide) rfl (fun ls hl => ?_)
  refine lv_iload_n C.1 C.2.1 dX6_send_6 rfl (lv_at hl 0 rfl) ?_
  refine z_if_lt C (tgt := 15) dX6_send_7 (by decide) (by omega) (fun c_1 => ?_) (fun c_1 => ?_)
  · skip
    refine lv_aload_n C.1 C.2.1 dX6_send_15 rfl (lv_at hl 1 rfl) ?_
    refine z_get C wd (Cn := RX6) (TT := TX6) (N := 11) (ci := 6) iX6 0 rfl rfl 0 (by decide) L7 (fun _ h => h) rfl dX6_send_16 ?_
    refine z_bipush C dX6_send_19 (by decide +kernel) ?_
    refine z_iald C wd 1 rfl (by omega) (by decide) dX6_send_21 ?_
    refine lv_aload_n C.1 C.2.1 dX6_send_22 rfl (lv_at hl 1 rfl) ?_
    refine z_get C wd (Cn := RX6) (TT := TX6) (N := 11) (ci := 6) iX6 0 rfl rfl 6 (by decide) L56 (fun _ h => h) rfl dX6_send_23 ?_
    refine z_iadd C dX6_send_26 ?_
    refine z_bipush C dX6_send_27 (by decide +kernel) ?_
    refine z_icmp_le C (tgt := 35) dX6_send_29 (by decide) (by omega) (fun c_2 => ?_) (fun c_2 => ?_)
    · skip
      exact False.elim (by omega)
    · skip
      refine z_bipush C dX6_send_32 (by decide +kernel) ?_
      exact z_iret C hr hlk wd (by unfold sNo; (repeat (first | rw [if_pos (by omega)] | rw [if_neg (by omega)])); first | done | rfl) dX6_send_34
  · skip
    refine z_bipush C dX6_send_10 (by decide +kernel) ?_
    refine lv_iload_n C.1 C.2.1 dX6_send_12 rfl (lv_at hl 0 rfl) ?_
    refine z_isub C dX6_send_13 ?_
    exact z_iret C hr hlk wd (by unfold sNo; (repeat (first | rw [if_pos (by omega)] | rw [if_neg (by omega)])); first | done | rfl) dX6_send_14
set_option maxRecDepth 100000 in
set_option maxHeartbeats 4000000 in
theorem c_msendTailB (l : Launch) (D : va_G) (cy cs : ClassId) (m0 m1 m2 m3 m4 m5 m6 m7 m8 : Nat) (st iss ty : Int) (M : Int → Int) (h7 : 0 ≤ M 7 ∧ M 7 ≤ 80) (hm : 1 ≤ M 0 ∧ M 0 ≤ 5) (hno : 80 < M 7 + M 0) : zCi l D (zT cy cs) yX6_sendTail wsX6_sendTail ({ frames := 0, cells := 0, slots := 0, locals := 0 } : Room) [.ref m0] [zO m0 6 [.ref m1, .ref m2, .int (iI st), .ref m3, .int (iI iss), .ref m4, .int (iI ty), .ref m5, .ref m6, .ref m7, .ref m8], zA cy m1 780 M] (-3) [zO m0 6 [.ref m1, .ref m2, .int (iI st), .ref m3, .int (iI iss), .ref m4, .int (iI ty), .ref m5, .ref m6, .ref m7, .ref m8], zA cy m1 780 M] := by
  intro sz
  refine zM_mk (cc := cX6_sendTail) (maxL := 2) (ret := (some .int)) (own := RX6) (Qc := fun sz => va_Qi (fun r (_ : Unit) => r = iI (-3)) (fun _ t => zQ D (zT cy cs) (va_A [zO m0 6 [.ref m1, .ref m2, .int (iI st), .ref m3, .int (iI iss), .ref m4, .int (iI ty), .ref m5, .ref m6, .ref m7, .ref m8], zA cy m1 780 M] sz) [zO m0 6 [.ref m1, .ref m2, .int (iI st), .ref m3, .int (iI iss), .ref m4, .int (iI ty), .ref m5, .ref m6, .ref m7, .ref m8], zA cy m1 780 M] t) (va_A [zO m0 6 [.ref m1, .ref m2, .int (iI st), .ref m3, .int (iI iss), .ref m4, .int (iI ty), .ref m5, .ref m6, .ref m7, .ref m8], zA cy m1 780 M] sz)) (by decide) rfl rfl (Nat.le_of_ble_eq_true rfl) rfl sz ?_
  intro p e s m args below meth c ls C hr hlk hnm hl hsz hA wd
  subst hsz
  have hl : lv_has ls 2 [(0, .ref m0)] := hl
  have iX6 : ∀ w ∈ u_ws RX6 TX6 11, w ∈ wsX6_sendTail := by decide +kernel
  have L7 := C.2.2.2.2 (.fieldLink RX6 7 "LikelyWalksModel" "now" "[I") (by decide +kernel)
  refine lv_aload_n C.1 C.2.1 dX6_sendTail_0 rfl (lv_at hl 0 rfl) ?_
  refine z_get C wd (Cn := RX6) (TT := TX6) (N := 11) (ci := 6) iX6 0 rfl rfl 0 (by decide) L7 (fun _ h => h) rfl dX6_sendTail_1 ?_
  refine z_bipush C dX6_sendTail_4 (by decide +kernel) ?_
  refine z_iald C wd 1 rfl (by omega) (by decide) dX6_sendTail_6 ?_
  refine lv_aload_n C.1 C.2.1 dX6_sendTail_7 rfl (lv_at hl 0 rfl) ?_
  refine z_get C wd (Cn := RX6) (TT := TX6) (N := 11) (ci := 6) iX6 0 rfl rfl 0 (by decide) L7 (fun _ h => h) rfl dX6_sendTail_8 ?_
  refine z_iconst C dX6_sendTail_11 ?_
  refine z_iald C wd 1 rfl (by omega) (by decide) dX6_sendTail_12 ?_
  refine z_iadd C dX6_sendTail_13 ?_
  refine z_bipush C dX6_sendTail_14 (by decide +kernel) ?_
  refine z_icmp_le C (tgt := 22) dX6_sendTail_16 (by decide) (by omega) (fun c_1 => ?_) (fun c_1 => ?_)
  · skip
    exact False.elim (by omega)
  · skip
    refine z_bipush C dX6_sendTail_19 (by decide +kernel) ?_
    exact z_iret C hr hlk wd rfl dX6_sendTail_21
set_option maxRecDepth 100000 in
set_option maxHeartbeats 4000000 in
theorem c_mundoB (l : Launch) (D : va_G) (cy cs : ClassId) (m0 m1 m2 m3 m4 m5 m6 m7 m8 : Nat) (st iss ty : Int) (M : Int → Int) (hst : st = 0) : zCi l D (zT cy cs) yX6_undo wsX6_undo ({ frames := 0, cells := 0, slots := 0, locals := 0 } : Room) [.ref m0] [zO m0 6 [.ref m1, .ref m2, .int (iI st), .ref m3, .int (iI iss), .ref m4, .int (iI ty), .ref m5, .ref m6, .ref m7, .ref m8]] (-5) [zO m0 6 [.ref m1, .ref m2, .int (iI st), .ref m3, .int (iI iss), .ref m4, .int (iI ty), .ref m5, .ref m6, .ref m7, .ref m8]] := by
  intro sz
  refine zM_mk (cc := cX6_undo) (maxL := 2) (ret := (some .int)) (own := RX6) (Qc := fun sz => va_Qi (fun r (_ : Unit) => r = iI (-5)) (fun _ t => zQ D (zT cy cs) (va_A [zO m0 6 [.ref m1, .ref m2, .int (iI st), .ref m3, .int (iI iss), .ref m4, .int (iI ty), .ref m5, .ref m6, .ref m7, .ref m8]] sz) [zO m0 6 [.ref m1, .ref m2, .int (iI st), .ref m3, .int (iI iss), .ref m4, .int (iI ty), .ref m5, .ref m6, .ref m7, .ref m8]] t) (va_A [zO m0 6 [.ref m1, .ref m2, .int (iI st), .ref m3, .int (iI iss), .ref m4, .int (iI ty), .ref m5, .ref m6, .ref m7, .ref m8]] sz)) (by decide) rfl rfl (Nat.le_of_ble_eq_true rfl) rfl sz ?_
  intro p e s m args below meth c ls C hr hlk hnm hl hsz hA wd
  subst hsz
  have hl : lv_has ls 2 [(0, .ref m0)] := hl
  have iX6 : ∀ w ∈ u_ws RX6 TX6 11, w ∈ wsX6_undo := by decide +kernel
  have L37 := C.2.2.2.2 (.fieldLink RX6 37 "LikelyWalksModel" "states" "I") (by decide +kernel)
  refine lv_aload_n C.1 C.2.1 dX6_undo_0 rfl (lv_at hl 0 rfl) ?_
  refine z_get C wd (Cn := RX6) (TT := TX6) (N := 11) (ci := 6) iX6 0 rfl rfl 2 (by decide) L37 (fun _ h => h) rfl dX6_undo_1 ?_
  refine z_if_ne C (tgt := 10) dX6_undo_4 (by decide) (by omega) (fun c_1 => ?_) (fun c_1 => ?_)
  · skip
    exact False.elim (by omega)
  · skip
    refine z_bipush C dX6_undo_7 (by decide +kernel) ?_
    exact z_iret C hr hlk wd rfl dX6_undo_9
set_option maxRecDepth 100000 in
set_option maxHeartbeats 4000000 in
theorem c_mrestoreB (l : Launch) (D : va_G) (cy cs : ClassId) (m0 m1 m2 m3 m4 m5 m6 m7 m8 : Nat) (st iss ty : Int) (M : Int → Int) (hiss : iss = 0) : zCi l D (zT cy cs) yX6_restore wsX6_restore ({ frames := 0, cells := 0, slots := 0, locals := 0 } : Room) [.ref m0] [zO m0 6 [.ref m1, .ref m2, .int (iI st), .ref m3, .int (iI iss), .ref m4, .int (iI ty), .ref m5, .ref m6, .ref m7, .ref m8]] (-5) [zO m0 6 [.ref m1, .ref m2, .int (iI st), .ref m3, .int (iI iss), .ref m4, .int (iI ty), .ref m5, .ref m6, .ref m7, .ref m8]] := by
  intro sz
  refine zM_mk (cc := cX6_restore) (maxL := 2) (ret := (some .int)) (own := RX6) (Qc := fun sz => va_Qi (fun r (_ : Unit) => r = iI (-5)) (fun _ t => zQ D (zT cy cs) (va_A [zO m0 6 [.ref m1, .ref m2, .int (iI st), .ref m3, .int (iI iss), .ref m4, .int (iI ty), .ref m5, .ref m6, .ref m7, .ref m8]] sz) [zO m0 6 [.ref m1, .ref m2, .int (iI st), .ref m3, .int (iI iss), .ref m4, .int (iI ty), .ref m5, .ref m6, .ref m7, .ref m8]] t) (va_A [zO m0 6 [.ref m1, .ref m2, .int (iI st), .ref m3, .int (iI iss), .ref m4, .int (iI ty), .ref m5, .ref m6, .ref m7, .ref m8]] sz)) (by decide) rfl rfl (Nat.le_of_ble_eq_true rfl) rfl sz ?_
  intro p e s m args below meth c ls C hr hlk hnm hl hsz hA wd
  subst hsz
  have hl : lv_has ls 2 [(0, .ref m0)] := hl
  have iX6 : ∀ w ∈ u_ws RX6 TX6 11, w ∈ wsX6_restore := by decide +kernel
  have L92 := C.2.2.2.2 (.fieldLink RX6 92 "LikelyWalksModel" "isShot" "Z") (by decide +kernel)
  refine lv_aload_n C.1 C.2.1 dX6_restore_0 rfl (lv_at hl 0 rfl) ?_
  refine z_get C wd (Cn := RX6) (TT := TX6) (N := 11) (ci := 6) iX6 0 rfl rfl 4 (by decide) L92 (fun _ h => h) rfl dX6_restore_1 ?_
  refine z_if_ne C (tgt := 10) dX6_restore_4 (by decide) (by omega) (fun c_1 => ?_) (fun c_1 => ?_)
  · skip
    exact False.elim (by omega)
  · skip
    refine z_bipush C dX6_restore_7 (by decide +kernel) ?_
    exact z_iret C hr hlk wd rfl dX6_restore_9
