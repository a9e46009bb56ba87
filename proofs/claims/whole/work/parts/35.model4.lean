set_option maxRecDepth 100000 in
set_option maxHeartbeats 4000000 in
theorem c_mflipA (l : Launch) (D : va_G) (cy cs : ClassId) (m0 m1 m2 m3 m4 m5 m6 m7 m8 : Nat) (st iss ty : Int) (M : Int → Int) (Hs : Int → Int) (k : Int) (hst : 0 ≤ st ∧ st ≤ 4) (hk : 0 ≤ k ∧ k < M 7 * M 1) (hln : 0 ≤ M 7 * M 1 ∧ M 7 * M 1 ≤ 240) (hli : ∀ j : Int, 0 ≤ j → j < 240 → 0 ≤ M (92 + j) ∧ M (92 + j) ≤ 2) (h8 : 0 ≤ M 8 ∧ M 8 ≤ 240) (hk2 : M (92 + k) ≠ 2 ∧ ¬ k < M 8) : zCi l D (zT cy cs) yX6_flip wsX6_flip ({ frames := 1, cells := 0, slots := 0, locals := 22 } : Room) [.ref m0, .int (iI k)] [zO m0 6 [.ref m1, .ref m2, .int (iI st), .ref m3, .int (iI iss), .ref m4, .int (iI ty), .ref m5, .ref m6, .ref m7, .ref m8], zA cy m1 780 M, zA cy m2 3120 Hs] (1 - sl M 92 k) [zO m0 6 [.ref m1, .ref m2, .int (iI (pn st)), .ref m3, .int (iI iss), .ref m4, .int (iI ty), .ref m5, .ref m6, .ref m7, .ref m8], zA cy m1 780 (flM M k), zA cy m2 3120 (recH M Hs st)] := by
  intro sz
  refine zM_mk (cc := cX6_flip) (maxL := 2) (ret := (some .int)) (own := RX6) (Qc := fun sz => va_Qi (fun r (_ : Unit) => r = iI (1 - sl M 92 k)) (fun _ t => zQ D (zT cy cs) (va_A [zO m0 6 [.ref m1, .ref m2, .int (iI st), .ref m3, .int (iI iss), .ref m4, .int (iI ty), .ref m5, .ref m6, .ref m7, .ref m8], zA cy m1 780 M, zA cy m2 3120 Hs] sz) [zO m0 6 [.ref m1, .ref m2, .int (iI (pn st)), .ref m3, .int (iI iss), .ref m4, .int (iI ty), .ref m5, .ref m6, .ref m7, .ref m8], zA cy m1 780 (flM M k), zA cy m2 3120 (recH M Hs st)] t) (va_A [zO m0 6 [.ref m1, .ref m2, .int (iI st), .ref m3, .int (iI iss), .ref m4, .int (iI ty), .ref m5, .ref m6, .ref m7, .ref m8], zA cy m1 780 M, zA cy m2 3120 Hs] sz)) (by decide) rfl rfl (Nat.le_of_ble_eq_true rfl) rfl sz ?_
  intro p e s m args below meth c ls C hr hlk hnm hl hsz hA wd
  subst hsz
  have hl : lv_has ls 2 [(0, .ref m0), (1, .int (iI k))] := hl
  have iX6 : ∀ w ∈ u_ws RX6 TX6 11, w ∈ wsX6_flip := by decide +kernel
  have L7 := C.2.2.2.2 (.fieldLink RX6 7 "LikelyWalksModel" "now" "[I") (by decide +kernel)
  refine lv_iload_n C.1 C.2.1 dX6_flip_0 rfl (lv_at hl 1 rfl) ?_
  refine z_iconst C dX6_flip_1 ?_
  refine lv_aload_n C.1 C.2.1 dX6_flip_2 rfl (lv_at hl 0 rfl) ?_
  refine z_cvi C wd hA (As := []) (rest := [.int (iI 0), .int (iI k)]) (ws2 := [zO m0 6 [.ref m1, .ref m2, .int (iI st), .ref m3, .int (iI iss), .ref m4, .int (iI ty), .ref m5, .ref m6, .ref m7, .ref m8], zA cy m1 780 M, zA cy m2 3120 Hs]) (c_X6_symbols l D cy cs m0 m1 m2 m3 m4 m5 m6 m7 m8 st iss ty M ) (cwV 0 C.2.2.2.2 gX6_flip_X6_symbols rfl rfl rfl (by decide +kernel) ⟨Nat.le_of_ble_eq_true rfl, Nat.le_of_ble_eq_true rfl⟩) [0, 1] rfl rfl rfl ⟨rfl, [2], [zA cy m2 3120 Hs], 3, rfl, rfl, rfl, by decide +kernel⟩ rfl rfl rfl rfl (Nat.le_of_ble_eq_true rfl) hl.1 dX6_flip_3 ⟨Nat.zero_le _, Nat.zero_le _⟩ (fun H locs wd => ?_)
  refine z_iconst C dX6_flip_6 ?_
  refine z_isub C dX6_flip_7 ?_
  refine z_csi C wd hA (As := [.int (iI k), .int (iI 0), .int (iI ((M 7 * M 1) - 1))]) (rest := []) (ws2 := [zO m0 6 [.ref m1, .ref m2, .int (iI st), .ref m3, .int (iI iss), .ref m4, .int (iI ty), .ref m5, .ref m6, .ref m7, .ref m8], zA cy m1 780 M, zA cy m2 3120 Hs]) (c_X6_in l D cy cs k 0 ((M 7 * M 1) - 1) (by omega) (by omega) (by omega)) (cwS 3 C.2.2.2.2 gX6_flip_X6_in rfl rfl rfl (by decide +kernel) ⟨Nat.le_of_ble_eq_true rfl, Nat.le_of_ble_eq_true rfl⟩) [] rfl rfl rfl ⟨rfl, [0, 1, 2], [zO m0 6 [.ref m1, .ref m2, .int (iI st), .ref m3, .int (iI iss), .ref m4, .int (iI ty), .ref m5, .ref m6, .ref m7, .ref m8], zA cy m1 780 M, zA cy m2 3120 Hs], 3, rfl, rfl, rfl, by decide +kernel⟩ rfl rfl (Nat.le_of_ble_eq_true rfl) hl.1 dX6_flip_8 ⟨Nat.zero_le _, Nat.zero_le _⟩ (fun H locs wd => ?_)
  refine z_ifb_ne C (tgt := 16) dX6_flip_11 (by decide) (fun c_1 => ?_) (fun c_1 => ?_)
  · skip
    refine lv_aload_n C.1 C.2.1 dX6_flip_16 rfl (lv_at hl 0 rfl) ?_
    refine z_get C wd (Cn := RX6) (TT := TX6) (N := 11) (ci := 6) iX6 0 rfl rfl 0 (by decide) L7 (fun _ h => h) rfl dX6_flip_17 ?_
    refine z_bipush C dX6_flip_20 (by decide +kernel) ?_
    refine lv_iload_n C.1 C.2.1 dX6_flip_22 rfl (lv_at hl 1 rfl) ?_
    refine z_iadd C dX6_flip_23 ?_
    have hx := hli k (by omega) (by omega)
    refine z_iald C wd 1 rfl (by omega) (by decide) dX6_flip_24 ?_
    refine z_iconst C dX6_flip_25 ?_
    refine z_icmp_eq C (tgt := 40) dX6_flip_26 (by decide) (by omega) (fun c_2 => ?_) (fun c_2 => ?_)
    · skip
      exact False.elim (by omega)
    · skip
      refine lv_iload_n C.1 C.2.1 dX6_flip_29 rfl (lv_at hl 1 rfl) ?_
      refine lv_aload_n C.1 C.2.1 dX6_flip_30 rfl (lv_at hl 0 rfl) ?_
      refine z_get C wd (Cn := RX6) (TT := TX6) (N := 11) (ci := 6) iX6 0 rfl rfl 0 (by decide) L7 (fun _ h => h) rfl dX6_flip_31 ?_
      refine z_bipush C dX6_flip_34 (by decide +kernel) ?_
      refine z_iald C wd 1 rfl (by omega) (by decide) dX6_flip_36 ?_
      refine z_icmp_ge C (tgt := 43) dX6_flip_37 (by decide) (by omega) (fun c_3 => ?_) (fun c_3 => ?_)
      · skip
        refine lv_aload_n C.1 C.2.1 dX6_flip_43 rfl (lv_at hl 0 rfl) ?_
        refine z_cvv C wd hA (As := []) (rest := []) (ws2 := [zO m0 6 [.ref m1, .ref m2, .int (iI (pn st)), .ref m3, .int (iI iss), .ref m4, .int (iI ty), .ref m5, .ref m6, .ref m7, .ref m8], zA cy m1 780 M, zA cy m2 3120 (recH M Hs st)]) (c_X6_record l D cy cs m0 m1 m2 m3 m4 m5 m6 m7 m8 st iss ty M Hs (by omega)) (cwV 0 C.2.2.2.2 gX6_flip_X6_record rfl rfl rfl (by decide +kernel) ⟨Nat.le_of_ble_eq_true rfl, Nat.le_of_ble_eq_true rfl⟩) [0, 1, 2] rfl rfl rfl ⟨rfl, [], [], 3, rfl, rfl, rfl, by decide +kernel⟩ rfl rfl rfl rfl (Nat.le_of_ble_eq_true rfl) hl.1 dX6_flip_44 ⟨Nat.zero_le _, Nat.zero_le _⟩ (fun H locs wd => ?_)
        refine lv_aload_n C.1 C.2.1 dX6_flip_47 rfl (lv_at hl 0 rfl) ?_
        refine z_get C wd (Cn := RX6) (TT := TX6) (N := 11) (ci := 6) iX6 0 rfl rfl 0 (by decide) L7 (fun _ h => h) rfl dX6_flip_48 ?_
        refine z_bipush C dX6_flip_51 (by decide +kernel) ?_
        refine lv_iload_n C.1 C.2.1 dX6_flip_53 rfl (lv_at hl 1 rfl) ?_
        refine z_iadd C dX6_flip_54 ?_
        refine z_iconst C dX6_flip_55 ?_
        refine lv_aload_n C.1 C.2.1 dX6_flip_56 rfl (lv_at hl 0 rfl) ?_
        refine z_get C wd (Cn := RX6) (TT := TX6) (N := 11) (ci := 6) iX6 0 rfl rfl 0 (by decide) L7 (fun _ h => h) rfl dX6_flip_57 ?_
        refine z_bipush C dX6_flip_60 (by decide +kernel) ?_
        refine lv_iload_n C.1 C.2.1 dX6_flip_62 rfl (lv_at hl 1 rfl) ?_
        refine z_iadd C dX6_flip_63 ?_
        refine z_iald C wd 1 rfl (by omega) (by decide) dX6_flip_64 ?_
        refine z_isub C dX6_flip_65 ?_
        refine z_iast C wd (ws2 := [zO m0 6 [.ref m1, .ref m2, .int (iI (pn st)), .ref m3, .int (iI iss), .ref m4, .int (iI ty), .ref m5, .ref m6, .ref m7, .ref m8], zA cy m1 780 (uZ M (92 + k) (1 - (M (92 + k)))), zA cy m2 3120 (recH M Hs st)]) 1 rfl (by omega) (by decide) rfl dX6_flip_66 (fun H locs wd => ?_)
        refine lv_aload_n C.1 C.2.1 dX6_flip_67 rfl (lv_at hl 0 rfl) ?_
        refine z_get C wd (Cn := RX6) (TT := TX6) (N := 11) (ci := 6) iX6 0 rfl rfl 0 (by decide) L7 (fun _ h => h) rfl dX6_flip_68 ?_
        refine z_bipush C dX6_flip_71 (by decide +kernel) ?_
        refine lv_iload_n C.1 C.2.1 dX6_flip_73 rfl (lv_at hl 1 rfl) ?_
        refine z_iadd C dX6_flip_74 ?_
        refine z_iald C wd 1 rfl (by omega) (by decide) dX6_flip_75 ?_
        have wd := z_cell wd (ws2 := [zO m0 6 [.ref m1, .ref m2, .int (iI (pn st)), .ref m3, .int (iI iss), .ref m4, .int (iI ty), .ref m5, .ref m6, .ref m7, .ref m8], zA cy m1 780 (flM M k), zA cy m2 3120 (recH M Hs st)]) 1 rfl (fun _ _ _ => rfl) rfl
        exact z_iret C hr hlk wd uZ_s dX6_flip_76
      · skip
        exact False.elim (by omega)
  · skip
    exact False.elim (by omega)
set_option maxRecDepth 100000 in
set_option maxHeartbeats 4000000 in
theorem c_meraseA (l : Launch) (D : va_G) (cy cs : ClassId) (m0 m1 m2 m3 m4 m5 m6 m7 m8 : Nat) (st iss ty : Int) (M : Int → Int) (Hs : Int → Int) (k : Int) (hst : 0 ≤ st ∧ st ≤ 4) (hk : 0 ≤ k ∧ k < M 7 * M 1) (hln : 0 ≤ M 7 * M 1 ∧ M 7 * M 1 ≤ 240) (hli : ∀ j : Int, 0 ≤ j → j < 240 → 0 ≤ M (92 + j) ∧ M (92 + j) ≤ 2) (h8 : 0 ≤ M 8 ∧ M 8 ≤ 240) (hk2 : M (92 + k) ≠ 2 ∧ ¬ k < M 8) : zCi l D (zT cy cs) yX6_erase wsX6_erase ({ frames := 1, cells := 0, slots := 0, locals := 22 } : Room) [.ref m0, .int (iI k)] [zO m0 6 [.ref m1, .ref m2, .int (iI st), .ref m3, .int (iI iss), .ref m4, .int (iI ty), .ref m5, .ref m6, .ref m7, .ref m8], zA cy m1 780 M, zA cy m2 3120 Hs] (sl M 92 k) [zO m0 6 [.ref m1, .ref m2, .int (iI (pn st)), .ref m3, .int (iI iss), .ref m4, .int (iI ty), .ref m5, .ref m6, .ref m7, .ref m8], zA cy m1 780 (erM M k), zA cy m2 3120 (recH M Hs st)] := by
  intro sz
  refine zM_mk (cc := cX6_erase) (maxL := 3) (ret := (some .int)) (own := RX6) (Qc := fun sz => va_Qi (fun r (_ : Unit) => r = iI (sl M 92 k)) (fun _ t => zQ D (zT cy cs) (va_A [zO m0 6 [.ref m1, .ref m2, .int (iI st), .ref m3, .int (iI iss), .ref m4, .int (iI ty), .ref m5, .ref m6, .ref m7, .ref m8], zA cy m1 780 M, zA cy m2 3120 Hs] sz) [zO m0 6 [.ref m1, .ref m2, .int (iI (pn st)), .ref m3, .int (iI iss), .ref m4, .int (iI ty), .ref m5, .ref m6, .ref m7, .ref m8], zA cy m1 780 (erM M k), zA cy m2 3120 (recH M Hs st)] t) (va_A [zO m0 6 [.ref m1, .ref m2, .int (iI st), .ref m3, .int (iI iss), .ref m4, .int (iI ty), .ref m5, .ref m6, .ref m7, .ref m8], zA cy m1 780 M, zA cy m2 3120 Hs] sz)) (by decide) rfl rfl (Nat.le_of_ble_eq_true rfl) rfl sz ?_
  intro p e s m args below meth c ls C hr hlk hnm hl hsz hA wd
  subst hsz
  have hl : lv_has ls 3 [(0, .ref m0), (1, .int (iI k))] := hl
  have iX6 : ∀ w ∈ u_ws RX6 TX6 11, w ∈ wsX6_erase := by decide +kernel
  have L7 := C.2.2.2.2 (.fieldLink RX6 7 "LikelyWalksModel" "now" "[I") (by decide +kernel)
  refine lv_iload_n C.1 C.2.1 dX6_erase_0 rfl (lv_at hl 1 rfl) ?_
  refine z_iconst C dX6_erase_1 ?_
  refine lv_aload_n C.1 C.2.1 dX6_erase_2 rfl (lv_at hl 0 rfl) ?_
  refine z_cvi C wd hA (As := []) (rest := [.int (iI 0), .int (iI k)]) (ws2 := [zO m0 6 [.ref m1, .ref m2, .int (iI st), .ref m3, .int (iI iss), .ref m4, .int (iI ty), .ref m5, .ref m6, .ref m7, .ref m8], zA cy m1 780 M, zA cy m2 3120 Hs]) (c_X6_symbols l D cy cs m0 m1 m2 m3 m4 m5 m6 m7 m8 st iss ty M ) (cwV 0 C.2.2.2.2 gX6_erase_X6_symbols rfl rfl rfl (by decide +kernel) ⟨Nat.le_of_ble_eq_true rfl, Nat.le_of_ble_eq_true rfl⟩) [0, 1] rfl rfl rfl ⟨rfl, [2], [zA cy m2 3120 Hs], 3, rfl, rfl, rfl, by decide +kernel⟩ rfl rfl rfl rfl (Nat.le_of_ble_eq_true rfl) hl.1 dX6_erase_3 ⟨Nat.zero_le _, Nat.zero_le _⟩ (fun H locs wd => ?_)
  refine z_iconst C dX6_erase_6 ?_
  refine z_isub C dX6_erase_7 ?_
  refine z_csi C wd hA (As := [.int (iI k), .int (iI 0), .int (iI ((M 7 * M 1) - 1))]) (rest := []) (ws2 := [zO m0 6 [.ref m1, .ref m2, .int (iI st), .ref m3, .int (iI iss), .ref m4, .int (iI ty), .ref m5, .ref m6, .ref m7, .ref m8], zA cy m1 780 M, zA cy m2 3120 Hs]) (c_X6_in l D cy cs k 0 ((M 7 * M 1) - 1) (by omega) (by omega) (by omega)) (cwS 3 C.2.2.2.2 gX6_erase_X6_in rfl rfl rfl (by decide +kernel) ⟨Nat.le_of_ble_eq_true rfl, Nat.le_of_ble_eq_true rfl⟩) [] rfl rfl rfl ⟨rfl, [0, 1, 2], [zO m0 6 [.ref m1, .ref m2, .int (iI st), .ref m3, .int (iI iss), .ref m4, .int (iI ty), .ref m5, .ref m6, .ref m7, .ref m8], zA cy m1 780 M, zA cy m2 3120 Hs], 3, rfl, rfl, rfl, by decide +kernel⟩ rfl rfl (Nat.le_of_ble_eq_true rfl) hl.1 dX6_erase_8 ⟨Nat.zero_le _, Nat.zero_le _⟩ (fun H locs wd => ?_)
  refine z_ifb_ne C (tgt := 16) dX6_erase_11 (by decide) (fun c_1 => ?_) (fun c_1 => ?_)
  · skip
    refine lv_iload_n C.1 C.2.1 dX6_erase_16 rfl (lv_at hl 1 rfl) ?_
    refine lv_aload_n C.1 C.2.1 dX6_erase_17 rfl (lv_at hl 0 rfl) ?_
    refine z_get C wd (Cn := RX6) (TT := TX6) (N := 11) (ci := 6) iX6 0 rfl rfl 0 (by decide) L7 (fun _ h => h) rfl dX6_erase_18 ?_
    refine z_bipush C dX6_erase_21 (by decide +kernel) ?_
    refine z_iald C wd 1 rfl (by omega) (by decide) dX6_erase_23 ?_
    refine z_icmp_ge C (tgt := 30) dX6_erase_24 (by decide) (by omega) (fun c_2 => ?_) (fun c_2 => ?_)
    · skip
      refine lv_aload_n C.1 C.2.1 dX6_erase_30 rfl (lv_at hl 0 rfl) ?_
      refine z_get C wd (Cn := RX6) (TT := TX6) (N := 11) (ci := 6) iX6 0 rfl rfl 0 (by decide) L7 (fun _ h => h) rfl dX6_erase_31 ?_
      refine z_bipush C dX6_erase_34 (by decide +kernel) ?_
      refine lv_iload_n C.1 C.2.1 dX6_erase_36 rfl (lv_at hl 1 rfl) ?_
      refine z_iadd C dX6_erase_37 ?_
      have hx := hli k (by omega) (by omega)
      refine z_iald C wd 1 rfl (by omega) (by decide) dX6_erase_38 ?_
      refine lv_istore_n (lv' := [(2, .int (iI (M (92 + k)))), (0, .ref m0), (1, .int (iI k))]) C.1 C.2.1 dX6_erase_39 rfl hl (by decide) rfl (fun ls hl => ?_)
      refine lv_iload_n C.1 C.2.1 dX6_erase_40 rfl (lv_at hl 0 rfl) ?_
      refine z_iconst C dX6_erase_41 ?_
      refine z_icmp_ne C (tgt := 48) dX6_erase_42 (by decide) (by omega) (fun c_3 => ?_) (fun c_3 => ?_)
      · skip
        refine lv_aload_n C.1 C.2.1 dX6_erase_48 rfl (lv_at hl 1 rfl) ?_
        refine z_cvv C wd hA (As := []) (rest := []) (ws2 := [zO m0 6 [.ref m1, .ref m2, .int (iI (pn st)), .ref m3, .int (iI iss), .ref m4, .int (iI ty), .ref m5, .ref m6, .ref m7, .ref m8], zA cy m1 780 M, zA cy m2 3120 (recH M Hs st)]) (c_X6_record l D cy cs m0 m1 m2 m3 m4 m5 m6 m7 m8 st iss ty M Hs (by omega)) (cwV 0 C.2.2.2.2 gX6_erase_X6_record rfl rfl rfl (by decide +kernel) ⟨Nat.le_of_ble_eq_true rfl, Nat.le_of_ble_eq_true rfl⟩) [0, 1, 2] rfl rfl rfl ⟨rfl, [], [], 3, rfl, rfl, rfl, by decide +kernel⟩ rfl rfl rfl rfl (Nat.le_of_ble_eq_true rfl) hl.1 dX6_erase_49 ⟨Nat.zero_le _, Nat.zero_le _⟩ (fun H locs wd => ?_)
        refine lv_aload_n C.1 C.2.1 dX6_erase_52 rfl (lv_at hl 1 rfl) ?_
        refine z_get C wd (Cn := RX6) (TT := TX6) (N := 11) (ci := 6) iX6 0 rfl rfl 0 (by decide) L7 (fun _ h => h) rfl dX6_erase_53 ?_
        refine z_bipush C dX6_erase_56 (by decide +kernel) ?_
        refine lv_iload_n C.1 C.2.1 dX6_erase_58 rfl (lv_at hl 2 rfl) ?_
        refine z_iadd C dX6_erase_59 ?_
        refine z_iconst C dX6_erase_60 ?_
        refine z_iast C wd (ws2 := [zO m0 6 [.ref m1, .ref m2, .int (iI (pn st)), .ref m3, .int (iI iss), .ref m4, .int (iI ty), .ref m5, .ref m6, .ref m7, .ref m8], zA cy m1 780 (uZ M (92 + k) 2), zA cy m2 3120 (recH M Hs st)]) 1 rfl (by omega) (by decide) rfl dX6_erase_61 (fun H locs wd => ?_)
        refine lv_iload_n C.1 C.2.1 dX6_erase_62 rfl (lv_at hl 0 rfl) ?_
        have wd := z_cell wd (ws2 := [zO m0 6 [.ref m1, .ref m2, .int (iI (pn st)), .ref m3, .int (iI iss), .ref m4, .int (iI ty), .ref m5, .ref m6, .ref m7, .ref m8], zA cy m1 780 (erM M k), zA cy m2 3120 (recH M Hs st)]) 1 rfl (fun _ _ _ => rfl) rfl
        exact z_iret C hr hlk wd rfl dX6_erase_63
      · skip
        exact False.elim (by omega)
    · skip
      exact False.elim (by omega)
  · skip
    exact False.elim (by omega)
set_option maxRecDepth 100000 in
set_option maxHeartbeats 4000000 in
theorem c_msetDepthA (l : Launch) (D : va_G) (cy cs : ClassId) (m0 m1 m2 m3 m4 m5 m6 m7 m8 : Nat) (st iss ty : Int) (M : Int → Int) (Hs : Int → Int) (d : Int) (hst : 0 ≤ st ∧ st ≤ 4) (hd : 2 ≤ d ∧ d ≤ 40) (h9 : M 9 = 0) (h5 : 2 ≤ M 5 ∧ M 5 ≤ 40 ∧ M 5 ≠ d) : zCi l D (zT cy cs) yX6_setDepth wsX6_setDepth ({ frames := 1, cells := 0, slots := 0, locals := 22 } : Room) [.ref m0, .int (iI d)] [zO m0 6 [.ref m1, .ref m2, .int (iI st), .ref m3, .int (iI iss), .ref m4, .int (iI ty), .ref m5, .ref m6, .ref m7, .ref m8], zA cy m1 780 M, zA cy m2 3120 Hs] (M 5) [zO m0 6 [.ref m1, .ref m2, .int (iI (pn st)), .ref m3, .int (iI iss), .ref m4, .int (iI ty), .ref m5, .ref m6, .ref m7, .ref m8], zA cy m1 780 (sdM M d), zA cy m2 3120 (recH M Hs st)] := by
  intro sz
  refine zM_mk (cc := cX6_setDepth) (maxL := 3) (ret := (some .int)) (own := RX6) (Qc := fun sz => va_Qi (fun r (_ : Unit) => r = iI (M 5)) (fun _ t => zQ D (zT cy cs) (va_A [zO m0 6 [.ref m1, .ref m2, .int (iI st), .ref m3, .int (iI iss), .ref m4, .int (iI ty), .ref m5, .ref m6, .ref m7, .ref m8], zA cy m1 780 M, zA cy m2 3120 Hs] sz) [zO m0 6 [.ref m1, .ref m2, .int (iI (pn st)), .ref m3, .int (iI iss), .ref m4, .int (iI ty), .ref m5, .ref m6, .ref m7, .ref m8], zA cy m1 780 (sdM M d), zA cy m2 3120 (recH M Hs st)] t) (va_A [zO m0 6 [.ref m1, .ref m2, .int (iI st), .ref m3, .int (iI iss), .ref m4, .int (iI ty), .ref m5, .ref m6, .ref m7, .ref m8], zA cy m1 780 M, zA cy m2 3120 Hs] sz)) (by decide) rfl rfl (Nat.le_of_ble_eq_true rfl) rfl sz ?_
  intro p e s m args below meth c ls C hr hlk hnm hl hsz hA wd
  subst hsz
  have hl : lv_has ls 3 [(0, .ref m0), (1, .int (iI d))] := hl
  have iX6 : ∀ w ∈ u_ws RX6 TX6 11, w ∈ wsX6_setDepth := by decide +kernel
  have L7 := C.2.2.2.2 (.fieldLink RX6 7 "LikelyWalksModel" "now" "[I") (by decide +kernel)
  refine lv_iload_n C.1 C.2.1 dX6_setDepth_0 rfl (lv_at hl 1 rfl) ?_
  refine z_iconst C dX6_setDepth_1 ?_
  refine z_bipush C dX6_setDepth_2 (by decide +kernel) ?_
  refine z_csi C wd hA (As := [.int (iI d), .int (iI 2), .int (iI 40)]) (rest := []) (ws2 := [zO m0 6 [.ref m1, .ref m2, .int (iI st), .ref m3, .int (iI iss), .ref m4, .int (iI ty), .ref m5, .ref m6, .ref m7, .ref m8], zA cy m1 780 M, zA cy m2 3120 Hs]) (c_X6_in l D cy cs d 2 40 (by omega) (by omega) (by omega)) (cwS 3 C.2.2.2.2 gX6_setDepth_X6_in rfl rfl rfl (by decide +kernel) ⟨Nat.le_of_ble_eq_true rfl, Nat.le_of_ble_eq_true rfl⟩) [] rfl rfl rfl ⟨rfl, [0, 1, 2], [zO m0 6 [.ref m1, .ref m2, .int (iI st), .ref m3, .int (iI iss), .ref m4, .int (iI ty), .ref m5, .ref m6, .ref m7, .ref m8], zA cy m1 780 M, zA cy m2 3120 Hs], 3, rfl, rfl, rfl, by decide +kernel⟩ rfl rfl (Nat.le_of_ble_eq_true rfl) hl.1 dX6_setDepth_4 ⟨Nat.zero_le _, Nat.zero_le _⟩ (fun H locs wd => ?_)
  refine z_ifb_ne C (tgt := 13) dX6_setDepth_7 (by decide) (fun c_1 => ?_) (fun c_1 => ?_)
  · skip
    refine lv_aload_n C.1 C.2.1 dX6_setDepth_13 rfl (lv_at hl 0 rfl) ?_
    refine z_get C wd (Cn := RX6) (TT := TX6) (N := 11) (ci := 6) iX6 0 rfl rfl 0 (by decide) L7 (fun _ h => h) rfl dX6_setDepth_14 ?_
    refine z_iconst C dX6_setDepth_17 ?_
    refine z_iald C wd 1 rfl (by omega) (by decide) dX6_setDepth_18 ?_
    refine lv_istore_n (lv' := [(2, .int (iI (M 5))), (0, .ref m0), (1, .int (iI d))]) C.1 C.2.1 dX6_setDepth_19 rfl hl (by decide) rfl (fun ls hl => ?_)
    refine lv_aload_n C.1 C.2.1 dX6_setDepth_20 rfl (lv_at hl 1 rfl) ?_
    refine z_get C wd (Cn := RX6) (TT := TX6) (N := 11) (ci := 6) iX6 0 rfl rfl 0 (by decide) L7 (fun _ h => h) rfl dX6_setDepth_21 ?_
    refine z_bipush C dX6_setDepth_24 (by decide +kernel) ?_
    refine z_iald C wd 1 rfl (by omega) (by decide) dX6_setDepth_26 ?_
    refine z_if_le C (tgt := 33) dX6_setDepth_27 (by decide) (by omega) (fun c_2 => ?_) (fun c_2 => ?_)
    · skip
      refine lv_iload_n C.1 C.2.1 dX6_setDepth_33 rfl (lv_at hl 0 rfl) ?_
      refine lv_iload_n C.1 C.2.1 dX6_setDepth_34 rfl (lv_at hl 2 rfl) ?_
      refine z_icmp_ne C (tgt := 41) dX6_setDepth_35 (by decide) (by omega) (fun c_3 => ?_) (fun c_3 => ?_)
      · skip
        refine lv_aload_n C.1 C.2.1 dX6_setDepth_41 rfl (lv_at hl 1 rfl) ?_
        refine z_cvv C wd hA (As := []) (rest := []) (ws2 := [zO m0 6 [.ref m1, .ref m2, .int (iI (pn st)), .ref m3, .int (iI iss), .ref m4, .int (iI ty), .ref m5, .ref m6, .ref m7, .ref m8], zA cy m1 780 M, zA cy m2 3120 (recH M Hs st)]) (c_X6_record l D cy cs m0 m1 m2 m3 m4 m5 m6 m7 m8 st iss ty M Hs (by omega)) (cwV 0 C.2.2.2.2 gX6_setDepth_X6_record rfl rfl rfl (by decide +kernel) ⟨Nat.le_of_ble_eq_true rfl, Nat.le_of_ble_eq_true rfl⟩) [0, 1, 2] rfl rfl rfl ⟨rfl, [], [], 3, rfl, rfl, rfl, by decide +kernel⟩ rfl rfl rfl rfl (Nat.le_of_ble_eq_true rfl) hl.1 dX6_setDepth_42 ⟨Nat.zero_le _, Nat.zero_le _⟩ (fun H locs wd => ?_)
        refine lv_aload_n C.1 C.2.1 dX6_setDepth_45 rfl (lv_at hl 1 rfl) ?_
        refine z_get C wd (Cn := RX6) (TT := TX6) (N := 11) (ci := 6) iX6 0 rfl rfl 0 (by decide) L7 (fun _ h => h) rfl dX6_setDepth_46 ?_
        refine z_iconst C dX6_setDepth_49 ?_
        refine lv_iload_n C.1 C.2.1 dX6_setDepth_50 rfl (lv_at hl 2 rfl) ?_
        refine z_iast C wd (ws2 := [zO m0 6 [.ref m1, .ref m2, .int (iI (pn st)), .ref m3, .int (iI iss), .ref m4, .int (iI ty), .ref m5, .ref m6, .ref m7, .ref m8], zA cy m1 780 (uZ M 5 d), zA cy m2 3120 (recH M Hs st)]) 1 rfl (by omega) (by decide) rfl dX6_setDepth_51 (fun H locs wd => ?_)
        refine lv_iload_n C.1 C.2.1 dX6_setDepth_52 rfl (lv_at hl 0 rfl) ?_
        have wd := z_cell wd (ws2 := [zO m0 6 [.ref m1, .ref m2, .int (iI (pn st)), .ref m3, .int (iI iss), .ref m4, .int (iI ty), .ref m5, .ref m6, .ref m7, .ref m8], zA cy m1 780 (sdM M d), zA cy m2 3120 (recH M Hs st)]) 1 rfl (fun _ _ _ => rfl) rfl
        exact z_iret C hr hlk wd rfl dX6_setDepth_53
      · skip
        exact False.elim (by omega)
    · skip
      exact False.elim (by omega)
  · skip
    exact False.elim (by omega)
set_option maxRecDepth 100000 in
set_option maxHeartbeats 4000000 in
theorem c_msetCodeA (l : Launch) (D : va_G) (cy cs : ClassId) (m0 m1 m2 m3 m4 m5 m6 m7 m8 : Nat) (st iss ty : Int) (M : Int → Int) (Hs : Int → Int) (f0 f1 f2 f3 : Int) (hst : 0 ≤ st ∧ st ≤ 4) (hf0 : 1 ≤ f0 ∧ f0 ≤ 5) (hf1 : 1 ≤ f1 ∧ f1 ≤ 2 * p2 f0 - 1) (hf2 : 1 ≤ f2 ∧ f2 ≤ 2 * p2 f0 - 1) (hf3 : 0 ≤ f3 ∧ f3 ≤ 2 * p2 f0 - 1) : zCi l D (zT cy cs) yX6_setCode wsX6_setCode ({ frames := 1, cells := 0, slots := 0, locals := 22 } : Room) [.ref m0, .int (iI f0), .int (iI f1), .int (iI f2), .int (iI f3)] [zO m0 6 [.ref m1, .ref m2, .int (iI st), .ref m3, .int (iI iss), .ref m4, .int (iI ty), .ref m5, .ref m6, .ref m7, .ref m8], zA cy m1 780 M, zA cy m2 3120 Hs] (oT f3) [zO m0 6 [.ref m1, .ref m2, .int (iI (pn st)), .ref m3, .int (iI iss), .ref m4, .int (iI ty), .ref m5, .ref m6, .ref m7, .ref m8], zA cy m1 780 (scM M f0 f1 f2 f3), zA cy m2 3120 (recH M Hs st)] := by
  intro sz
  refine zM_mk (cc := cX6_setCode) (maxL := 6) (ret := (some .int)) (own := RX6) (Qc := fun sz => va_Qi (fun r (_ : Unit) => r = iI (oT f3)) (fun _ t => zQ D (zT cy cs) (va_A [zO m0 6 [.ref m1, .ref m2, .int (iI st), .ref m3, .int (iI iss), .ref m4, .int (iI ty), .ref m5, .ref m6, .ref m7, .ref m8], zA cy m1 780 M, zA cy m2 3120 Hs] sz) [zO m0 6 [.ref m1, .ref m2, .int (iI (pn st)), .ref m3, .int (iI iss), .ref m4, .int (iI ty), .ref m5, .ref m6, .ref m7, .ref m8], zA cy m1 780 (scM M f0 f1 f2 f3), zA cy m2 3120 (recH M Hs st)] t) (va_A [zO m0 6 [.ref m1, .ref m2, .int (iI st), .ref m3, .int (iI iss), .ref m4, .int (iI ty), .ref m5, .ref m6, .ref m7, .ref m8], zA cy m1 780 M, zA cy m2 3120 Hs] sz)) (by decide) rfl rfl (Nat.le_of_ble_eq_true rfl) rfl sz ?_
  intro p e s m args below meth c ls C hr hlk hnm hl hsz hA wd
  subst hsz
  have hl : lv_has ls 6 [(0, .ref m0), (1, .int (iI f0)), (2, .int (iI f1)), (3, .int (iI f2)), (4, .int (iI f3))] := hl
  have iX6 : ∀ w ∈ u_ws RX6 TX6 11, w ∈ wsX6_setCode := by decide +kernel
  have L7 := C.2.2.2.2 (.fieldLink RX6 7 "LikelyWalksModel" "now" "[I") (by decide +kernel)
  have hp := p2_all hf0.1 hf0.2
  refine lv_iload_n C.1 C.2.1 dX6_setCode_0 rfl (lv_at hl 1 rfl) ?_
  refine z_iconst C dX6_setCode_1 ?_
  refine z_iconst C dX6_setCode_2 ?_
  refine z_csi C wd hA (As := [.int (iI f0), .int (iI 1), .int (iI 5)]) (rest := []) (ws2 := [zO m0 6 [.ref m1, .ref m2, .int (iI st), .ref m3, .int (iI iss), .ref m4, .int (iI ty), .ref m5, .ref m6, .ref m7, .ref m8], zA cy m1 780 M, zA cy m2 3120 Hs]) (c_X6_in l D cy cs f0 1 5 (by omega) (by omega) (by omega)) (cwS 3 C.2.2.2.2 gX6_setCode_X6_in rfl rfl rfl (by decide +kernel) ⟨Nat.le_of_ble_eq_true rfl, Nat.le_of_ble_eq_true rfl⟩) [] rfl rfl rfl ⟨rfl, [0, 1, 2], [zO m0 6 [.ref m1, .ref m2, .int (iI st), .ref m3, .int (iI iss), .ref m4, .int (iI ty), .ref m5, .ref m6, .ref m7, .ref m8], zA cy m1 780 M, zA cy m2 3120 Hs], 3, rfl, rfl, rfl, by decide +kernel⟩ rfl rfl (Nat.le_of_ble_eq_true rfl) hl.1 dX6_setCode_3 ⟨Nat.zero_le _, Nat.zero_le _⟩ (fun H locs wd => ?_)
  refine z_ifb_ne C (tgt := 12) dX6_setCode_6 (by decide) (fun c_1 => ?_) (fun c_1 => ?_)
  · skip
    refine z_iconst C dX6_setCode_12 ?_
    refine lv_iload_n C.1 C.2.1 dX6_setCode_13 rfl (lv_at hl 1 rfl) ?_
    refine z_ishl C (2 * p2 f0) dX6_setCode_14 (iI_shl (by omega) (by omega) (by omega) (by omega)) ?_
    refine z_iconst C dX6_setCode_15 ?_
    refine z_isub C dX6_setCode_16 ?_
    refine lv_istore (lv' := [(5, .int (iI ((2 * p2 f0) - 1))), (0, .ref m0), (1, .int (iI f0)), (2, .int (iI f1)), (3, .int (iI f2)), (4, .int (iI f3))]) C.1 C.2.1 dX6_setCode_17 hl (by decide) rfl (fun ls hl => ?_)
    refine lv_iload_n C.1 C.2.1 dX6_setCode_19 rfl (lv_at hl 3 rfl) ?_
    refine z_iconst C dX6_setCode_20 ?_
    refine lv_iload C.1 C.2.1 dX6_setCode_21 (lv_at hl 0 rfl) ?_
    refine z_csi C wd hA (As := [.int (iI f1), .int (iI 1), .int (iI ((2 * p2 f0) - 1))]) (rest := []) (ws2 := [zO m0 6 [.ref m1, .ref m2, .int (iI st), .ref m3, .int (iI iss), .ref m4, .int (iI ty), .ref m5, .ref m6, .ref m7, .ref m8], zA cy m1 780 M, zA cy m2 3120 Hs]) (c_X6_in l D cy cs f1 1 ((2 * p2 f0) - 1) (by omega) (by omega) (by omega)) (cwS 3 C.2.2.2.2 gX6_setCode_X6_in rfl rfl rfl (by decide +kernel) ⟨Nat.le_of_ble_eq_true rfl, Nat.le_of_ble_eq_true rfl⟩) [] rfl rfl rfl ⟨rfl, [0, 1, 2], [zO m0 6 [.ref m1, .ref m2, .int (iI st), .ref m3, .int (iI iss), .ref m4, .int (iI ty), .ref m5, .ref m6, .ref m7, .ref m8], zA cy m1 780 M, zA cy m2 3120 Hs], 3, rfl, rfl, rfl, by decide +kernel⟩ rfl rfl (Nat.le_of_ble_eq_true rfl) hl.1 dX6_setCode_23 ⟨Nat.zero_le _, Nat.zero_le _⟩ (fun H locs wd => ?_)
    refine z_ifb_eq C (tgt := 50) dX6_setCode_26 (by decide) (fun c_2 => ?_) (fun c_2 => ?_)
    · skip
      exact False.elim (by omega)
    · skip
      refine lv_iload_n C.1 C.2.1 dX6_setCode_29 rfl (lv_at hl 4 rfl) ?_
      refine z_iconst C dX6_setCode_30 ?_
      refine lv_iload C.1 C.2.1 dX6_setCode_31 (lv_at hl 0 rfl) ?_
      refine z_csi C wd hA (As := [.int (iI f2), .int (iI 1), .int (iI ((2 * p2 f0) - 1))]) (rest := []) (ws2 := [zO m0 6 [.ref m1, .ref m2, .int (iI st), .ref m3, .int (iI iss), .ref m4, .int (iI ty), .ref m5, .ref m6, .ref m7, .ref m8], zA cy m1 780 M, zA cy m2 3120 Hs]) (c_X6_in l D cy cs f2 1 ((2 * p2 f0) - 1) (by omega) (by omega) (by omega)) (cwS 3 C.2.2.2.2 gX6_setCode_X6_in rfl rfl rfl (by decide +kernel) ⟨Nat.le_of_ble_eq_true rfl, Nat.le_of_ble_eq_true rfl⟩) [] rfl rfl rfl ⟨rfl, [0, 1, 2], [zO m0 6 [.ref m1, .ref m2, .int (iI st), .ref m3, .int (iI iss), .ref m4, .int (iI ty), .ref m5, .ref m6, .ref m7, .ref m8], zA cy m1 780 M, zA cy m2 3120 Hs], 3, rfl, rfl, rfl, by decide +kernel⟩ rfl rfl (Nat.le_of_ble_eq_true rfl) hl.1 dX6_setCode_33 ⟨Nat.zero_le _, Nat.zero_le _⟩ (fun H locs wd => ?_)
      refine z_ifb_eq C (tgt := 50) dX6_setCode_36 (by decide) (fun c_3 => ?_) (fun c_3 => ?_)
      · skip
        exact False.elim (by omega)
      · skip
        refine lv_iload C.1 C.2.1 dX6_setCode_39 (lv_at hl 5 rfl) ?_
        refine z_iconst C dX6_setCode_41 ?_
        refine lv_iload C.1 C.2.1 dX6_setCode_42 (lv_at hl 0 rfl) ?_
        refine z_csi C wd hA (As := [.int (iI f3), .int (iI 0), .int (iI ((2 * p2 f0) - 1))]) (rest := []) (ws2 := [zO m0 6 [.ref m1, .ref m2, .int (iI st), .ref m3, .int (iI iss), .ref m4, .int (iI ty), .ref m5, .ref m6, .ref m7, .ref m8], zA cy m1 780 M, zA cy m2 3120 Hs]) (c_X6_in l D cy cs f3 0 ((2 * p2 f0) - 1) (by omega) (by omega) (by omega)) (cwS 3 C.2.2.2.2 gX6_setCode_X6_in rfl rfl rfl (by decide +kernel) ⟨Nat.le_of_ble_eq_true rfl, Nat.le_of_ble_eq_true rfl⟩) [] rfl rfl rfl ⟨rfl, [0, 1, 2], [zO m0 6 [.ref m1, .ref m2, .int (iI st), .ref m3, .int (iI iss), .ref m4, .int (iI ty), .ref m5, .ref m6, .ref m7, .ref m8], zA cy m1 780 M, zA cy m2 3120 Hs], 3, rfl, rfl, rfl, by decide +kernel⟩ rfl rfl (Nat.le_of_ble_eq_true rfl) hl.1 dX6_setCode_44 ⟨Nat.zero_le _, Nat.zero_le _⟩ (fun H locs wd => ?_)
        refine z_ifb_ne C (tgt := 53) dX6_setCode_47 (by decide) (fun c_4 => ?_) (fun c_4 => ?_)
        · skip
          refine lv_aload_n C.1 C.2.1 dX6_setCode_53 rfl (lv_at hl 1 rfl) ?_
          refine z_cvv C wd hA (As := []) (rest := []) (ws2 := [zO m0 6 [.ref m1, .ref m2, .int (iI (pn st)), .ref m3, .int (iI iss), .ref m4, .int (iI ty), .ref m5, .ref m6, .ref m7, .ref m8], zA cy m1 780 M, zA cy m2 3120 (recH M Hs st)]) (c_X6_record l D cy cs m0 m1 m2 m3 m4 m5 m6 m7 m8 st iss ty M Hs (by omega)) (cwV 0 C.2.2.2.2 gX6_setCode_X6_record rfl rfl rfl (by decide +kernel) ⟨Nat.le_of_ble_eq_true rfl, Nat.le_of_ble_eq_true rfl⟩) [0, 1, 2] rfl rfl rfl ⟨rfl, [], [], 3, rfl, rfl, rfl, by decide +kernel⟩ rfl rfl rfl rfl (Nat.le_of_ble_eq_true rfl) hl.1 dX6_setCode_54 ⟨Nat.zero_le _, Nat.zero_le _⟩ (fun H locs wd => ?_)
          refine lv_aload_n C.1 C.2.1 dX6_setCode_57 rfl (lv_at hl 1 rfl) ?_
          refine z_get C wd (Cn := RX6) (TT := TX6) (N := 11) (ci := 6) iX6 0 rfl rfl 0 (by decide) L7 (fun _ h => h) rfl dX6_setCode_58 ?_
          refine z_iconst C dX6_setCode_61 ?_
          refine lv_iload_n C.1 C.2.1 dX6_setCode_62 rfl (lv_at hl 2 rfl) ?_
          refine z_iast C wd (ws2 := [zO m0 6 [.ref m1, .ref m2, .int (iI (pn st)), .ref m3, .int (iI iss), .ref m4, .int (iI ty), .ref m5, .ref m6, .ref m7, .ref m8], zA cy m1 780 (uZ M 0 f0), zA cy m2 3120 (recH M Hs st)]) 1 rfl (by omega) (by decide) rfl dX6_setCode_63 (fun H locs wd => ?_)
          refine lv_aload_n C.1 C.2.1 dX6_setCode_64 rfl (lv_at hl 1 rfl) ?_
          refine z_get C wd (Cn := RX6) (TT := TX6) (N := 11) (ci := 6) iX6 0 rfl rfl 0 (by decide) L7 (fun _ h => h) rfl dX6_setCode_65 ?_
          refine z_iconst C dX6_setCode_68 ?_
          refine lv_iload C.1 C.2.1 dX6_setCode_69 (lv_at hl 5 rfl) ?_
          refine z_if_le C (tgt := 78) dX6_setCode_71 (by decide) (by omega) (fun c_5 => ?_) (fun c_5 => ?_)
          · skip
            refine z_iconst C dX6_setCode_78 ?_
            refine z_top (b := oT f3) (by rw [oT]; first | rw [if_pos (by omega)] | rw [if_neg (by omega)]) ?_
            refine z_iast C wd (ws2 := [zO m0 6 [.ref m1, .ref m2, .int (iI (pn st)), .ref m3, .int (iI iss), .ref m4, .int (iI ty), .ref m5, .ref m6, .ref m7, .ref m8], zA cy m1 780 (uZ (uZ M 0 f0) 1 (oT f3)), zA cy m2 3120 (recH M Hs st)]) 1 rfl (by omega) (by decide) rfl dX6_setCode_79 (fun H locs wd => ?_)
            refine lv_aload_n C.1 C.2.1 dX6_setCode_80 rfl (lv_at hl 1 rfl) ?_
            refine z_get C wd (Cn := RX6) (TT := TX6) (N := 11) (ci := 6) iX6 0 rfl rfl 0 (by decide) L7 (fun _ h => h) rfl dX6_setCode_81 ?_
            refine z_iconst C dX6_setCode_84 ?_
            refine lv_iload_n C.1 C.2.1 dX6_setCode_85 rfl (lv_at hl 3 rfl) ?_
            refine z_iast C wd (ws2 := [zO m0 6 [.ref m1, .ref m2, .int (iI (pn st)), .ref m3, .int (iI iss), .ref m4, .int (iI ty), .ref m5, .ref m6, .ref m7, .ref m8], zA cy m1 780 (uZ (uZ (uZ M 0 f0) 1 (oT f3)) 2 f1), zA cy m2 3120 (recH M Hs st)]) 1 rfl (by omega) (by decide) rfl dX6_setCode_86 (fun H locs wd => ?_)
            refine lv_aload_n C.1 C.2.1 dX6_setCode_87 rfl (lv_at hl 1 rfl) ?_
            refine z_get C wd (Cn := RX6) (TT := TX6) (N := 11) (ci := 6) iX6 0 rfl rfl 0 (by decide) L7 (fun _ h => h) rfl dX6_setCode_88 ?_
            refine z_iconst C dX6_setCode_91 ?_
            refine lv_iload_n C.1 C.2.1 dX6_setCode_92 rfl (lv_at hl 4 rfl) ?_
            refine z_iast C wd (ws2 := [zO m0 6 [.ref m1, .ref m2, .int (iI (pn st)), .ref m3, .int (iI iss), .ref m4, .int (iI ty), .ref m5, .ref m6, .ref m7, .ref m8], zA cy m1 780 (uZ (uZ (uZ (uZ M 0 f0) 1 (oT f3)) 2 f1) 3 f2), zA cy m2 3120 (recH M Hs st)]) 1 rfl (by omega) (by decide) rfl dX6_setCode_93 (fun H locs wd => ?_)
            refine lv_aload_n C.1 C.2.1 dX6_setCode_94 rfl (lv_at hl 1 rfl) ?_
            refine z_get C wd (Cn := RX6) (TT := TX6) (N := 11) (ci := 6) iX6 0 rfl rfl 0 (by decide) L7 (fun _ h => h) rfl dX6_setCode_95 ?_
            refine z_iconst C dX6_setCode_98 ?_
            refine lv_iload C.1 C.2.1 dX6_setCode_99 (lv_at hl 5 rfl) ?_
            refine z_iast C wd (ws2 := [zO m0 6 [.ref m1, .ref m2, .int (iI (pn st)), .ref m3, .int (iI iss), .ref m4, .int (iI ty), .ref m5, .ref m6, .ref m7, .ref m8], zA cy m1 780 (uZ (uZ (uZ (uZ (uZ M 0 f0) 1 (oT f3)) 2 f1) 3 f2) 4 f3), zA cy m2 3120 (recH M Hs st)]) 1 rfl (by omega) (by decide) rfl dX6_setCode_101 (fun H locs wd => ?_)
            refine lv_aload_n C.1 C.2.1 dX6_setCode_102 rfl (lv_at hl 1 rfl) ?_
            refine z_get C wd (Cn := RX6) (TT := TX6) (N := 11) (ci := 6) iX6 0 rfl rfl 0 (by decide) L7 (fun _ h => h) rfl dX6_setCode_103 ?_
            refine z_bipush C dX6_setCode_106 (by decide +kernel) ?_
            refine z_iconst C dX6_setCode_108 ?_
            refine z_iast C wd (ws2 := [zO m0 6 [.ref m1, .ref m2, .int (iI (pn st)), .ref m3, .int (iI iss), .ref m4, .int (iI ty), .ref m5, .ref m6, .ref m7, .ref m8], zA cy m1 780 (uZ (uZ (uZ (uZ (uZ (uZ M 0 f0) 1 (oT f3)) 2 f1) 3 f2) 4 f3) 6 0), zA cy m2 3120 (recH M Hs st)]) 1 rfl (by omega) (by decide) rfl dX6_setCode_109 (fun H locs wd => ?_)
            refine lv_aload_n C.1 C.2.1 dX6_setCode_110 rfl (lv_at hl 1 rfl) ?_
            refine z_get C wd (Cn := RX6) (TT := TX6) (N := 11) (ci := 6) iX6 0 rfl rfl 0 (by decide) L7 (fun _ h => h) rfl dX6_setCode_111 ?_
            refine z_bipush C dX6_setCode_114 (by decide +kernel) ?_
            refine z_iconst C dX6_setCode_116 ?_
            refine z_iast C wd (ws2 := [zO m0 6 [.ref m1, .ref m2, .int (iI (pn st)), .ref m3, .int (iI iss), .ref m4, .int (iI ty), .ref m5, .ref m6, .ref m7, .ref m8], zA cy m1 780 (uZ (uZ (uZ (uZ (uZ (uZ (uZ M 0 f0) 1 (oT f3)) 2 f1) 3 f2) 4 f3) 6 0) 7 0), zA cy m2 3120 (recH M Hs st)]) 1 rfl (by omega) (by decide) rfl dX6_setCode_117 (fun H locs wd => ?_)
            refine lv_aload_n C.1 C.2.1 dX6_setCode_118 rfl (lv_at hl 1 rfl) ?_
            refine z_cvv C wd hA (As := []) (rest := []) (ws2 := [zO m0 6 [.ref m1, .ref m2, .int (iI (pn st)), .ref m3, .int (iI iss), .ref m4, .int (iI ty), .ref m5, .ref m6, .ref m7, .ref m8], zA cy m1 780 (clR (uZ (uZ (uZ (uZ (uZ (uZ (uZ M 0 f0) 1 (oT f3)) 2 f1) 3 f2) 4 f3) 6 0) 7 0)), zA cy m2 3120 (recH M Hs st)]) (c_X6_clearReader l D cy cs m0 m1 m2 m3 m4 m5 m6 m7 m8 (pn st) iss ty (uZ (uZ (uZ (uZ (uZ (uZ (uZ M 0 f0) 1 (oT f3)) 2 f1) 3 f2) 4 f3) 6 0) 7 0) ) (cwV 0 C.2.2.2.2 gX6_setCode_X6_clearReader rfl rfl rfl (by decide +kernel) ⟨Nat.le_of_ble_eq_true rfl, Nat.le_of_ble_eq_true rfl⟩) [0, 1] rfl rfl rfl ⟨rfl, [2], [zA cy m2 3120 (recH M Hs st)], 3, rfl, rfl, rfl, by decide +kernel⟩ rfl rfl rfl rfl (Nat.le_of_ble_eq_true rfl) hl.1 dX6_setCode_119 ⟨Nat.zero_le _, Nat.zero_le _⟩ (fun H locs wd => ?_)
            refine lv_aload_n C.1 C.2.1 dX6_setCode_122 rfl (lv_at hl 1 rfl) ?_
            refine z_get C wd (Cn := RX6) (TT := TX6) (N := 11) (ci := 6) iX6 0 rfl rfl 0 (by decide) L7 (fun _ h => h) rfl dX6_setCode_123 ?_
            refine z_iconst C dX6_setCode_126 ?_
            refine z_iald C wd 1 rfl (by omega) (by decide) dX6_setCode_127 ?_
            have wd := z_fld wd (ws2 := [zO m0 6 [.ref m1, .ref m2, .int (iI (pn st)), .ref m3, .int (iI iss), .ref m4, .int (iI ty), .ref m5, .ref m6, .ref m7, .ref m8], zA cy m1 780 (clR (uZ (uZ (uZ (uZ (uZ (uZ (uZ M 0 f0) 1 (oT f3)) 2 f1) 3 f2) 4 f3) 6 0) 7 0)), zA cy m2 3120 (recH M Hs st)]) 0 rfl (congrArg (fun z0 => zO m0 6 [.ref m1, .ref m2, .int (iI z0), .ref m3, .int (iI iss), .ref m4, .int (iI ty), .ref m5, .ref m6, .ref m7, .ref m8]) (show ((pn st) : Int) = pn st from (by omega))) rfl
            have wd := z_cell wd (ws2 := [zO m0 6 [.ref m1, .ref m2, .int (iI (pn st)), .ref m3, .int (iI iss), .ref m4, .int (iI ty), .ref m5, .ref m6, .ref m7, .ref m8], zA cy m1 780 (scM M f0 f1 f2 f3), zA cy m2 3120 (recH M Hs st)]) 1 rfl (fun _ _ _ => rfl) rfl
            exact z_iret C hr hlk wd rfl dX6_setCode_128
          · skip
            refine z_iconst C dX6_setCode_74 ?_
            refine z_goto C (tgt := 79) dX6_setCode_75 (by decide) ?_
            refine z_top (b := oT f3) (by rw [oT]; first | rw [if_pos (by omega)] | rw [if_neg (by omega)]) ?_
            refine z_iast C wd (ws2 := [zO m0 6 [.ref m1, .ref m2, .int (iI (pn st)), .ref m3, .int (iI iss), .ref m4, .int (iI ty), .ref m5, .ref m6, .ref m7, .ref m8], zA cy m1 780 (uZ (uZ M 0 f0) 1 (oT f3)), zA cy m2 3120 (recH M Hs st)]) 1 rfl (by omega) (by decide) rfl dX6_setCode_79 (fun H locs wd => ?_)
            refine lv_aload_n C.1 C.2.1 dX6_setCode_80 rfl (lv_at hl 1 rfl) ?_
            refine z_get C wd (Cn := RX6) (TT := TX6) (N := 11) (ci := 6) iX6 0 rfl rfl 0 (by decide) L7 (fun _ h => h) rfl dX6_setCode_81 ?_
            refine z_iconst C dX6_setCode_84 ?_
            refine lv_iload_n C.1 C.2.1 dX6_setCode_85 rfl (lv_at hl 3 rfl) ?_
            refine z_iast C wd (ws2 := [zO m0 6 [.ref m1, .ref m2, .int (iI (pn st)), .ref m3, .int (iI iss), .ref m4, .int (iI ty), .ref m5, .ref m6, .ref m7, .ref m8], zA cy m1 780 (uZ (uZ (uZ M 0 f0) 1 (oT f3)) 2 f1), zA cy m2 3120 (recH M Hs st)]) 1 rfl (by omega) (by decide) rfl dX6_setCode_86 (fun H locs wd => ?_)
            refine lv_aload_n C.1 C.2.1 dX6_setCode_87 rfl (lv_at hl 1 rfl) ?_
            refine z_get C wd (Cn := RX6) (TT := TX6) (N := 11) (ci := 6) iX6 0 rfl rfl 0 (by decide) L7 (fun _ h => h) rfl dX6_setCode_88 ?_
            refine z_iconst C dX6_setCode_91 ?_
            refine lv_iload_n C.1 C.2.1 dX6_setCode_92 rfl (lv_at hl 4 rfl) ?_
            refine z_iast C wd (ws2 := [zO m0 6 [.ref m1, .ref m2, .int (iI (pn st)), .ref m3, .int (iI iss), .ref m4, .int (iI ty), .ref m5, .ref m6, .ref m7, .ref m8], zA cy m1 780 (uZ (uZ (uZ (uZ M 0 f0) 1 (oT f3)) 2 f1) 3 f2), zA cy m2 3120 (recH M Hs st)]) 1 rfl (by omega) (by decide) rfl dX6_setCode_93 (fun H locs wd => ?_)
            refine lv_aload_n C.1 C.2.1 dX6_setCode_94 rfl (lv_at hl 1 rfl) ?_
            refine z_get C wd (Cn := RX6) (TT := TX6) (N := 11) (ci := 6) iX6 0 rfl rfl 0 (by decide) L7 (fun _ h => h) rfl dX6_setCode_95 ?_
            refine z_iconst C dX6_setCode_98 ?_
            refine lv_iload C.1 C.2.1 dX6_setCode_99 (lv_at hl 5 rfl) ?_
            refine z_iast C wd (ws2 := [zO m0 6 [.ref m1, .ref m2, .int (iI (pn st)), .ref m3, .int (iI iss), .ref m4, .int (iI ty), .ref m5, .ref m6, .ref m7, .ref m8], zA cy m1 780 (uZ (uZ (uZ (uZ (uZ M 0 f0) 1 (oT f3)) 2 f1) 3 f2) 4 f3), zA cy m2 3120 (recH M Hs st)]) 1 rfl (by omega) (by decide) rfl dX6_setCode_101 (fun H locs wd => ?_)
            refine lv_aload_n C.1 C.2.1 dX6_setCode_102 rfl (lv_at hl 1 rfl) ?_
            refine z_get C wd (Cn := RX6) (TT := TX6) (N := 11) (ci := 6) iX6 0 rfl rfl 0 (by decide) L7 (fun _ h => h) rfl dX6_setCode_103 ?_
            refine z_bipush C dX6_setCode_106 (by decide +kernel) ?_
            refine z_iconst C dX6_setCode_108 ?_
            refine z_iast C wd (ws2 := [zO m0 6 [.ref m1, .ref m2, .int (iI (pn st)), .ref m3, .int (iI iss), .ref m4, .int (iI ty), .ref m5, .ref m6, .ref m7, .ref m8], zA cy m1 780 (uZ (uZ (uZ (uZ (uZ (uZ M 0 f0) 1 (oT f3)) 2 f1) 3 f2) 4 f3) 6 0), zA cy m2 3120 (recH M Hs st)]) 1 rfl (by omega) (by decide) rfl dX6_setCode_109 (fun H locs wd => ?_)
            refine lv_aload_n C.1 C.2.1 dX6_setCode_110 rfl (lv_at hl 1 rfl) ?_
            refine z_get C wd (Cn := RX6) (TT := TX6) (N := 11) (ci := 6) iX6 0 rfl rfl 0 (by decide) L7 (fun _ h => h) rfl dX6_setCode_111 ?_
            refine z_bipush C dX6_setCode_114 (by decide +kernel) ?_
            refine z_iconst C dX6_setCode_116 ?_
            refine z_iast C wd (ws2 := [zO m0 6 [.ref m1, .ref m2, .int (iI (pn st)), .ref m3, .int (iI iss), .ref m4, .int (iI ty), .ref m5, .ref m6, .ref m7, .ref m8], zA cy m1 780 (uZ (uZ (uZ (uZ (uZ (uZ (uZ M 0 f0) 1 (oT f3)) 2 f1) 3 f2) 4 f3) 6 0) 7 0), zA cy m2 3120 (recH M Hs st)]) 1 rfl (by omega) (by decide) rfl dX6_setCode_117 (fun H locs wd => ?_)
            refine lv_aload_n C.1 C.2.1 dX6_setCode_118 rfl (lv_at hl 1 rfl) ?_
            refine z_cvv C wd hA (As := []) (rest := []) (ws2 := [zO m0 6 [.ref m1, .ref m2, .int (iI (pn st)), .ref m3, .int (iI iss), .ref m4, .int (iI ty), .ref m5, .ref m6, .ref m7, .ref m8], zA cy m1 780 (clR (uZ (uZ (uZ (uZ (uZ (uZ (uZ M 0 f0) 1 (oT f3)) 2 f1) 3 f2) 4 f3) 6 0) 7 0)), zA cy m2 3120 (recH M Hs st)]) (c_X6_clearReader l D cy cs m0 m1 m2 m3 m4 m5 m6 m7 m8 (pn st) iss ty (uZ (uZ (uZ (uZ (uZ (uZ (uZ M 0 f0) 1 (oT f3)) 2 f1) 3 f2) 4 f3) 6 0) 7 0) ) (cwV 0 C.2.2.2.2 gX6_setCode_X6_clearReader rfl rfl rfl (by decide +kernel) ⟨Nat.le_of_ble_eq_true rfl, Nat.le_of_ble_eq_true rfl⟩) [0, 1] rfl rfl rfl ⟨rfl, [2], [zA cy m2 3120 (recH M Hs st)], 3, rfl, rfl, rfl, by decide +kernel⟩ rfl rfl rfl rfl (Nat.le_of_ble_eq_true rfl) hl.1 dX6_setCode_119 ⟨Nat.zero_le _, Nat.zero_le _⟩ (fun H locs wd => ?_)
            refine lv_aload_n C.1 C.2.1 dX6_setCode_122 rfl (lv_at hl 1 rfl) ?_
            refine z_get C wd (Cn := RX6) (TT := TX6) (N := 11) (ci := 6) iX6 0 rfl rfl 0 (by decide) L7 (fun _ h => h) rfl dX6_setCode_123 ?_
            refine z_iconst C dX6_setCode_126 ?_
            refine z_iald C wd 1 rfl (by omega) (by decide) dX6_setCode_127 ?_
            have wd := z_fld wd (ws2 := [zO m0 6 [.ref m1, .ref m2, .int (iI (pn st)), .ref m3, .int (iI iss), .ref m4, .int (iI ty), .ref m5, .ref m6, .ref m7, .ref m8], zA cy m1 780 (clR (uZ (uZ (uZ (uZ (uZ (uZ (uZ M 0 f0) 1 (oT f3)) 2 f1) 3 f2) 4 f3) 6 0) 7 0)), zA cy m2 3120 (recH M Hs st)]) 0 rfl (congrArg (fun z0 => zO m0 6 [.ref m1, .ref m2, .int (iI z0), .ref m3, .int (iI iss), .ref m4, .int (iI ty), .ref m5, .ref m6, .ref m7, .ref m8]) (show ((pn st) : Int) = pn st from (by omega))) rfl
            have wd := z_cell wd (ws2 := [zO m0 6 [.ref m1, .ref m2, .int (iI (pn st)), .ref m3, .int (iI iss), .ref m4, .int (iI ty), .ref m5, .ref m6, .ref m7, .ref m8], zA cy m1 780 (scM M f0 f1 f2 f3), zA cy m2 3120 (recH M Hs st)]) 1 rfl (fun _ _ _ => rfl) rfl
            exact z_iret C hr hlk wd rfl dX6_setCode_128
        · skip
          exact False.elim (by omega)
  · skip
    exact False.elim (by omega)
set_option maxRecDepth 100000 in
set_option maxHeartbeats 4000000 in
theorem c_X6_reset (l : Launch) (D : va_G) (cy cs : ClassId) (m0 m1 m2 m3 m4 m5 m6 m7 m8 : Nat) (st iss ty : Int) (M : Int → Int) (Hs : Int → Int) (hst : 0 ≤ st ∧ st ≤ 4) (h9 : 0 ≤ M 9 ∧ M 9 ≤ 80) : zCi l D (zT cy cs) yX6_reset wsX6_reset ({ frames := 1, cells := 0, slots := 0, locals := 21 } : Room) [.ref m0] [zO m0 6 [.ref m1, .ref m2, .int (iI st), .ref m3, .int (iI iss), .ref m4, .int (iI ty), .ref m5, .ref m6, .ref m7, .ref m8], zA cy m1 780 M, zA cy m2 3120 Hs] (M 9) [zO m0 6 [.ref m1, .ref m2, .int (iI (pn st)), .ref m3, .int (iI iss), .ref m4, .int (iI ty), .ref m5, .ref m6, .ref m7, .ref m8], zA cy m1 780 (clR M), zA cy m2 3120 (recH M Hs st)] := by
  intro sz
  refine zM_mk (cc := cX6_reset) (maxL := 2) (ret := (some .int)) (own := RX6) (Qc := fun sz => va_Qi (fun r (_ : Unit) => r = iI (M 9)) (fun _ t => zQ D (zT cy cs) (va_A [zO m0 6 [.ref m1, .ref m2, .int (iI st), .ref m3, .int (iI iss), .ref m4, .int (iI ty), .ref m5, .ref m6, .ref m7, .ref m8], zA cy m1 780 M, zA cy m2 3120 Hs] sz) [zO m0 6 [.ref m1, .ref m2, .int (iI (pn st)), .ref m3, .int (iI iss), .ref m4, .int (iI ty), .ref m5, .ref m6, .ref m7, .ref m8], zA cy m1 780 (clR M), zA cy m2 3120 (recH M Hs st)] t) (va_A [zO m0 6 [.ref m1, .ref m2, .int (iI st), .ref m3, .int (iI iss), .ref m4, .int (iI ty), .ref m5, .ref m6, .ref m7, .ref m8], zA cy m1 780 M, zA cy m2 3120 Hs] sz)) (by decide) rfl rfl (Nat.le_of_ble_eq_true rfl) rfl sz ?_
  intro p e s m args below meth c ls C hr hlk hnm hl hsz hA wd
  subst hsz
  have hl : lv_has ls 2 [(0, .ref m0)] := hl
  have iX6 : ∀ w ∈ u_ws RX6 TX6 11, w ∈ wsX6_reset := by decide +kernel
  have L7 := C.2.2.2.2 (.fieldLink RX6 7 "LikelyWalksModel" "now" "[I") (by decide +kernel)
  refine lv_aload_n C.1 C.2.1 dX6_reset_0 rfl (lv_at hl 0 rfl) ?_
  refine z_cvv C wd hA (As := []) (rest := []) (ws2 := [zO m0 6 [.ref m1, .ref m2, .int (iI (pn st)), .ref m3, .int (iI iss), .ref m4, .int (iI ty), .ref m5, .ref m6, .ref m7, .ref m8], zA cy m1 780 M, zA cy m2 3120 (recH M Hs st)]) (c_X6_record l D cy cs m0 m1 m2 m3 m4 m5 m6 m7 m8 st iss ty M Hs (by omega)) (cwV 0 C.2.2.2.2 gX6_reset_X6_record rfl rfl rfl (by decide +kernel) ⟨Nat.le_of_ble_eq_true rfl, Nat.le_of_ble_eq_true rfl⟩) [0, 1, 2] rfl rfl rfl ⟨rfl, [], [], 3, rfl, rfl, rfl, by decide +kernel⟩ rfl rfl rfl rfl (Nat.le_of_ble_eq_true rfl) hl.1 dX6_reset_1 ⟨Nat.zero_le _, Nat.zero_le _⟩ (fun H locs wd => ?_)
  refine lv_aload_n C.1 C.2.1 dX6_reset_4 rfl (lv_at hl 0 rfl) ?_
  refine z_get C wd (Cn := RX6) (TT := TX6) (N := 11) (ci := 6) iX6 0 rfl rfl 0 (by decide) L7 (fun _ h => h) rfl dX6_reset_5 ?_
  refine z_bipush C dX6_reset_8 (by decide +kernel) ?_
  refine z_iald C wd 1 rfl (by omega) (by decide) dX6_reset_10 ?_
  refine lv_istore_n (lv' := [(1, .int (iI (M 9))), (0, .ref m0)]) C.1 C.2.1 dX6_reset_11 rfl hl (by decide) rfl (fun ls hl => ?_)
  refine lv_aload_n C.1 C.2.1 dX6_reset_12 rfl (lv_at hl 1 rfl) ?_
  refine z_cvv C wd hA (As := []) (rest := []) (ws2 := [zO m0 6 [.ref m1, .ref m2, .int (iI (pn st)), .ref m3, .int (iI iss), .ref m4, .int (iI ty), .ref m5, .ref m6, .ref m7, .ref m8], zA cy m1 780 (clR M), zA cy m2 3120 (recH M Hs st)]) (c_X6_clearReader l D cy cs m0 m1 m2 m3 m4 m5 m6 m7 m8 (pn st) iss ty M ) (cwV 0 C.2.2.2.2 gX6_reset_X6_clearReader rfl rfl rfl (by decide +kernel) ⟨Nat.le_of_ble_eq_true rfl, Nat.le_of_ble_eq_true rfl⟩) [0, 1] rfl rfl rfl ⟨rfl, [2], [zA cy m2 3120 (recH M Hs st)], 3, rfl, rfl, rfl, by decide +kernel⟩ rfl rfl rfl rfl (Nat.le_of_ble_eq_true rfl) hl.1 dX6_reset_13 ⟨Nat.zero_le _, Nat.zero_le _⟩ (fun H locs wd => ?_)
  refine lv_iload_n C.1 C.2.1 dX6_reset_16 rfl (lv_at hl 0 rfl) ?_
  have wd := z_fld wd (ws2 := [zO m0 6 [.ref m1, .ref m2, .int (iI (pn st)), .ref m3, .int (iI iss), .ref m4, .int (iI ty), .ref m5, .ref m6, .ref m7, .ref m8], zA cy m1 780 (clR M), zA cy m2 3120 (recH M Hs st)]) 0 rfl (congrArg (fun z0 => zO m0 6 [.ref m1, .ref m2, .int (iI z0), .ref m3, .int (iI iss), .ref m4, .int (iI ty), .ref m5, .ref m6, .ref m7, .ref m8]) (show ((pn st) : Int) = pn st from (by omega))) rfl
  exact z_iret C hr hlk wd (by first | rfl | omega) dX6_reset_17
set_option maxRecDepth 100000 in
set_option maxHeartbeats 4000000 in
theorem c_msendA (l : Launch) (D : va_G) (cy cs : ClassId) (m0 m1 m2 m3 m4 m5 m6 m7 m8 : Nat) (st iss ty : Int) (M : Int → Int) (Hs : Int → Int) (tx : Int → Int) (hst : 0 ≤ st ∧ st ≤ 4) (hso0 : sOk M) (hty : 1 ≤ ty ∧ ty ≤ 60) (htx : ∀ k : Int, 0 ≤ k → k < 60 → 0 ≤ tx k ∧ tx k < 65536) (hff : ff (fun z9 => vc (tx z9)) ty (1 + 0) = -1) (hfb : ∀ k : Int, 0 ≤ k → k < ty → 0 ≤ tx k - 48 ∧ tx k - 48 ≤ 1) (h80 : M 7 + ty ≤ 80) : zCi l D (zT cy cs) yX6_send wsX6_send ({ frames := 3, cells := 0, slots := 0, locals := 66 } : Room) [.ref m0] [zO m0 6 [.ref m1, .ref m2, .int (iI st), .ref m3, .int (iI iss), .ref m4, .int (iI ty), .ref m5, .ref m6, .ref m7, .ref m8], zA cy m1 780 M, zA cy m2 3120 Hs, zA cy m4 60 tx] ((sdN M (fun z9 => tx z9 - 48) ty.toNat) 7) [zO m0 6 [.ref m1, .ref m2, .int (iI (pn st)), .ref m3, .int (iI iss), .ref m4, .int (iI ty), .ref m5, .ref m6, .ref m7, .ref m8], zA cy m1 780 (sdN M (fun z9 => tx z9 - 48) ty.toNat), zA cy m2 3120 (recH M Hs st), zA cy m4 60 tx] := by
  intro sz
  refine zM_mk (cc := cX6_send) (maxL := 3) (ret := (some .int)) (own := RX6) (Qc := fun sz => va_Qi (fun r (_ : Unit) => r = iI ((sdN M (fun z9 => tx z9 - 48) ty.toNat) 7)) (fun _ t => zQ D (zT cy cs) (va_A [zO m0 6 [.ref m1, .ref m2, .int (iI st), .ref m3, .int (iI iss), .ref m4, .int (iI ty), .ref m5, .ref m6, .ref m7, .ref m8], zA cy m1 780 M, zA cy m2 3120 Hs, zA cy m4 60 tx] sz) [zO m0 6 [.ref m1, .ref m2, .int (iI (pn st)), .ref m3, .int (iI iss), .ref m4, .int (iI ty), .ref m5, .ref m6, .ref m7, .ref m8], zA cy m1 780 (sdN M (fun z9 => tx z9 - 48) ty.toNat), zA cy m2 3120 (recH M Hs st), zA cy m4 60 tx] t) (va_A [zO m0 6 [.ref m1, .ref m2, .int (iI st), .ref m3, .int (iI iss), .ref m4, .int (iI ty), .ref m5, .ref m6, .ref m7, .ref m8], zA cy m1 780 M, zA cy m2 3120 Hs, zA cy m4 60 tx] sz)) (by decide) rfl rfl (Nat.le_of_ble_eq_true rfl) rfl sz ?_
  intro p e s m args below meth c ls C hr hlk hnm hl hsz hA wd
  subst hsz
  have hl : lv_has ls 3 [(0, .ref m0)] := hl
  have iX6 : ∀ w ∈ u_ws RX6 TX6 11, w ∈ wsX6_send := by decide +kernel
  have L7 := C.2.2.2.2 (.fieldLink RX6 7 "LikelyWalksModel" "now" "[I") (by decide +kernel)
  have L19 := C.2.2.2.2 (.fieldLink RX6 19 "LikelyWalksModel" "text" "[I") (by decide +kernel)
  have L56 := C.2.2.2.2 (.fieldLink RX6 56 "LikelyWalksModel" "typed" "I") (by decide +kernel)
  obtain ⟨h0m, h0o, h0t, h06, h07⟩ := id hso0
  refine lv_aload_n C.1 C.2.1 dX6_send_0 rfl (lv_at hl 0 rfl) ?_
  refine z_iconst C dX6_send_1 ?_
  refine z_cvi C wd hA (As := [.int (iI 0)]) (rest := []) (ws2 := [zO m0 6 [.ref m1, .ref m2, .int (iI st), .ref m3, .int (iI iss), .ref m4, .int (iI ty), .ref m5, .ref m6, .ref m7, .ref m8], zA cy m1 780 M, zA cy m2 3120 Hs, zA cy m4 60 tx]) (c_X6_fault l D cy cs m0 m1 m2 m3 m4 m5 m6 m7 m8 st iss ty (fun _ => 0) 0 tx (by omega) (by omega) htx) (cwV 1 C.2.2.2.2 gX6_send_X6_fault rfl rfl rfl (by decide +kernel) ⟨Nat.le_of_ble_eq_true rfl, Nat.le_of_ble_eq_true rfl⟩) [0, 3] rfl rfl rfl ⟨rfl, [1, 2], [zA cy m1 780 M, zA cy m2 3120 Hs], 4, rfl, rfl, rfl, by decide +kernel⟩ rfl rfl rfl rfl (Nat.le_of_ble_eq_true rfl) hl.1 dX6_send_2 ⟨Nat.zero_le _, Nat.zero_le _⟩ (fun H locs wd => ?_)
  refine lv_istore_n (lv' := [(1, .int (iI (ff (fun z9 => vc (tx z9)) ty (1 + 0)))), (0, .ref m0)]) C.1 C.2.1 dX6_send_5 rfl hl (by decide) rfl (fun ls hl => ?_)
  refine lv_iload_n C.1 C.2.1 dX6_send_6 rfl (lv_at hl 0 rfl) ?_
  refine z_if_lt C (tgt := 15) dX6_send_7 (by decide) (by omega) (fun c_1 => ?_) (fun c_1 => ?_)
  · skip
    refine lv_aload_n C.1 C.2.1 dX6_send_15 rfl (lv_at hl 1 rfl) ?_
    refine z_get C wd (Cn := RX6) (TT := TX6) (N := 11) (ci := 6) iX6 0 rfl rfl 0 (by decide) L7 (fun _ h => h) rfl dX6_send_16 ?_
    refine z_bipush C dX6_send_19 (by decide +kernel) ?_
    refine z_iald C wd 1 rfl (by omega) (by decide) dX6_send_21 ?_
    refine lv_aload_n C.1 C.2.1 dX6_send_22 rfl (lv_at hl 1 rfl) ?_
    refine z_get C wd (Cn := RX6) (TT := TX6) (N := 11) (ci := 6) iX6 0 rfl rfl 6 (by decide) L56 (fun _ h => h) rfl dX6_send_23 ?_
    refine z_iadd C dX6_send_26 ?_
    refine z_bipush C dX6_send_27 (by decide +kernel) ?_
    refine z_icmp_le C (tgt := 35) dX6_send_29 (by decide) (by omega) (fun c_2 => ?_) (fun c_2 => ?_)
    · skip
      refine lv_aload_n C.1 C.2.1 dX6_send_35 rfl (lv_at hl 1 rfl) ?_
      refine z_cvv C wd hA (As := []) (rest := []) (ws2 := [zO m0 6 [.ref m1, .ref m2, .int (iI (pn st)), .ref m3, .int (iI iss), .ref m4, .int (iI ty), .ref m5, .ref m6, .ref m7, .ref m8], zA cy m1 780 M, zA cy m2 3120 (recH M Hs st), zA cy m4 60 tx]) (c_X6_record l D cy cs m0 m1 m2 m3 m4 m5 m6 m7 m8 st iss ty M Hs (by omega)) (cwV 0 C.2.2.2.2 gX6_send_X6_record rfl rfl rfl (by decide +kernel) ⟨Nat.le_of_ble_eq_true rfl, Nat.le_of_ble_eq_true rfl⟩) [0, 1, 2] rfl rfl rfl ⟨rfl, [3], [zA cy m4 60 tx], 4, rfl, rfl, rfl, by decide +kernel⟩ rfl rfl rfl rfl (Nat.le_of_ble_eq_true rfl) hl.1 dX6_send_36 ⟨Nat.zero_le _, Nat.zero_le _⟩ (fun H locs wd => ?_)
      refine z_iconst C dX6_send_39 ?_
      refine lv_istore_n (lv' := [(2, .int (iI 0)), (1, .int (iI (ff (fun z9 => vc (tx z9)) ty (1 + 0)))), (0, .ref m0)]) C.1 C.2.1 dX6_send_40 rfl hl (by decide) rfl (fun ls hl => ?_)
      refine z_loop2 (P := fun (k : Int) (Mv : Int → Int) => (0 ≤ k ∧ k ≤ ty) ∧ (Mv = sdN M (fun z9 => tx z9 - 48) k.toNat)) (mu := fun (k : Int) (Mv : Int → Int) => (ty - k).toNat) (ws := fun (k : Int) (Mv : Int → Int) => [zO m0 6 [.ref m1, .ref m2, .int (iI (pn st)), .ref m3, .int (iI iss), .ref m4, .int (iI ty), .ref m5, .ref m6, .ref m7, .ref m8], zA cy m1 780 Mv, zA cy m2 3120 (recH M Hs st), zA cy m4 60 tx]) (lv := fun (k : Int) (Mv : Int → Int) => [(0, .ref m0), (2, .int (iI k))]) 0 M C ⟨(by omega), rfl⟩ wd (lv_sub hl [2, 0] rfl) ?_
      intro k Mv hP41 ih41 H locs ls wd hl
      obtain ⟨h41_0, h41_1⟩ := hP41
      try dsimp only at h41_0 h41_1
      have wd : Wd D (zT cy cs) _ s.heap s [zO m0 6 [.ref m1, .ref m2, .int (iI (pn st)), .ref m3, .int (iI iss), .ref m4, .int (iI ty), .ref m5, .ref m6, .ref m7, .ref m8], zA cy m1 780 Mv, zA cy m2 3120 (recH M Hs st), zA cy m4 60 tx] H locs := wd
      have hl : lv_has ls 3 [(0, .ref m0), (2, .int (iI k))] := hl
      have hso := sdN_ok (M := M) (g := (fun z9 => tx z9 - 48)) hso0 k.toNat (by omega) (fun j j0 j1 => hfb j j0 (by omega))
      rw [← h41_1] at hso
      obtain ⟨⟨hvm, hvo, hvt, hv6, hv7⟩, hv8⟩ := hso
      refine lv_iload_n C.1 C.2.1 dX6_send_41 rfl (lv_at hl 1 rfl) ?_
      refine lv_aload_n C.1 C.2.1 dX6_send_42 rfl (lv_at hl 0 rfl) ?_
      refine z_get C wd (Cn := RX6) (TT := TX6) (N := 11) (ci := 6) iX6 0 rfl rfl 6 (by decide) L56 (fun _ h => h) rfl dX6_send_43 ?_
      refine z_icmp_ge C (tgt := 68) dX6_send_46 (by decide) (by omega) (fun c_3 => ?_) (fun c_3 => ?_)
      · skip
        refine lv_aload_n C.1 C.2.1 dX6_send_68 rfl (lv_at hl 0 rfl) ?_
        refine z_get C wd (Cn := RX6) (TT := TX6) (N := 11) (ci := 6) iX6 0 rfl rfl 0 (by decide) L7 (fun _ h => h) rfl dX6_send_69 ?_
        refine z_bipush C dX6_send_72 (by decide +kernel) ?_
        refine z_iald C wd 1 rfl (by omega) (by decide) dX6_send_74 ?_
        have wd := z_cell wd (ws2 := [zO m0 6 [.ref m1, .ref m2, .int (iI (pn st)), .ref m3, .int (iI iss), .ref m4, .int (iI ty), .ref m5, .ref m6, .ref m7, .ref m8], zA cy m1 780 (sdN M (fun z9 => tx z9 - 48) ty.toNat), zA cy m2 3120 (recH M Hs st), zA cy m4 60 tx]) 1 rfl (by intro j _ _; rw [h41_1, show k = ty by omega]) rfl
        exact z_iret C hr hlk wd (by rw [h41_1, show k = ty by omega]) dX6_send_75
      · skip
        have hbk := hfb k h41_0.1 (by omega)
        refine lv_aload_n C.1 C.2.1 dX6_send_49 rfl (lv_at hl 0 rfl) ?_
        refine lv_aload_n C.1 C.2.1 dX6_send_50 rfl (lv_at hl 0 rfl) ?_
        refine z_get C wd (Cn := RX6) (TT := TX6) (N := 11) (ci := 6) iX6 0 rfl rfl 5 (by decide) L19 (fun _ h => h) rfl dX6_send_51 ?_
        refine lv_iload_n C.1 C.2.1 dX6_send_54 rfl (lv_at hl 1 rfl) ?_
        refine z_iald C wd 3 rfl (by omega) (by decide) dX6_send_55 ?_
        refine z_bipush C dX6_send_56 (by decide +kernel) ?_
        refine z_isub C dX6_send_58 ?_
        refine z_cvv C wd hA (As := [.int (iI ((tx k) - 48))]) (rest := []) (ws2 := [zO m0 6 [.ref m1, .ref m2, .int (iI (pn st)), .ref m3, .int (iI iss), .ref m4, .int (iI ty), .ref m5, .ref m6, .ref m7, .ref m8], zA cy m1 780 (sB Mv ((tx k) - 48)), zA cy m2 3120 (recH M Hs st), zA cy m4 60 tx]) (c_X6_sendBit l D cy cs m0 m1 m2 m3 m4 m5 m6 m7 m8 (pn st) iss ty Mv ((tx k) - 48) (by omega) (by omega) hvt (by omega) (by omega) (by omega)) (cwV 1 C.2.2.2.2 gX6_send_X6_sendBit rfl rfl rfl (by decide +kernel) ⟨Nat.le_of_ble_eq_true rfl, Nat.le_of_ble_eq_true rfl⟩) [0, 1] rfl rfl rfl ⟨rfl, [2, 3], [zA cy m2 3120 (recH M Hs st), zA cy m4 60 tx], 4, rfl, rfl, rfl, by decide +kernel⟩ rfl rfl rfl rfl (Nat.le_of_ble_eq_true rfl) hl.1 dX6_send_59 ⟨Nat.zero_le _, Nat.zero_le _⟩ (fun H locs wd => ?_)
        refine z_iinc C (lv' := [(2, .int (iI (k + 1))), (0, .ref m0)]) hl 1 dX6_send_62 rfl (by decide) rfl (fun ls hl => ?_)
        refine z_goto C (tgt := 41) dX6_send_65 (by decide) ?_
        exact ih41 (k + 1) (sB Mv ((tx k) - 48)) ⟨(by omega), (by rw [sdN_at M (fun z9 => tx z9 - 48) h41_0.1, h41_1])⟩ (by omega) H locs _ wd (lv_sub hl [1, 0] rfl)
    · skip
      exact False.elim (by omega)
  · skip
    exact False.elim (by omega)
set_option maxRecDepth 100000 in
set_option maxHeartbeats 4000000 in
theorem c_msendTailA (l : Launch) (D : va_G) (cy cs : ClassId) (m0 m1 m2 m3 m4 m5 m6 m7 m8 : Nat) (st iss ty : Int) (M : Int → Int) (Hs : Int → Int) (hst : 0 ≤ st ∧ st ≤ 4) (hso0 : sOk M) (h80 : M 7 + M 0 ≤ 80) : zCi l D (zT cy cs) yX6_sendTail wsX6_sendTail ({ frames := 3, cells := 0, slots := 0, locals := 66 } : Room) [.ref m0] [zO m0 6 [.ref m1, .ref m2, .int (iI st), .ref m3, .int (iI iss), .ref m4, .int (iI ty), .ref m5, .ref m6, .ref m7, .ref m8], zA cy m1 780 M, zA cy m2 3120 Hs] ((sdN M (fun _ => 0) (M 0).toNat) 7) [zO m0 6 [.ref m1, .ref m2, .int (iI (pn st)), .ref m3, .int (iI iss), .ref m4, .int (iI ty), .ref m5, .ref m6, .ref m7, .ref m8], zA cy m1 780 (sdN M (fun _ => 0) (M 0).toNat), zA cy m2 3120 (recH M Hs st)] := by
  intro sz
  refine zM_mk (cc := cX6_sendTail) (maxL := 2) (ret := (some .int)) (own := RX6) (Qc := fun sz => va_Qi (fun r (_ : Unit) => r = iI ((sdN M (fun _ => 0) (M 0).toNat) 7)) (fun _ t => zQ D (zT cy cs) (va_A [zO m0 6 [.ref m1, .ref m2, .int (iI st), .ref m3, .int (iI iss), .ref m4, .int (iI ty), .ref m5, .ref m6, .ref m7, .ref m8], zA cy m1 780 M, zA cy m2 3120 Hs] sz) [zO m0 6 [.ref m1, .ref m2, .int (iI (pn st)), .ref m3, .int (iI iss), .ref m4, .int (iI ty), .ref m5, .ref m6, .ref m7, .ref m8], zA cy m1 780 (sdN M (fun _ => 0) (M 0).toNat), zA cy m2 3120 (recH M Hs st)] t) (va_A [zO m0 6 [.ref m1, .ref m2, .int (iI st), .ref m3, .int (iI iss), .ref m4, .int (iI ty), .ref m5, .ref m6, .ref m7, .ref m8], zA cy m1 780 M, zA cy m2 3120 Hs] sz)) (by decide) rfl rfl (Nat.le_of_ble_eq_true rfl) rfl sz ?_
  intro p e s m args below meth c ls C hr hlk hnm hl hsz hA wd
  subst hsz
  have hl : lv_has ls 2 [(0, .ref m0)] := hl
  have iX6 : ∀ w ∈ u_ws RX6 TX6 11, w ∈ wsX6_sendTail := by decide +kernel
  have L7 := C.2.2.2.2 (.fieldLink RX6 7 "LikelyWalksModel" "now" "[I") (by decide +kernel)
  obtain ⟨h0m, h0o, h0t, h06, h07⟩ := id hso0
  refine lv_aload_n C.1 C.2.1 dX6_sendTail_0 rfl (lv_at hl 0 rfl) ?_
  refine z_get C wd (Cn := RX6) (TT := TX6) (N := 11) (ci := 6) iX6 0 rfl rfl 0 (by decide) L7 (fun _ h => h) rfl dX6_sendTail_1 ?_
  refine z_bipush C dX6_sendTail_4 (by decide +kernel) ?_
  refine z_iald C wd 1 rfl (by omega) (by decide) dX6_sendTail_6 ?_
  refine lv_aload_n C.1 C.2.1 dX6_sendTail_7 rfl (lv_at hl 0 rfl) ?_
  refine z_get C wd (Cn := RX6) (TT := TX6) (N := 11) (ci := 6) iX6 0 rfl rfl 0 (by decide) L7 (fun _ h => h) rfl dX6_sendTail_8 ?_
  refine z_iconst C dX6_sendTail_11 ?_
  refine z_iald C wd 1 rfl (by omega) (by decide) dX6_sendTail_12 ?_
  refine z_iadd C dX6_sendTail_13 ?_
  refine z_bipush C dX6_sendTail_14 (by decide +kernel) ?_
  refine z_icmp_le C (tgt := 22) dX6_sendTail_16 (by decide) (by omega) (fun c_1 => ?_) (fun c_1 => ?_)
  · skip
    refine lv_aload_n C.1 C.2.1 dX6_sendTail_22 rfl (lv_at hl 0 rfl) ?_
    refine z_cvv C wd hA (As := []) (rest := []) (ws2 := [zO m0 6 [.ref m1, .ref m2, .int (iI (pn st)), .ref m3, .int (iI iss), .ref m4, .int (iI ty), .ref m5, .ref m6, .ref m7, .ref m8], zA cy m1 780 M, zA cy m2 3120 (recH M Hs st)]) (c_X6_record l D cy cs m0 m1 m2 m3 m4 m5 m6 m7 m8 st iss ty M Hs (by omega)) (cwV 0 C.2.2.2.2 gX6_sendTail_X6_record rfl rfl rfl (by decide +kernel) ⟨Nat.le_of_ble_eq_true rfl, Nat.le_of_ble_eq_true rfl⟩) [0, 1, 2] rfl rfl rfl ⟨rfl, [], [], 3, rfl, rfl, rfl, by decide +kernel⟩ rfl rfl rfl rfl (Nat.le_of_ble_eq_true rfl) hl.1 dX6_sendTail_23 ⟨Nat.zero_le _, Nat.zero_le _⟩ (fun H locs wd => ?_)
    refine z_iconst C dX6_sendTail_26 ?_
    refine lv_istore_n (lv' := [(1, .int (iI 0)), (0, .ref m0)]) C.1 C.2.1 dX6_sendTail_27 rfl hl (by decide) rfl (fun ls hl => ?_)
    refine z_loop2 (P := fun (k : Int) (Mv : Int → Int) => (0 ≤ k ∧ k ≤ M 0) ∧ (Mv = sdN M (fun _ => 0) k.toNat)) (mu := fun (k : Int) (Mv : Int → Int) => (M 0 - k).toNat) (ws := fun (k : Int) (Mv : Int → Int) => [zO m0 6 [.ref m1, .ref m2, .int (iI (pn st)), .ref m3, .int (iI iss), .ref m4, .int (iI ty), .ref m5, .ref m6, .ref m7, .ref m8], zA cy m1 780 Mv, zA cy m2 3120 (recH M Hs st)]) (lv := fun (k : Int) (Mv : Int → Int) => [(0, .ref m0), (1, .int (iI k))]) 0 M C ⟨(by omega), rfl⟩ wd (lv_sub hl [1, 0] rfl) ?_
    intro k Mv hP28 ih28 H locs ls wd hl
    obtain ⟨h28_0, h28_1⟩ := hP28
    try dsimp only at h28_0 h28_1
    have wd : Wd D (zT cy cs) _ s.heap s [zO m0 6 [.ref m1, .ref m2, .int (iI (pn st)), .ref m3, .int (iI iss), .ref m4, .int (iI ty), .ref m5, .ref m6, .ref m7, .ref m8], zA cy m1 780 Mv, zA cy m2 3120 (recH M Hs st)] H locs := wd
    have hl : lv_has ls 2 [(0, .ref m0), (1, .int (iI k))] := hl
    have hso := sdN_ok (M := M) (g := (fun _ => 0)) hso0 k.toNat (by omega) (fun _ _ _ => ⟨by omega, by omega⟩)
    rw [← h28_1] at hso
    obtain ⟨⟨hvm, hvo, hvt, hv6, hv7⟩, hv8⟩ := hso
    have hM0 : Mv 0 = M 0 := by rw [h28_1]; exact sdN_0 hso0 k.toNat (by omega) (fun _ _ _ => ⟨by omega, by omega⟩)
    refine lv_iload_n C.1 C.2.1 dX6_sendTail_28 rfl (lv_at hl 1 rfl) ?_
    refine lv_aload_n C.1 C.2.1 dX6_sendTail_29 rfl (lv_at hl 0 rfl) ?_
    refine z_get C wd (Cn := RX6) (TT := TX6) (N := 11) (ci := 6) iX6 0 rfl rfl 0 (by decide) L7 (fun _ h => h) rfl dX6_sendTail_30 ?_
    refine z_iconst C dX6_sendTail_33 ?_
    refine z_iald C wd 1 rfl (by omega) (by decide) dX6_sendTail_34 ?_
    refine z_icmp_ge C (tgt := 49) dX6_sendTail_35 (by decide) (by omega) (fun c_2 => ?_) (fun c_2 => ?_)
    · skip
      refine lv_aload_n C.1 C.2.1 dX6_sendTail_49 rfl (lv_at hl 0 rfl) ?_
      refine z_get C wd (Cn := RX6) (TT := TX6) (N := 11) (ci := 6) iX6 0 rfl rfl 0 (by decide) L7 (fun _ h => h) rfl dX6_sendTail_50 ?_
      refine z_bipush C dX6_sendTail_53 (by decide +kernel) ?_
      refine z_iald C wd 1 rfl (by omega) (by decide) dX6_sendTail_55 ?_
      have wd := z_cell wd (ws2 := [zO m0 6 [.ref m1, .ref m2, .int (iI (pn st)), .ref m3, .int (iI iss), .ref m4, .int (iI ty), .ref m5, .ref m6, .ref m7, .ref m8], zA cy m1 780 (sdN M (fun _ => 0) (M 0).toNat), zA cy m2 3120 (recH M Hs st)]) 1 rfl (by intro j _ _; rw [h28_1, show k = M 0 by omega]) rfl
      exact z_iret C hr hlk wd (by rw [h28_1, show k = M 0 by omega]) dX6_sendTail_56
    · skip
      refine lv_aload_n C.1 C.2.1 dX6_sendTail_38 rfl (lv_at hl 0 rfl) ?_
      refine z_iconst C dX6_sendTail_39 ?_
      refine z_cvv C wd hA (As := [.int (iI 0)]) (rest := []) (ws2 := [zO m0 6 [.ref m1, .ref m2, .int (iI (pn st)), .ref m3, .int (iI iss), .ref m4, .int (iI ty), .ref m5, .ref m6, .ref m7, .ref m8], zA cy m1 780 (sB Mv 0), zA cy m2 3120 (recH M Hs st)]) (c_X6_sendBit l D cy cs m0 m1 m2 m3 m4 m5 m6 m7 m8 (pn st) iss ty Mv 0 (by omega) (by omega) hvt (by omega) (by omega) (by omega)) (cwV 1 C.2.2.2.2 gX6_sendTail_X6_sendBit rfl rfl rfl (by decide +kernel) ⟨Nat.le_of_ble_eq_true rfl, Nat.le_of_ble_eq_true rfl⟩) [0, 1] rfl rfl rfl ⟨rfl, [2], [zA cy m2 3120 (recH M Hs st)], 3, rfl, rfl, rfl, by decide +kernel⟩ rfl rfl rfl rfl (Nat.le_of_ble_eq_true rfl) hl.1 dX6_sendTail_40 ⟨Nat.zero_le _, Nat.zero_le _⟩ (fun H locs wd => ?_)
      refine z_iinc C (lv' := [(1, .int (iI (k + 1))), (0, .ref m0)]) hl 1 dX6_sendTail_43 rfl (by decide) rfl (fun ls hl => ?_)
      refine z_goto C (tgt := 28) dX6_sendTail_46 (by decide) ?_
      exact ih28 (k + 1) (sB Mv 0) ⟨(by omega), (by rw [sdN_at M (fun _ => 0) h28_0.1, h28_1])⟩ (by omega) H locs _ wd (lv_sub hl [1, 0] rfl)
  · skip
    exact False.elim (by omega)
set_option maxRecDepth 100000 in
set_option maxHeartbeats 4000000 in
theorem c_mundoA (l : Launch) (D : va_G) (cy cs : ClassId) (m0 m1 m2 m3 m4 m5 m6 m7 m8 : Nat) (st iss ty : Int) (M : Int → Int) (Hs : Int → Int) (hst : 1 ≤ st ∧ st ≤ 4) : zCi l D (zT cy cs) yX6_undo wsX6_undo ({ frames := 0, cells := 0, slots := 0, locals := 0 } : Room) [.ref m0] [zO m0 6 [.ref m1, .ref m2, .int (iI st), .ref m3, .int (iI iss), .ref m4, .int (iI ty), .ref m5, .ref m6, .ref m7, .ref m8], zA cy m1 780 M, zA cy m2 3120 Hs] (st - 1) [zO m0 6 [.ref m1, .ref m2, .int (iI (st - 1)), .ref m3, .int (iI iss), .ref m4, .int (iI ty), .ref m5, .ref m6, .ref m7, .ref m8], zA cy m1 780 (sl Hs (780 * (st - 1))), zA cy m2 3120 Hs] := by
  intro sz
  refine zM_mk (cc := cX6_undo) (maxL := 2) (ret := (some .int)) (own := RX6) (Qc := fun sz => va_Qi (fun r (_ : Unit) => r = iI (st - 1)) (fun _ t => zQ D (zT cy cs) (va_A [zO m0 6 [.ref m1, .ref m2, .int (iI st), .ref m3, .int (iI iss), .ref m4, .int (iI ty), .ref m5, .ref m6, .ref m7, .ref m8], zA cy m1 780 M, zA cy m2 3120 Hs] sz) [zO m0 6 [.ref m1, .ref m2, .int (iI (st - 1)), .ref m3, .int (iI iss), .ref m4, .int (iI ty), .ref m5, .ref m6, .ref m7, .ref m8], zA cy m1 780 (sl Hs (780 * (st - 1))), zA cy m2 3120 Hs] t) (va_A [zO m0 6 [.ref m1, .ref m2, .int (iI st), .ref m3, .int (iI iss), .ref m4, .int (iI ty), .ref m5, .ref m6, .ref m7, .ref m8], zA cy m1 780 M, zA cy m2 3120 Hs] sz)) (by decide) rfl rfl (Nat.le_of_ble_eq_true rfl) rfl sz ?_
  intro p e s m args below meth c ls C hr hlk hnm hl hsz hA wd
  subst hsz
  have hl : lv_has ls 2 [(0, .ref m0)] := hl
  have iX6 : ∀ w ∈ u_ws RX6 TX6 11, w ∈ wsX6_undo := by decide +kernel
  have L7 := C.2.2.2.2 (.fieldLink RX6 7 "LikelyWalksModel" "now" "[I") (by decide +kernel)
  have L13 := C.2.2.2.2 (.fieldLink RX6 13 "LikelyWalksModel" "history" "[I") (by decide +kernel)
  have L37 := C.2.2.2.2 (.fieldLink RX6 37 "LikelyWalksModel" "states" "I") (by decide +kernel)
  refine lv_aload_n C.1 C.2.1 dX6_undo_0 rfl (lv_at hl 0 rfl) ?_
  refine z_get C wd (Cn := RX6) (TT := TX6) (N := 11) (ci := 6) iX6 0 rfl rfl 2 (by decide) L37 (fun _ h => h) rfl dX6_undo_1 ?_
  refine z_if_ne C (tgt := 10) dX6_undo_4 (by decide) (by omega) (fun c_1 => ?_) (fun c_1 => ?_)
  · skip
    refine lv_aload_n C.1 C.2.1 dX6_undo_10 rfl (lv_at hl 0 rfl) ?_
    refine lv_dup C.1 C.2.1 dX6_undo_11 rfl ?_
    refine z_get C wd (Cn := RX6) (TT := TX6) (N := 11) (ci := 6) iX6 0 rfl rfl 2 (by decide) L37 (fun _ h => h) rfl dX6_undo_12 ?_
    refine z_iconst C dX6_undo_15 ?_
    refine z_isub C dX6_undo_16 ?_
    refine z_put C wd (Cn := RX6) (TT := TX6) (N := 11) (ci := 6) (ws2 := [zO m0 6 [.ref m1, .ref m2, .int (iI (st - 1)), .ref m3, .int (iI iss), .ref m4, .int (iI ty), .ref m5, .ref m6, .ref m7, .ref m8], zA cy m1 780 M, zA cy m2 3120 Hs]) iX6 tyX6 tyX6_ok nmX6 0 rfl rfl 2 (by decide) L37 (fun _ h => h) rfl (ty := .int) (by decide +kernel) rfl rfl (Nat.le_of_ble_eq_true rfl) rfl dX6_undo_17 (fun H locs wd => ?_)
    refine z_iconst C dX6_undo_20 ?_
    refine lv_istore_n (lv' := [(1, .int (iI 0)), (0, .ref m0)]) C.1 C.2.1 dX6_undo_21 rfl hl (by decide) rfl (fun ls hl => ?_)
    refine z_loop2 (P := fun (k : Int) (g : Int → Int) => (0 ≤ k ∧ k ≤ 780) ∧ (g = cpZ (fun z9 => Hs (780 * (st - 1) + z9)) M k)) (mu := fun (k : Int) (g : Int → Int) => (780 - k).toNat) (ws := fun (k : Int) (g : Int → Int) => [zO m0 6 [.ref m1, .ref m2, .int (iI (st - 1)), .ref m3, .int (iI iss), .ref m4, .int (iI ty), .ref m5, .ref m6, .ref m7, .ref m8], zA cy m1 780 g, zA cy m2 3120 Hs]) (lv := fun (k : Int) (g : Int → Int) => [(0, .ref m0), (1, .int (iI k))]) 0 M C ⟨(by omega), (cpZ_0 _ _).symm⟩ wd (lv_sub hl [1, 0] rfl) ?_
    intro k g hP22 ih22 H locs ls wd hl
    obtain ⟨h22_0, h22_1⟩ := hP22
    try dsimp only at h22_0 h22_1
    have wd : Wd D (zT cy cs) _ s.heap s [zO m0 6 [.ref m1, .ref m2, .int (iI (st - 1)), .ref m3, .int (iI iss), .ref m4, .int (iI ty), .ref m5, .ref m6, .ref m7, .ref m8], zA cy m1 780 g, zA cy m2 3120 Hs] H locs := wd
    have hl : lv_has ls 2 [(0, .ref m0), (1, .int (iI k))] := hl
    refine lv_iload_n C.1 C.2.1 dX6_undo_22 rfl (lv_at hl 1 rfl) ?_
    refine z_sipush C dX6_undo_23 (by decide +kernel) ?_
    refine z_icmp_ge C (tgt := 56) dX6_undo_26 (by decide) (by omega) (fun c_2 => ?_) (fun c_2 => ?_)
    · skip
      refine lv_aload_n C.1 C.2.1 dX6_undo_56 rfl (lv_at hl 0 rfl) ?_
      refine z_get C wd (Cn := RX6) (TT := TX6) (N := 11) (ci := 6) iX6 0 rfl rfl 2 (by decide) L37 (fun _ h => h) rfl dX6_undo_57 ?_
      have wd := z_cell wd (ws2 := [zO m0 6 [.ref m1, .ref m2, .int (iI (st - 1)), .ref m3, .int (iI iss), .ref m4, .int (iI ty), .ref m5, .ref m6, .ref m7, .ref m8], zA cy m1 780 (sl Hs (780 * (st - 1))), zA cy m2 3120 Hs]) 1 rfl (by intro j j0 j1; rw [h22_1, show k = 780 by omega]; exact if_pos (by omega)) rfl
      exact z_iret C hr hlk wd (by first | rfl | omega) dX6_undo_60
    · skip
      refine lv_aload_n C.1 C.2.1 dX6_undo_29 rfl (lv_at hl 0 rfl) ?_
      refine z_get C wd (Cn := RX6) (TT := TX6) (N := 11) (ci := 6) iX6 0 rfl rfl 0 (by decide) L7 (fun _ h => h) rfl dX6_undo_30 ?_
      refine lv_iload_n C.1 C.2.1 dX6_undo_33 rfl (lv_at hl 1 rfl) ?_
      refine lv_aload_n C.1 C.2.1 dX6_undo_34 rfl (lv_at hl 0 rfl) ?_
      refine z_get C wd (Cn := RX6) (TT := TX6) (N := 11) (ci := 6) iX6 0 rfl rfl 1 (by decide) L13 (fun _ h => h) rfl dX6_undo_35 ?_
      refine z_sipush C dX6_undo_38 (by decide +kernel) ?_
      refine lv_aload_n C.1 C.2.1 dX6_undo_41 rfl (lv_at hl 0 rfl) ?_
      refine z_get C wd (Cn := RX6) (TT := TX6) (N := 11) (ci := 6) iX6 0 rfl rfl 2 (by decide) L37 (fun _ h => h) rfl dX6_undo_42 ?_
      refine z_imul C dX6_undo_45 ?_
      refine lv_iload_n C.1 C.2.1 dX6_undo_46 rfl (lv_at hl 1 rfl) ?_
      refine z_iadd C dX6_undo_47 ?_
      refine z_iald C wd 2 rfl (by omega) (by decide) dX6_undo_48 ?_
      refine z_iast C wd (ws2 := [zO m0 6 [.ref m1, .ref m2, .int (iI (st - 1)), .ref m3, .int (iI iss), .ref m4, .int (iI ty), .ref m5, .ref m6, .ref m7, .ref m8], zA cy m1 780 (uZ g k (Hs ((780 * (st - 1)) + k))), zA cy m2 3120 Hs]) 1 rfl (by omega) (by decide) rfl dX6_undo_49 (fun H locs wd => ?_)
      refine z_iinc C (lv' := [(1, .int (iI (k + 1))), (0, .ref m0)]) hl 1 dX6_undo_50 rfl (by decide) rfl (fun ls hl => ?_)
      refine z_goto C (tgt := 22) dX6_undo_53 (by decide) ?_
      exact ih22 (k + 1) (uZ g k (Hs ((780 * (st - 1)) + k))) ⟨(by omega), (by rw [h22_1]; exact cpZ_step (fun z9 => Hs (780 * (st - 1) + z9)) M k h22_0.1)⟩ (by omega) H locs _ wd (lv_sub hl [1, 0] rfl)
  · skip
    exact False.elim (by omega)
set_option maxRecDepth 100000 in
set_option maxHeartbeats 4000000 in
theorem c_X6_keep (l : Launch) (D : va_G) (cy cs : ClassId) (m0 m1 m2 m3 m4 m5 m6 m7 m8 : Nat) (st iss ty : Int) (M : Int → Int) (Sh : Int → Int)  : zCi l D (zT cy cs) yX6_keep wsX6_keep ({ frames := 0, cells := 0, slots := 0, locals := 0 } : Room) [.ref m0] [zO m0 6 [.ref m1, .ref m2, .int (iI st), .ref m3, .int (iI iss), .ref m4, .int (iI ty), .ref m5, .ref m6, .ref m7, .ref m8], zA cy m1 780 M, zA cy m3 780 Sh] (M 7) [zO m0 6 [.ref m1, .ref m2, .int (iI st), .ref m3, .int (iI 1), .ref m4, .int (iI ty), .ref m5, .ref m6, .ref m7, .ref m8], zA cy m1 780 M, zA cy m3 780 M] := by
  intro sz
  refine zM_mk (cc := cX6_keep) (maxL := 2) (ret := (some .int)) (own := RX6) (Qc := fun sz => va_Qi (fun r (_ : Unit) => r = iI (M 7)) (fun _ t => zQ D (zT cy cs) (va_A [zO m0 6 [.ref m1, .ref m2, .int (iI st), .ref m3, .int (iI iss), .ref m4, .int (iI ty), .ref m5, .ref m6, .ref m7, .ref m8], zA cy m1 780 M, zA cy m3 780 Sh] sz) [zO m0 6 [.ref m1, .ref m2, .int (iI st), .ref m3, .int (iI 1), .ref m4, .int (iI ty), .ref m5, .ref m6, .ref m7, .ref m8], zA cy m1 780 M, zA cy m3 780 M] t) (va_A [zO m0 6 [.ref m1, .ref m2, .int (iI st), .ref m3, .int (iI iss), .ref m4, .int (iI ty), .ref m5, .ref m6, .ref m7, .ref m8], zA cy m1 780 M, zA cy m3 780 Sh] sz)) (by decide) rfl rfl (Nat.le_of_ble_eq_true rfl) rfl sz ?_
  intro p e s m args below meth c ls C hr hlk hnm hl hsz hA wd
  subst hsz
  have hl : lv_has ls 2 [(0, .ref m0)] := hl
  have iX6 : ∀ w ∈ u_ws RX6 TX6 11, w ∈ wsX6_keep := by decide +kernel
  have L7 := C.2.2.2.2 (.fieldLink RX6 7 "LikelyWalksModel" "now" "[I") (by decide +kernel)
  have L16 := C.2.2.2.2 (.fieldLink RX6 16 "LikelyWalksModel" "shot" "[I") (by decide +kernel)
  have L92 := C.2.2.2.2 (.fieldLink RX6 92 "LikelyWalksModel" "isShot" "Z") (by decide +kernel)
  refine z_iconst C dX6_keep_0 ?_
  refine lv_istore_n (lv' := [(1, .int (iI 0)), (0, .ref m0)]) C.1 C.2.1 dX6_keep_1 rfl hl (by decide) rfl (fun ls hl => ?_)
  refine z_loop2 (P := fun (k : Int) (g : Int → Int) => (0 ≤ k ∧ k ≤ 780) ∧ (g = cpZ M Sh k)) (mu := fun (k : Int) (g : Int → Int) => (780 - k).toNat) (ws := fun (k : Int) (g : Int → Int) => [zO m0 6 [.ref m1, .ref m2, .int (iI st), .ref m3, .int (iI iss), .ref m4, .int (iI ty), .ref m5, .ref m6, .ref m7, .ref m8], zA cy m1 780 M, zA cy m3 780 g]) (lv := fun (k : Int) (g : Int → Int) => [(0, .ref m0), (1, .int (iI k))]) 0 Sh C ⟨(by omega), (cpZ_0 _ _).symm⟩ wd (lv_sub hl [1, 0] rfl) ?_
  intro k g hP2 ih2 H locs ls wd hl
  obtain ⟨h2_0, h2_1⟩ := hP2
  try dsimp only at h2_0 h2_1
  have wd : Wd D (zT cy cs) _ s.heap s [zO m0 6 [.ref m1, .ref m2, .int (iI st), .ref m3, .int (iI iss), .ref m4, .int (iI ty), .ref m5, .ref m6, .ref m7, .ref m8], zA cy m1 780 M, zA cy m3 780 g] H locs := wd
  have hl : lv_has ls 2 [(0, .ref m0), (1, .int (iI k))] := hl
  refine lv_iload_n C.1 C.2.1 dX6_keep_2 rfl (lv_at hl 1 rfl) ?_
  refine z_sipush C dX6_keep_3 (by decide +kernel) ?_
  refine z_icmp_ge C (tgt := 27) dX6_keep_6 (by decide) (by omega) (fun c_1 => ?_) (fun c_1 => ?_)
  · skip
    refine lv_aload_n C.1 C.2.1 dX6_keep_27 rfl (lv_at hl 0 rfl) ?_
    refine z_iconst C dX6_keep_28 ?_
    refine z_put C wd (Cn := RX6) (TT := TX6) (N := 11) (ci := 6) (ws2 := [zO m0 6 [.ref m1, .ref m2, .int (iI st), .ref m3, .int (iI 1), .ref m4, .int (iI ty), .ref m5, .ref m6, .ref m7, .ref m8], zA cy m1 780 M, zA cy m3 780 g]) iX6 tyX6 tyX6_ok nmX6 0 rfl rfl 4 (by decide) L92 (fun _ h => h) rfl (ty := .boolean) (by decide +kernel) rfl rfl (Nat.le_of_ble_eq_true rfl) rfl dX6_keep_29 (fun H locs wd => ?_)
    refine lv_aload_n C.1 C.2.1 dX6_keep_32 rfl (lv_at hl 0 rfl) ?_
    refine z_get C wd (Cn := RX6) (TT := TX6) (N := 11) (ci := 6) iX6 0 rfl rfl 0 (by decide) L7 (fun _ h => h) rfl dX6_keep_33 ?_
    refine z_bipush C dX6_keep_36 (by decide +kernel) ?_
    refine z_iald C wd 1 rfl (by omega) (by decide) dX6_keep_38 ?_
    have wd := z_cell wd (ws2 := [zO m0 6 [.ref m1, .ref m2, .int (iI st), .ref m3, .int (iI 1), .ref m4, .int (iI ty), .ref m5, .ref m6, .ref m7, .ref m8], zA cy m1 780 M, zA cy m3 780 M]) 2 rfl (by intro j j0 j1; rw [h2_1, show k = 780 by omega]; exact if_pos (by omega)) rfl
    exact z_iret C hr hlk wd (by first | rfl | omega) dX6_keep_39
  · skip
    refine lv_aload_n C.1 C.2.1 dX6_keep_9 rfl (lv_at hl 0 rfl) ?_
    refine z_get C wd (Cn := RX6) (TT := TX6) (N := 11) (ci := 6) iX6 0 rfl rfl 3 (by decide) L16 (fun _ h => h) rfl dX6_keep_10 ?_
    refine lv_iload_n C.1 C.2.1 dX6_keep_13 rfl (lv_at hl 1 rfl) ?_
    refine lv_aload_n C.1 C.2.1 dX6_keep_14 rfl (lv_at hl 0 rfl) ?_
    refine z_get C wd (Cn := RX6) (TT := TX6) (N := 11) (ci := 6) iX6 0 rfl rfl 0 (by decide) L7 (fun _ h => h) rfl dX6_keep_15 ?_
    refine lv_iload_n C.1 C.2.1 dX6_keep_18 rfl (lv_at hl 1 rfl) ?_
    refine z_iald C wd 1 rfl (by omega) (by decide) dX6_keep_19 ?_
    refine z_iast C wd (ws2 := [zO m0 6 [.ref m1, .ref m2, .int (iI st), .ref m3, .int (iI iss), .ref m4, .int (iI ty), .ref m5, .ref m6, .ref m7, .ref m8], zA cy m1 780 M, zA cy m3 780 (uZ g k (M k))]) 2 rfl (by omega) (by decide) rfl dX6_keep_20 (fun H locs wd => ?_)
    refine z_iinc C (lv' := [(1, .int (iI (k + 1))), (0, .ref m0)]) hl 1 dX6_keep_21 rfl (by decide) rfl (fun ls hl => ?_)
    refine z_goto C (tgt := 2) dX6_keep_24 (by decide) ?_
    exact ih2 (k + 1) (uZ g k (M k)) ⟨(by omega), (by rw [h2_1]; exact cpZ_step M Sh k h2_0.1)⟩ (by omega) H locs _ wd (lv_sub hl [1, 0] rfl)
set_option maxRecDepth 100000 in
set_option maxHeartbeats 4000000 in
theorem c_mrestoreA (l : Launch) (D : va_G) (cy cs : ClassId) (m0 m1 m2 m3 m4 m5 m6 m7 m8 : Nat) (st iss ty : Int) (M : Int → Int) (Hs : Int → Int) (Sh : Int → Int) (hst : 0 ≤ st ∧ st ≤ 4) (hiss : iss = 1) : zCi l D (zT cy cs) yX6_restore wsX6_restore ({ frames := 1, cells := 0, slots := 0, locals := 21 } : Room) [.ref m0] [zO m0 6 [.ref m1, .ref m2, .int (iI st), .ref m3, .int (iI iss), .ref m4, .int (iI ty), .ref m5, .ref m6, .ref m7, .ref m8], zA cy m1 780 M, zA cy m2 3120 Hs, zA cy m3 780 Sh] (Sh 7) [zO m0 6 [.ref m1, .ref m2, .int (iI (pn st)), .ref m3, .int (iI iss), .ref m4, .int (iI ty), .ref m5, .ref m6, .ref m7, .ref m8], zA cy m1 780 Sh, zA cy m2 3120 (recH M Hs st), zA cy m3 780 Sh] := by
  intro sz
  refine zM_mk (cc := cX6_restore) (maxL := 2) (ret := (some .int)) (own := RX6) (Qc := fun sz => va_Qi (fun r (_ : Unit) => r = iI (Sh 7)) (fun _ t => zQ D (zT cy cs) (va_A [zO m0 6 [.ref m1, .ref m2, .int (iI st), .ref m3, .int (iI iss), .ref m4, .int (iI ty), .ref m5, .ref m6, .ref m7, .ref m8], zA cy m1 780 M, zA cy m2 3120 Hs, zA cy m3 780 Sh] sz) [zO m0 6 [.ref m1, .ref m2, .int (iI (pn st)), .ref m3, .int (iI iss), .ref m4, .int (iI ty), .ref m5, .ref m6, .ref m7, .ref m8], zA cy m1 780 Sh, zA cy m2 3120 (recH M Hs st), zA cy m3 780 Sh] t) (va_A [zO m0 6 [.ref m1, .ref m2, .int (iI st), .ref m3, .int (iI iss), .ref m4, .int (iI ty), .ref m5, .ref m6, .ref m7, .ref m8], zA cy m1 780 M, zA cy m2 3120 Hs, zA cy m3 780 Sh] sz)) (by decide) rfl rfl (Nat.le_of_ble_eq_true rfl) rfl sz ?_
  intro p e s m args below meth c ls C hr hlk hnm hl hsz hA wd
  subst hsz
  have hl : lv_has ls 2 [(0, .ref m0)] := hl
  have iX6 : ∀ w ∈ u_ws RX6 TX6 11, w ∈ wsX6_restore := by decide +kernel
  have L7 := C.2.2.2.2 (.fieldLink RX6 7 "LikelyWalksModel" "now" "[I") (by decide +kernel)
  have L16 := C.2.2.2.2 (.fieldLink RX6 16 "LikelyWalksModel" "shot" "[I") (by decide +kernel)
  have L92 := C.2.2.2.2 (.fieldLink RX6 92 "LikelyWalksModel" "isShot" "Z") (by decide +kernel)
  refine lv_aload_n C.1 C.2.1 dX6_restore_0 rfl (lv_at hl 0 rfl) ?_
  refine z_get C wd (Cn := RX6) (TT := TX6) (N := 11) (ci := 6) iX6 0 rfl rfl 4 (by decide) L92 (fun _ h => h) rfl dX6_restore_1 ?_
  refine z_if_ne C (tgt := 10) dX6_restore_4 (by decide) (by omega) (fun c_1 => ?_) (fun c_1 => ?_)
  · skip
    refine lv_aload_n C.1 C.2.1 dX6_restore_10 rfl (lv_at hl 0 rfl) ?_
    refine z_cvv C wd hA (As := []) (rest := []) (ws2 := [zO m0 6 [.ref m1, .ref m2, .int (iI (pn st)), .ref m3, .int (iI iss), .ref m4, .int (iI ty), .ref m5, .ref m6, .ref m7, .ref m8], zA cy m1 780 M, zA cy m2 3120 (recH M Hs st), zA cy m3 780 Sh]) (c_X6_record l D cy cs m0 m1 m2 m3 m4 m5 m6 m7 m8 st iss ty M Hs (by omega)) (cwV 0 C.2.2.2.2 gX6_restore_X6_record rfl rfl rfl (by decide +kernel) ⟨Nat.le_of_ble_eq_true rfl, Nat.le_of_ble_eq_true rfl⟩) [0, 1, 2] rfl rfl rfl ⟨rfl, [3], [zA cy m3 780 Sh], 4, rfl, rfl, rfl, by decide +kernel⟩ rfl rfl rfl rfl (Nat.le_of_ble_eq_true rfl) hl.1 dX6_restore_11 ⟨Nat.zero_le _, Nat.zero_le _⟩ (fun H locs wd => ?_)
    refine z_iconst C dX6_restore_14 ?_
    refine lv_istore_n (lv' := [(1, .int (iI 0)), (0, .ref m0)]) C.1 C.2.1 dX6_restore_15 rfl hl (by decide) rfl (fun ls hl => ?_)
    refine z_loop2 (P := fun (k : Int) (g : Int → Int) => (0 ≤ k ∧ k ≤ 780) ∧ (g = cpZ Sh M k)) (mu := fun (k : Int) (g : Int → Int) => (780 - k).toNat) (ws := fun (k : Int) (g : Int → Int) => [zO m0 6 [.ref m1, .ref m2, .int (iI (pn st)), .ref m3, .int (iI iss), .ref m4, .int (iI ty), .ref m5, .ref m6, .ref m7, .ref m8], zA cy m1 780 g, zA cy m2 3120 (recH M Hs st), zA cy m3 780 Sh]) (lv := fun (k : Int) (g : Int → Int) => [(0, .ref m0), (1, .int (iI k))]) 0 M C ⟨(by omega), (cpZ_0 _ _).symm⟩ wd (lv_sub hl [1, 0] rfl) ?_
    intro k g hP16 ih16 H locs ls wd hl
    obtain ⟨h16_0, h16_1⟩ := hP16
    try dsimp only at h16_0 h16_1
    have wd : Wd D (zT cy cs) _ s.heap s [zO m0 6 [.ref m1, .ref m2, .int (iI (pn st)), .ref m3, .int (iI iss), .ref m4, .int (iI ty), .ref m5, .ref m6, .ref m7, .ref m8], zA cy m1 780 g, zA cy m2 3120 (recH M Hs st), zA cy m3 780 Sh] H locs := wd
    have hl : lv_has ls 2 [(0, .ref m0), (1, .int (iI k))] := hl
    refine lv_iload_n C.1 C.2.1 dX6_restore_16 rfl (lv_at hl 1 rfl) ?_
    refine z_sipush C dX6_restore_17 (by decide +kernel) ?_
    refine z_icmp_ge C (tgt := 41) dX6_restore_20 (by decide) (by omega) (fun c_2 => ?_) (fun c_2 => ?_)
    · skip
      refine lv_aload_n C.1 C.2.1 dX6_restore_41 rfl (lv_at hl 0 rfl) ?_
      refine z_get C wd (Cn := RX6) (TT := TX6) (N := 11) (ci := 6) iX6 0 rfl rfl 0 (by decide) L7 (fun _ h => h) rfl dX6_restore_42 ?_
      refine z_bipush C dX6_restore_45 (by decide +kernel) ?_
      refine z_iald C wd 1 rfl (by omega) (by decide) dX6_restore_47 ?_
      have wd := z_cell wd (ws2 := [zO m0 6 [.ref m1, .ref m2, .int (iI (pn st)), .ref m3, .int (iI iss), .ref m4, .int (iI ty), .ref m5, .ref m6, .ref m7, .ref m8], zA cy m1 780 Sh, zA cy m2 3120 (recH M Hs st), zA cy m3 780 Sh]) 1 rfl (by intro j j0 j1; rw [h16_1, show k = 780 by omega]; exact if_pos (by omega)) rfl
      exact z_iret C hr hlk wd (by rw [h16_1]; exact if_pos (by omega)) dX6_restore_48
    · skip
      refine lv_aload_n C.1 C.2.1 dX6_restore_23 rfl (lv_at hl 0 rfl) ?_
      refine z_get C wd (Cn := RX6) (TT := TX6) (N := 11) (ci := 6) iX6 0 rfl rfl 0 (by decide) L7 (fun _ h => h) rfl dX6_restore_24 ?_
      refine lv_iload_n C.1 C.2.1 dX6_restore_27 rfl (lv_at hl 1 rfl) ?_
      refine lv_aload_n C.1 C.2.1 dX6_restore_28 rfl (lv_at hl 0 rfl) ?_
      refine z_get C wd (Cn := RX6) (TT := TX6) (N := 11) (ci := 6) iX6 0 rfl rfl 3 (by decide) L16 (fun _ h => h) rfl dX6_restore_29 ?_
      refine lv_iload_n C.1 C.2.1 dX6_restore_32 rfl (lv_at hl 1 rfl) ?_
      refine z_iald C wd 3 rfl (by omega) (by decide) dX6_restore_33 ?_
      refine z_iast C wd (ws2 := [zO m0 6 [.ref m1, .ref m2, .int (iI (pn st)), .ref m3, .int (iI iss), .ref m4, .int (iI ty), .ref m5, .ref m6, .ref m7, .ref m8], zA cy m1 780 (uZ g k (Sh k)), zA cy m2 3120 (recH M Hs st), zA cy m3 780 Sh]) 1 rfl (by omega) (by decide) rfl dX6_restore_34 (fun H locs wd => ?_)
      refine z_iinc C (lv' := [(1, .int (iI (k + 1))), (0, .ref m0)]) hl 1 dX6_restore_35 rfl (by decide) rfl (fun ls hl => ?_)
      refine z_goto C (tgt := 16) dX6_restore_38 (by decide) ?_
      exact ih16 (k + 1) (uZ g k (Sh k)) ⟨(by omega), (by rw [h16_1]; exact cpZ_step Sh M k h16_0.1)⟩ (by omega) H locs _ wd (lv_sub hl [1, 0] rfl)
  · skip
    exact False.elim (by omega)
