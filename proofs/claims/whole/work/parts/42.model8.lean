set_option maxRecDepth 100000 in
set_option maxHeartbeats 4000000 in
theorem c_mtakeA (l : Launch) (D : va_G) (cy cs : ClassId) (m0 m1 m2 m3 m4 m5 m6 m7 m8 : Nat) (st iss ty : Int) (M : Int → Int) (Hs : Int → Int) (n : Int) (hd me wk : Int → Int) (hst : 0 ≤ st ∧ st ≤ 4) (hrk : rdOk M) (hhd0 : hdOk hd) (hn : 1 ≤ n ∧ n ≤ 80) (h11 : M 11 = 0) (hli : ∀ j : Int, 0 ≤ j → j < 240 → 0 ≤ M (92 + j) ∧ M (92 + j) ≤ 2) (hln : 0 ≤ M 7 * M 1 ∧ M 7 * M 1 ≤ 240) (h8 : 0 ≤ M 8) (hln2 : M 8 + n * M 1 ≤ M 7 * M 1) (h80 : M 9 + n ≤ 80) : zXi l D (zT cy cs) yX6_take wsX6_take ({ frames := 4, cells := 0, slots := 0, locals := 96 } : Room) [.ref m0, .int (iI n)] [zO m0 6 [.ref m1, .ref m2, .int (iI st), .ref m3, .int (iI iss), .ref m4, .int (iI ty), .ref m5, .ref m6, .ref m7, .ref m8], zA cy m1 780 M, zA cy m2 3120 Hs, zA cy m5 3 hd, zA cy m6 32 me, zA cy m7 96 wk] ((tkN M n.toNat) 10) (fun (u9 : (Int → Int) × (Int → Int) × (Int → Int)) => hdOk u9.1) (fun (u9 : (Int → Int) × (Int → Int) × (Int → Int)) => [zO m0 6 [.ref m1, .ref m2, .int (iI (pn st)), .ref m3, .int (iI iss), .ref m4, .int (iI ty), .ref m5, .ref m6, .ref m7, .ref m8], zA cy m1 780 (tkN M n.toNat), zA cy m2 3120 (recH M Hs st), zA cy m5 3 u9.1, zA cy m6 32 u9.2.1, zA cy m7 96 u9.2.2]) := by
  intro sz
  refine zM_mk (cc := cX6_take) (maxL := 4) (ret := (some .int)) (own := RX6) (Qc := fun sz => va_Qi (fun r (u9 : (Int → Int) × (Int → Int) × (Int → Int)) => r = iI ((tkN M n.toNat) 10) ∧ hdOk u9.1) (fun u9 t9 => zQ D (zT cy cs) (va_A [zO m0 6 [.ref m1, .ref m2, .int (iI st), .ref m3, .int (iI iss), .ref m4, .int (iI ty), .ref m5, .ref m6, .ref m7, .ref m8], zA cy m1 780 M, zA cy m2 3120 Hs, zA cy m5 3 hd, zA cy m6 32 me, zA cy m7 96 wk] sz) [zO m0 6 [.ref m1, .ref m2, .int (iI (pn st)), .ref m3, .int (iI iss), .ref m4, .int (iI ty), .ref m5, .ref m6, .ref m7, .ref m8], zA cy m1 780 (tkN M n.toNat), zA cy m2 3120 (recH M Hs st), zA cy m5 3 u9.1, zA cy m6 32 u9.2.1, zA cy m7 96 u9.2.2] t9) (va_A [zO m0 6 [.ref m1, .ref m2, .int (iI st), .ref m3, .int (iI iss), .ref m4, .int (iI ty), .ref m5, .ref m6, .ref m7, .ref m8], zA cy m1 780 M, zA cy m2 3120 Hs, zA cy m5 3 hd, zA cy m6 32 me, zA cy m7 96 wk] sz)) (by decide) rfl rfl (Nat.le_of_ble_eq_true rfl) rfl sz ?_
  intro p e s m args below meth c ls C hr hlk hnm hl hsz hA wd
  subst hsz
  have hl : lv_has ls 4 [(0, .ref m0), (1, .int (iI n))] := hl
  have iX6 : ∀ w ∈ u_ws RX6 TX6 11, w ∈ wsX6_take := by decide +kernel
  have L7 := C.2.2.2.2 (.fieldLink RX6 7 "LikelyWalksModel" "now" "[I") (by decide +kernel)
  have L22 := C.2.2.2.2 (.fieldLink RX6 22 "LikelyWalksModel" "heard" "[I") (by decide +kernel)
  obtain ⟨hm, ho, ht, h5, h9, hN, hme, hwd, hbs⟩ := id hrk
  have hno := nO_le (by omega : 0 ≤ n) ho hn.2
  refine lv_iload_n C.1 C.2.1 dX6_take_0 rfl (lv_at hl 1 rfl) ?_
  refine z_iconst C dX6_take_1 ?_
  refine z_bipush C dX6_take_2 (by decide +kernel) ?_
  refine z_csi C wd hA (As := [.int (iI n), .int (iI 1), .int (iI 80)]) (rest := []) (ws2 := [zO m0 6 [.ref m1, .ref m2, .int (iI st), .ref m3, .int (iI iss), .ref m4, .int (iI ty), .ref m5, .ref m6, .ref m7, .ref m8], zA cy m1 780 M, zA cy m2 3120 Hs, zA cy m5 3 hd, zA cy m6 32 me, zA cy m7 96 wk]) (c_X6_in l D cy cs n 1 80 (by omega) (by omega) (by omega)) (cwS 3 C.2.2.2.2 gX6_take_X6_in rfl rfl rfl (by decide +kernel) ⟨Nat.le_of_ble_eq_true rfl, Nat.le_of_ble_eq_true rfl⟩) [] rfl rfl rfl ⟨rfl, [0, 1, 2, 3, 4, 5], [zO m0 6 [.ref m1, .ref m2, .int (iI st), .ref m3, .int (iI iss), .ref m4, .int (iI ty), .ref m5, .ref m6, .ref m7, .ref m8], zA cy m1 780 M, zA cy m2 3120 Hs, zA cy m5 3 hd, zA cy m6 32 me, zA cy m7 96 wk], 6, rfl, rfl, rfl, by decide +kernel⟩ rfl rfl (Nat.le_of_ble_eq_true rfl) hl.1 dX6_take_4 ⟨Nat.zero_le _, Nat.zero_le _⟩ (fun H locs wd => ?_)
  refine z_ifb_ne C (tgt := 13) dX6_take_7 (by decide) (fun c_1 => ?_) (fun c_1 => ?_)
  · skip
    refine lv_aload_n C.1 C.2.1 dX6_take_13 rfl (lv_at hl 0 rfl) ?_
    refine z_get C wd (Cn := RX6) (TT := TX6) (N := 11) (ci := 6) iX6 0 rfl rfl 0 (by decide) L7 (fun _ h => h) rfl dX6_take_14 ?_
    refine z_bipush C dX6_take_17 (by decide +kernel) ?_
    refine z_iald C wd 1 rfl (by omega) (by decide) dX6_take_19 ?_
    refine z_iconst C dX6_take_20 ?_
    refine z_icmp_eq C (tgt := 47) dX6_take_21 (by decide) (by omega) (fun c_2 => ?_) (fun c_2 => ?_)
    · skip
      exact False.elim (by omega)
    · skip
      refine lv_aload_n C.1 C.2.1 dX6_take_24 rfl (lv_at hl 0 rfl) ?_
      refine z_cvi C wd hA (As := []) (rest := []) (ws2 := [zO m0 6 [.ref m1, .ref m2, .int (iI st), .ref m3, .int (iI iss), .ref m4, .int (iI ty), .ref m5, .ref m6, .ref m7, .ref m8], zA cy m1 780 M, zA cy m2 3120 Hs, zA cy m5 3 hd, zA cy m6 32 me, zA cy m7 96 wk]) (c_X6_symbols l D cy cs m0 m1 m2 m3 m4 m5 m6 m7 m8 st iss ty M ) (cwV 0 C.2.2.2.2 gX6_take_X6_symbols rfl rfl rfl (by decide +kernel) ⟨Nat.le_of_ble_eq_true rfl, Nat.le_of_ble_eq_true rfl⟩) [0, 1] rfl rfl rfl ⟨rfl, [2, 3, 4, 5], [zA cy m2 3120 Hs, zA cy m5 3 hd, zA cy m6 32 me, zA cy m7 96 wk], 6, rfl, rfl, rfl, by decide +kernel⟩ rfl rfl rfl rfl (Nat.le_of_ble_eq_true rfl) hl.1 dX6_take_25 ⟨Nat.zero_le _, Nat.zero_le _⟩ (fun H locs wd => ?_)
      refine lv_aload_n C.1 C.2.1 dX6_take_28 rfl (lv_at hl 0 rfl) ?_
      refine z_get C wd (Cn := RX6) (TT := TX6) (N := 11) (ci := 6) iX6 0 rfl rfl 0 (by decide) L7 (fun _ h => h) rfl dX6_take_29 ?_
      refine z_bipush C dX6_take_32 (by decide +kernel) ?_
      refine z_iald C wd 1 rfl (by omega) (by decide) dX6_take_34 ?_
      refine z_isub C dX6_take_35 ?_
      refine lv_iload_n C.1 C.2.1 dX6_take_36 rfl (lv_at hl 1 rfl) ?_
      refine lv_aload_n C.1 C.2.1 dX6_take_37 rfl (lv_at hl 0 rfl) ?_
      refine z_get C wd (Cn := RX6) (TT := TX6) (N := 11) (ci := 6) iX6 0 rfl rfl 0 (by decide) L7 (fun _ h => h) rfl dX6_take_38 ?_
      refine z_iconst C dX6_take_41 ?_
      refine z_iald C wd 1 rfl (by omega) (by decide) dX6_take_42 ?_
      refine z_imul C dX6_take_43 ?_
      refine z_icmp_ge C (tgt := 50) dX6_take_44 (by decide) (by omega) (fun c_3 => ?_) (fun c_3 => ?_)
      · skip
        refine lv_aload_n C.1 C.2.1 dX6_take_50 rfl (lv_at hl 0 rfl) ?_
        refine z_get C wd (Cn := RX6) (TT := TX6) (N := 11) (ci := 6) iX6 0 rfl rfl 0 (by decide) L7 (fun _ h => h) rfl dX6_take_51 ?_
        refine z_bipush C dX6_take_54 (by decide +kernel) ?_
        refine z_iald C wd 1 rfl (by omega) (by decide) dX6_take_56 ?_
        refine lv_iload_n C.1 C.2.1 dX6_take_57 rfl (lv_at hl 1 rfl) ?_
        refine z_iadd C dX6_take_58 ?_
        refine z_bipush C dX6_take_59 (by decide +kernel) ?_
        refine z_icmp_le C (tgt := 67) dX6_take_61 (by decide) (by omega) (fun c_4 => ?_) (fun c_4 => ?_)
        · skip
          refine lv_aload_n C.1 C.2.1 dX6_take_67 rfl (lv_at hl 0 rfl) ?_
          refine z_cvv C wd hA (As := []) (rest := []) (ws2 := [zO m0 6 [.ref m1, .ref m2, .int (iI (pn st)), .ref m3, .int (iI iss), .ref m4, .int (iI ty), .ref m5, .ref m6, .ref m7, .ref m8], zA cy m1 780 M, zA cy m2 3120 (recH M Hs st), zA cy m5 3 hd, zA cy m6 32 me, zA cy m7 96 wk]) (c_X6_record l D cy cs m0 m1 m2 m3 m4 m5 m6 m7 m8 st iss ty M Hs (by omega)) (cwV 0 C.2.2.2.2 gX6_take_X6_record rfl rfl rfl (by decide +kernel) ⟨Nat.le_of_ble_eq_true rfl, Nat.le_of_ble_eq_true rfl⟩) [0, 1, 2] rfl rfl rfl ⟨rfl, [3, 4, 5], [zA cy m5 3 hd, zA cy m6 32 me, zA cy m7 96 wk], 6, rfl, rfl, rfl, by decide +kernel⟩ rfl rfl rfl rfl (Nat.le_of_ble_eq_true rfl) hl.1 dX6_take_68 ⟨Nat.zero_le _, Nat.zero_le _⟩ (fun H locs wd => ?_)
          refine z_iconst C dX6_take_71 ?_
          refine lv_istore_n (lv' := [(2, .int (iI 0)), (0, .ref m0), (1, .int (iI n))]) C.1 C.2.1 dX6_take_72 rfl hl (by decide) rfl (fun ls hl => ?_)
          refine z_loop5 (P := fun (k : Int) (Mv : Int → Int) (h5v : Int → Int) (h6v : Int → Int) (h7v : Int → Int) => (0 ≤ k ∧ k ≤ n) ∧ (Mv = tkN M k.toNat) ∧ (hdOk h5v)) (mu := fun (k : Int) (Mv : Int → Int) (h5v : Int → Int) (h6v : Int → Int) (h7v : Int → Int) => (n - k).toNat) (ws := fun (k : Int) (Mv : Int → Int) (h5v : Int → Int) (h6v : Int → Int) (h7v : Int → Int) => [zO m0 6 [.ref m1, .ref m2, .int (iI (pn st)), .ref m3, .int (iI iss), .ref m4, .int (iI ty), .ref m5, .ref m6, .ref m7, .ref m8], zA cy m1 780 Mv, zA cy m2 3120 (recH M Hs st), zA cy m5 3 h5v, zA cy m6 32 h6v, zA cy m7 96 h7v]) (lv := fun (k : Int) (Mv : Int → Int) (h5v : Int → Int) (h6v : Int → Int) (h7v : Int → Int) => [(0, .ref m0), (1, .int (iI n)), (2, .int (iI k))]) 0 M hd me wk C ⟨(by omega), rfl, hhd0⟩ wd (lv_sub hl [1, 2, 0] rfl) ?_
          intro k Mv h5v h6v h7v hP73 ih73 H locs ls wd hl
          obtain ⟨h73_0, h73_1, h73_2⟩ := hP73
          try dsimp only at h73_0 h73_1 h73_2
          have wd : Wd D (zT cy cs) _ s.heap s [zO m0 6 [.ref m1, .ref m2, .int (iI (pn st)), .ref m3, .int (iI iss), .ref m4, .int (iI ty), .ref m5, .ref m6, .ref m7, .ref m8], zA cy m1 780 Mv, zA cy m2 3120 (recH M Hs st), zA cy m5 3 h5v, zA cy m6 32 h6v, zA cy m7 96 h7v] H locs := wd
          have hl : lv_has ls 4 [(0, .ref m0), (1, .int (iI n)), (2, .int (iI k))] := hl
          have hvo := tkN_ok hrk k.toNat (by omega)
          rw [← h73_1, Int.toNat_of_nonneg h73_0.1] at hvo
          have hv1 : Mv 1 = M 1 := hvo.2.2.2 1 (by omega) (by omega) (by omega) (by omega)
          have hkO : k < n → k * M 1 + M 1 ≤ n * M 1 := fun q => kO_le q ho
          have hkp : 0 ≤ k * M 1 := Int.mul_nonneg h73_0.1 (by omega)
          have hv9 := hvo.2.1
          have hv8 := hvo.2.2.1
          refine lv_iload_n C.1 C.2.1 dX6_take_73 rfl (lv_at hl 2 rfl) ?_
          refine lv_iload_n C.1 C.2.1 dX6_take_74 rfl (lv_at hl 1 rfl) ?_
          refine z_icmp_ge C (tgt := 145) dX6_take_75 (by decide) (by omega) (fun c_5 => ?_) (fun c_5 => ?_)
          · skip
            refine lv_aload_n C.1 C.2.1 dX6_take_145 rfl (lv_at hl 0 rfl) ?_
            refine z_get C wd (Cn := RX6) (TT := TX6) (N := 11) (ci := 6) iX6 0 rfl rfl 0 (by decide) L7 (fun _ h => h) rfl dX6_take_146 ?_
            refine z_bipush C dX6_take_149 (by decide +kernel) ?_
            refine z_iald C wd 1 rfl (by omega) (by decide) dX6_take_151 ?_
            have wd := z_cell wd (ws2 := [zO m0 6 [.ref m1, .ref m2, .int (iI (pn st)), .ref m3, .int (iI iss), .ref m4, .int (iI ty), .ref m5, .ref m6, .ref m7, .ref m8], zA cy m1 780 (tkN M n.toNat), zA cy m2 3120 (recH M Hs st), zA cy m5 3 h5v, zA cy m6 32 h6v, zA cy m7 96 h7v]) 1 rfl (by intro j _ _; rw [h73_1, show k = n by omega]) rfl
            exact z_iretX C hr hlk (h5v, h6v, h7v) h73_2 wd (by rw [h73_1, show k = n by omega]) dX6_take_152
          · skip
            refine z_iconst C dX6_take_78 ?_
            refine lv_istore_n (lv' := [(3, .int (iI 0)), (0, .ref m0), (1, .int (iI n)), (2, .int (iI k))]) C.1 C.2.1 dX6_take_79 rfl hl (by decide) rfl (fun ls hl => ?_)
            refine z_loop2 (P := fun (y : Int) (f5 : Int → Int) => (0 ≤ y ∧ y ≤ Mv 1) ∧ (f5 = wrS h5v 0 y (hrd Mv))) (mu := fun (y : Int) (f5 : Int → Int) => (Mv 1 - y).toNat) (ws := fun (y : Int) (f5 : Int → Int) => [zO m0 6 [.ref m1, .ref m2, .int (iI (pn st)), .ref m3, .int (iI iss), .ref m4, .int (iI ty), .ref m5, .ref m6, .ref m7, .ref m8], zA cy m1 780 Mv, zA cy m2 3120 (recH M Hs st), zA cy m5 3 f5, zA cy m6 32 h6v, zA cy m7 96 h7v]) (lv := fun (y : Int) (f5 : Int → Int) => [(0, .ref m0), (1, .int (iI n)), (2, .int (iI k)), (3, .int (iI y))]) 0 h5v C ⟨(by omega), (wrS_0 _ _ _).symm⟩ wd (lv_sub hl [1, 2, 3, 0] rfl) ?_
            intro y f5 hP80 ih80 H locs ls wd hl
            obtain ⟨h80_0, h80_1⟩ := hP80
            try dsimp only at h80_0 h80_1
            have wd : Wd D (zT cy cs) _ s.heap s [zO m0 6 [.ref m1, .ref m2, .int (iI (pn st)), .ref m3, .int (iI iss), .ref m4, .int (iI ty), .ref m5, .ref m6, .ref m7, .ref m8], zA cy m1 780 Mv, zA cy m2 3120 (recH M Hs st), zA cy m5 3 f5, zA cy m6 32 h6v, zA cy m7 96 h7v] H locs := wd
            have hl : lv_has ls 4 [(0, .ref m0), (1, .int (iI n)), (2, .int (iI k)), (3, .int (iI y))] := hl
            have hkO2 := hkO (by omega)
            have hg5 : hdOk f5 := by rw [h80_1]; exact take_hd hrk hvo h73_2 hv1 hv8 hli h8 hkp (by omega) (by omega)
            refine lv_iload_n C.1 C.2.1 dX6_take_80 rfl (lv_at hl 3 rfl) ?_
            refine lv_aload_n C.1 C.2.1 dX6_take_81 rfl (lv_at hl 0 rfl) ?_
            refine z_get C wd (Cn := RX6) (TT := TX6) (N := 11) (ci := 6) iX6 0 rfl rfl 0 (by decide) L7 (fun _ h => h) rfl dX6_take_82 ?_
            refine z_iconst C dX6_take_85 ?_
            refine z_iald C wd 1 rfl (by omega) (by decide) dX6_take_86 ?_
            refine z_icmp_ge C (tgt := 119) dX6_take_87 (by decide) (by omega) (fun c_6 => ?_) (fun c_6 => ?_)
            · skip
              refine lv_aload_n C.1 C.2.1 dX6_take_119 rfl (lv_at hl 0 rfl) ?_
              refine z_get C wd (Cn := RX6) (TT := TX6) (N := 11) (ci := 6) iX6 0 rfl rfl 0 (by decide) L7 (fun _ h => h) rfl dX6_take_120 ?_
              refine z_bipush C dX6_take_123 (by decide +kernel) ?_
              refine lv_dup2_11 C.1 C.2.1 dX6_take_125 rfl rfl ?_
              refine z_iald C wd 1 rfl (by omega) (by decide) dX6_take_126 ?_
              refine lv_aload_n C.1 C.2.1 dX6_take_127 rfl (lv_at hl 0 rfl) ?_
              refine z_get C wd (Cn := RX6) (TT := TX6) (N := 11) (ci := 6) iX6 0 rfl rfl 0 (by decide) L7 (fun _ h => h) rfl dX6_take_128 ?_
              refine z_iconst C dX6_take_131 ?_
              refine z_iald C wd 1 rfl (by omega) (by decide) dX6_take_132 ?_
              refine z_iadd C dX6_take_133 ?_
              refine z_iast C wd (ws2 := [zO m0 6 [.ref m1, .ref m2, .int (iI (pn st)), .ref m3, .int (iI iss), .ref m4, .int (iI ty), .ref m5, .ref m6, .ref m7, .ref m8], zA cy m1 780 (uZ Mv 8 ((Mv 8) + (Mv 1))), zA cy m2 3120 (recH M Hs st), zA cy m5 3 f5, zA cy m6 32 h6v, zA cy m7 96 h7v]) 1 rfl (by omega) (by decide) rfl dX6_take_134 (fun H locs wd => ?_)
              refine lv_aload_n C.1 C.2.1 dX6_take_135 rfl (lv_at hl 0 rfl) ?_
              have hv2 := And.intro (rdOk_8 (Mv 8 + Mv 1) hvo.1) True.intro
              have hhd9 : hdOk f5 := hg5
              have hcg : goM (uZ Mv 8 (Mv 8 + Mv 1)) f5 = tkS Mv := goM_cong (fun q q0 q1 => by rw [h80_1]; exact wrS_in Mv h5v q0 (by have q2 : q < Mv 1 := q1; omega))
              have hbs9 := bsM_pos f5 hv2.1
              have hx9 : uZ Mv 8 (Mv 8 + Mv 1) 9 = Mv 9 := rfl
              have hx10 : uZ Mv 8 (Mv 8 + Mv 1) 10 = Mv 10 := rfl
              have hx5 : uZ Mv 8 (Mv 8 + Mv 1) 5 = Mv 5 := rfl
              have hx0 : uZ Mv 8 (Mv 8 + Mv 1) 0 = Mv 0 := rfl
              have hx1 : uZ Mv 8 (Mv 8 + Mv 1) 1 = Mv 1 := rfl
              have hd5 := hvo.1.2.2.2.1
              have hd10 := hvo.1.2.2.2.2.2.1
              have hd0 := hvo.1.1
              have hd1 := hvo.1.2.1
              refine z_cvv C wd hA (As := []) (rest := []) (ws2 := [zO m0 6 [.ref m1, .ref m2, .int (iI (pn st)), .ref m3, .int (iI iss), .ref m4, .int (iI ty), .ref m5, .ref m6, .ref m7, .ref m8], zA cy m1 780 (goM (uZ Mv 8 ((Mv 8) + (Mv 1))) f5), zA cy m2 3120 (recH M Hs st), zA cy m5 3 f5, zA cy m6 32 (cpZ (nmM (uZ Mv 8 ((Mv 8) + (Mv 1))) f5) h6v (p2 ((uZ Mv 8 ((Mv 8) + (Mv 1))) 0))), zA cy m7 96 (cpZ (wkA (uZ Mv 8 ((Mv 8) + (Mv 1))) f5) h7v (3 * p2 ((uZ Mv 8 ((Mv 8) + (Mv 1))) 0)))]) (c_X6_go l D cy cs m0 m1 m2 m3 m4 m5 m6 m7 m8 (pn st) iss ty (uZ Mv 8 ((Mv 8) + (Mv 1))) f5 h6v h7v (by omega) (by omega) hv2.1.2.2.1 hhd9 (by omega) hv2.1.2.2.2.2.2.2.1 hv2.1.2.2.2.2.2.2.2.1 (by omega) (by omega) hbs9) (cwV 0 C.2.2.2.2 gX6_take_X6_go rfl rfl rfl (by decide +kernel) ⟨Nat.le_of_ble_eq_true rfl, Nat.le_of_ble_eq_true rfl⟩) [0, 1, 3, 4, 5] rfl rfl rfl ⟨rfl, [2], [zA cy m2 3120 (recH M Hs st)], 6, rfl, rfl, rfl, by decide +kernel⟩ rfl rfl rfl rfl (Nat.le_of_ble_eq_true rfl) hl.1 dX6_take_136 ⟨Nat.zero_le _, Nat.zero_le _⟩ (fun H locs wd => ?_)
              refine z_iinc C (lv' := [(2, .int (iI (k + 1))), (0, .ref m0), (1, .int (iI n)), (3, .int (iI y))]) hl 2 dX6_take_139 rfl (by decide) rfl (fun ls hl => ?_)
              refine z_goto C (tgt := 73) dX6_take_142 (by decide) ?_
              exact ih73 (k + 1) (goM (uZ Mv 8 ((Mv 8) + (Mv 1))) f5) f5 (cpZ (nmM (uZ Mv 8 ((Mv 8) + (Mv 1))) f5) h6v (p2 ((uZ Mv 8 ((Mv 8) + (Mv 1))) 0))) (cpZ (wkA (uZ Mv 8 ((Mv 8) + (Mv 1))) f5) h7v (3 * p2 ((uZ Mv 8 ((Mv 8) + (Mv 1))) 0))) ⟨(by omega), (by rw [hcg, h73_1]; exact (tkN_at M h73_0.1).symm), hg5⟩ (by omega) H locs _ wd (lv_sub hl [1, 2, 0] rfl)
            · skip
              refine lv_aload_n C.1 C.2.1 dX6_take_90 rfl (lv_at hl 0 rfl) ?_
              refine z_get C wd (Cn := RX6) (TT := TX6) (N := 11) (ci := 6) iX6 0 rfl rfl 7 (by decide) L22 (fun _ h => h) rfl dX6_take_91 ?_
              refine lv_iload_n C.1 C.2.1 dX6_take_94 rfl (lv_at hl 3 rfl) ?_
              refine lv_aload_n C.1 C.2.1 dX6_take_95 rfl (lv_at hl 0 rfl) ?_
              refine z_get C wd (Cn := RX6) (TT := TX6) (N := 11) (ci := 6) iX6 0 rfl rfl 0 (by decide) L7 (fun _ h => h) rfl dX6_take_96 ?_
              refine z_bipush C dX6_take_99 (by decide +kernel) ?_
              refine lv_aload_n C.1 C.2.1 dX6_take_101 rfl (lv_at hl 0 rfl) ?_
              refine z_get C wd (Cn := RX6) (TT := TX6) (N := 11) (ci := 6) iX6 0 rfl rfl 0 (by decide) L7 (fun _ h => h) rfl dX6_take_102 ?_
              refine z_bipush C dX6_take_105 (by decide +kernel) ?_
              refine z_iald C wd 1 rfl (by omega) (by decide) dX6_take_107 ?_
              refine z_iadd C dX6_take_108 ?_
              refine lv_iload_n C.1 C.2.1 dX6_take_109 rfl (lv_at hl 3 rfl) ?_
              refine z_iadd C dX6_take_110 ?_
              refine z_iald C wd 1 rfl (by omega) (by decide) dX6_take_111 ?_
              refine z_iast C wd (ws2 := [zO m0 6 [.ref m1, .ref m2, .int (iI (pn st)), .ref m3, .int (iI iss), .ref m4, .int (iI ty), .ref m5, .ref m6, .ref m7, .ref m8], zA cy m1 780 Mv, zA cy m2 3120 (recH M Hs st), zA cy m5 3 (uZ f5 y (Mv ((92 + (Mv 8)) + y))), zA cy m6 32 h6v, zA cy m7 96 h7v]) 3 rfl (by omega) (by decide) rfl dX6_take_112 (fun H locs wd => ?_)
              refine z_iinc C (lv' := [(3, .int (iI (y + 1))), (0, .ref m0), (1, .int (iI n)), (2, .int (iI k))]) hl 3 dX6_take_113 rfl (by decide) rfl (fun ls hl => ?_)
              refine z_goto C (tgt := 80) dX6_take_116 (by decide) ?_
              exact ih80 (y + 1) (uZ f5 y (Mv ((92 + (Mv 8)) + y))) ⟨(by omega), (by rw [h80_1, ← wrS_step h5v 0 y (hrd Mv) h80_0.1, Int.zero_add]; rfl)⟩ (by omega) H locs _ wd (lv_sub hl [1, 2, 3, 0] rfl)
        · skip
          exact False.elim (by omega)
      · skip
        exact False.elim (by omega)
  · skip
    exact False.elim (by omega)
set_option maxRecDepth 100000 in
set_option maxHeartbeats 4000000 in
theorem c_mfinishA (l : Launch) (D : va_G) (cy cs : ClassId) (m0 m1 m2 m3 m4 m5 m6 m7 m8 : Nat) (st iss ty : Int) (M : Int → Int) (Hs : Int → Int) (be : Int) (hst : 0 ≤ st ∧ st ≤ 4) (hrk : rdOk M) (hbe : 0 ≤ be ∧ be ≤ 1) (h11 : M 11 = 0) (hb0 : be = 1 → 0 ≤ M 572) : zCi l D (zT cy cs) yX6_finish wsX6_finish ({ frames := 2, cells := 0, slots := 0, locals := 43 } : Room) [.ref m0, .int (iI be)] [zO m0 6 [.ref m1, .ref m2, .int (iI st), .ref m3, .int (iI iss), .ref m4, .int (iI ty), .ref m5, .ref m6, .ref m7, .ref m8], zA cy m1 780 M, zA cy m2 3120 Hs] (M 9) [zO m0 6 [.ref m1, .ref m2, .int (iI (pn st)), .ref m3, .int (iI iss), .ref m4, .int (iI ty), .ref m5, .ref m6, .ref m7, .ref m8], zA cy m1 780 (fnM M be), zA cy m2 3120 (recH M Hs st)] := by
  intro sz
  refine zM_mk (cc := cX6_finish) (maxL := 3) (ret := (some .int)) (own := RX6) (Qc := fun sz => va_Qi (fun r (_ : Unit) => r = iI (M 9)) (fun _ t9 => zQ D (zT cy cs) (va_A [zO m0 6 [.ref m1, .ref m2, .int (iI st), .ref m3, .int (iI iss), .ref m4, .int (iI ty), .ref m5, .ref m6, .ref m7, .ref m8], zA cy m1 780 M, zA cy m2 3120 Hs] sz) [zO m0 6 [.ref m1, .ref m2, .int (iI (pn st)), .ref m3, .int (iI iss), .ref m4, .int (iI ty), .ref m5, .ref m6, .ref m7, .ref m8], zA cy m1 780 (fnM M be), zA cy m2 3120 (recH M Hs st)] t9) (va_A [zO m0 6 [.ref m1, .ref m2, .int (iI st), .ref m3, .int (iI iss), .ref m4, .int (iI ty), .ref m5, .ref m6, .ref m7, .ref m8], zA cy m1 780 M, zA cy m2 3120 Hs] sz)) (by decide) rfl rfl (Nat.le_of_ble_eq_true rfl) rfl sz ?_
  intro p e s m args below meth c ls C hr hlk hnm hl hsz hA wd
  subst hsz
  have hl : lv_has ls 3 [(0, .ref m0), (1, .int (iI be))] := hl
  have iX6 : ∀ w ∈ u_ws RX6 TX6 11, w ∈ wsX6_finish := by decide +kernel
  have L7 := C.2.2.2.2 (.fieldLink RX6 7 "LikelyWalksModel" "now" "[I") (by decide +kernel)
  obtain ⟨hm, ho, ht, h5, h9, hN, hme, hwd, hbs⟩ := id hrk
  have hp := p2_all hm.1 hm.2
  have hbl := bst_le (sl M 572) (p2 (M 0)).toNat
  have hwl := wdOk_lt hwd
  have h572 : -1 ≤ M 572 ∧ M 572 ≤ 3 * M 9 := hme 0 (by omega) (by omega)
  refine lv_aload_n C.1 C.2.1 dX6_finish_0 rfl (lv_at hl 0 rfl) ?_
  refine z_get C wd (Cn := RX6) (TT := TX6) (N := 11) (ci := 6) iX6 0 rfl rfl 0 (by decide) L7 (fun _ h => h) rfl dX6_finish_1 ?_
  refine z_bipush C dX6_finish_4 (by decide +kernel) ?_
  refine z_iald C wd 1 rfl (by omega) (by decide) dX6_finish_6 ?_
  refine z_iconst C dX6_finish_7 ?_
  refine z_icmp_eq C (tgt := 26) dX6_finish_8 (by decide) (by omega) (fun c_1 => ?_) (fun c_1 => ?_)
  · skip
    exact False.elim (by omega)
  · skip
    refine lv_iload_n C.1 C.2.1 dX6_finish_11 rfl (lv_at hl 1 rfl) ?_
    refine z_if_eq C (tgt := 29) dX6_finish_12 (by decide) (by omega) (fun c_2 => ?_) (fun c_2 => ?_)
    · skip
      refine lv_aload_n C.1 C.2.1 dX6_finish_29 rfl (lv_at hl 0 rfl) ?_
      refine z_cvv C wd hA (As := []) (rest := []) (ws2 := [zO m0 6 [.ref m1, .ref m2, .int (iI (pn st)), .ref m3, .int (iI iss), .ref m4, .int (iI ty), .ref m5, .ref m6, .ref m7, .ref m8], zA cy m1 780 M, zA cy m2 3120 (recH M Hs st)]) (c_X6_record l D cy cs m0 m1 m2 m3 m4 m5 m6 m7 m8 st iss ty M Hs (by omega)) (cwV 0 C.2.2.2.2 gX6_finish_X6_record rfl rfl rfl (by decide +kernel) ⟨Nat.le_of_ble_eq_true rfl, Nat.le_of_ble_eq_true rfl⟩) [0, 1, 2] rfl rfl rfl ⟨rfl, [], [], 3, rfl, rfl, rfl, by decide +kernel⟩ rfl rfl rfl rfl (Nat.le_of_ble_eq_true rfl) hl.1 dX6_finish_30 ⟨Nat.zero_le _, Nat.zero_le _⟩ (fun H locs wd => ?_)
      refine z_join1 (nL := 3) (D := D) (T := zT cy cs) (A := va_A [zO m0 6 [.ref m1, .ref m2, .int (iI st), .ref m3, .int (iI iss), .ref m4, .int (iI ty), .ref m5, .ref m6, .ref m7, .ref m8], zA cy m1 780 M, zA cy m2 3120 Hs] s.heap.size) (H0 := s.heap) (P := fun (b : Int) => (b = fnb M be) ∧ (0 ≤ b ∧ b < 32)) (ws := fun (b : Int) => [zO m0 6 [.ref m1, .ref m2, .int (iI (pn st)), .ref m3, .int (iI iss), .ref m4, .int (iI ty), .ref m5, .ref m6, .ref m7, .ref m8], zA cy m1 780 M, zA cy m2 3120 (recH M Hs st)]) (lv := fun (b : Int) => [(0, .ref m0), (1, .int (iI be))]) (stj := fun (b : Int) => [.int (iI b)]) 45 ?_ (fun jn45 => ?_)
      · skip
        intro b hP45 H locs ls wd hl
        obtain ⟨h45_0, h45_1⟩ := hP45
        try dsimp only at h45_0 h45_1
        have wd : Wd D (zT cy cs) _ s.heap s [zO m0 6 [.ref m1, .ref m2, .int (iI (pn st)), .ref m3, .int (iI iss), .ref m4, .int (iI ty), .ref m5, .ref m6, .ref m7, .ref m8], zA cy m1 780 M, zA cy m2 3120 (recH M Hs st)] H locs := wd
        have hl : lv_has ls 3 [(0, .ref m0), (1, .int (iI be))] := hl
        refine lv_istore_n (lv' := [(2, .int (iI b)), (0, .ref m0), (1, .int (iI be))]) C.1 C.2.1 dX6_finish_45 rfl hl (by decide) rfl (fun ls hl => ?_)
        refine z_loop2 (P := fun (z : Int) (Mv : Int → Int) => (M 10 ≤ z ∧ z ≤ M 9) ∧ (Mv = rlsM M b z)) (mu := fun (z : Int) (Mv : Int → Int) => (M 9 - z).toNat) (ws := fun (z : Int) (Mv : Int → Int) => [zO m0 6 [.ref m1, .ref m2, .int (iI (pn st)), .ref m3, .int (iI iss), .ref m4, .int (iI ty), .ref m5, .ref m6, .ref m7, .ref m8], zA cy m1 780 Mv, zA cy m2 3120 (recH M Hs st)]) (lv := fun (z : Int) (Mv : Int → Int) => [(0, .ref m0), (1, .int (iI be)), (2, .int (iI b))]) (M 10) M C ⟨⟨by omega, by omega⟩, (rlsM_0 M b).symm⟩ wd (lv_sub hl [1, 2, 0] rfl) ?_
        intro z Mv hP46 ih46 H locs ls wd hl
        obtain ⟨h46_0, h46_1⟩ := hP46
        try dsimp only at h46_0 h46_1
        have wd : Wd D (zT cy cs) _ s.heap s [zO m0 6 [.ref m1, .ref m2, .int (iI (pn st)), .ref m3, .int (iI iss), .ref m4, .int (iI ty), .ref m5, .ref m6, .ref m7, .ref m8], zA cy m1 780 Mv, zA cy m2 3120 (recH M Hs st)] H locs := wd
        have hl : lv_has ls 3 [(0, .ref m0), (1, .int (iI be)), (2, .int (iI b))] := hl
        have hvj : ∀ j : Int, (j < 604 ∨ 684 ≤ j) → j ≠ 10 → Mv j = M j := fun j q1 q2 => by rw [h46_1]; exact rlsM_k _ _ z j q1 q2 (by omega) (by omega)
        have hv10 : Mv 10 = z := by rw [h46_1]; exact rlsM_10 _ _ z (by omega)
        have hv9 : Mv 9 = M 9 := hvj 9 (by omega) (by omega)
        refine lv_aload_n C.1 C.2.1 dX6_finish_46 rfl (lv_at hl 0 rfl) ?_
        refine z_get C wd (Cn := RX6) (TT := TX6) (N := 11) (ci := 6) iX6 0 rfl rfl 0 (by decide) L7 (fun _ h => h) rfl dX6_finish_47 ?_
        refine z_bipush C dX6_finish_50 (by decide +kernel) ?_
        refine z_iald C wd 1 rfl (by omega) (by decide) dX6_finish_52 ?_
        refine lv_aload_n C.1 C.2.1 dX6_finish_53 rfl (lv_at hl 0 rfl) ?_
        refine z_get C wd (Cn := RX6) (TT := TX6) (N := 11) (ci := 6) iX6 0 rfl rfl 0 (by decide) L7 (fun _ h => h) rfl dX6_finish_54 ?_
        refine z_bipush C dX6_finish_57 (by decide +kernel) ?_
        refine z_iald C wd 1 rfl (by omega) (by decide) dX6_finish_59 ?_
        refine z_icmp_ge C (tgt := 71) dX6_finish_60 (by decide) (by omega) (fun c_3 => ?_) (fun c_3 => ?_)
        · skip
          refine lv_aload_n C.1 C.2.1 dX6_finish_71 rfl (lv_at hl 0 rfl) ?_
          refine z_get C wd (Cn := RX6) (TT := TX6) (N := 11) (ci := 6) iX6 0 rfl rfl 0 (by decide) L7 (fun _ h => h) rfl dX6_finish_72 ?_
          refine z_bipush C dX6_finish_75 (by decide +kernel) ?_
          refine z_iconst C dX6_finish_77 ?_
          refine z_iast C wd (ws2 := [zO m0 6 [.ref m1, .ref m2, .int (iI (pn st)), .ref m3, .int (iI iss), .ref m4, .int (iI ty), .ref m5, .ref m6, .ref m7, .ref m8], zA cy m1 780 (uZ Mv 11 1), zA cy m2 3120 (recH M Hs st)]) 1 rfl (by omega) (by decide) rfl dX6_finish_78 (fun H locs wd => ?_)
          refine lv_aload_n C.1 C.2.1 dX6_finish_79 rfl (lv_at hl 0 rfl) ?_
          refine z_get C wd (Cn := RX6) (TT := TX6) (N := 11) (ci := 6) iX6 0 rfl rfl 0 (by decide) L7 (fun _ h => h) rfl dX6_finish_80 ?_
          refine z_bipush C dX6_finish_83 (by decide +kernel) ?_
          refine z_iald C wd 1 rfl (by omega) (by decide) dX6_finish_85 ?_
          have wd := z_cell wd (ws2 := [zO m0 6 [.ref m1, .ref m2, .int (iI (pn st)), .ref m3, .int (iI iss), .ref m4, .int (iI ty), .ref m5, .ref m6, .ref m7, .ref m8], zA cy m1 780 (fnM M be), zA cy m2 3120 (recH M Hs st)]) 1 rfl (by intro j _ _; rw [h46_1, h45_0, show z = M 9 by omega]; rfl) rfl
          exact z_iret C hr hlk wd (by rw [uZ_k _ _ _ _ (by omega), hv10]; omega) dX6_finish_86
        · skip
          refine lv_aload_n C.1 C.2.1 dX6_finish_63 rfl (lv_at hl 0 rfl) ?_
          refine lv_iload_n C.1 C.2.1 dX6_finish_64 rfl (lv_at hl 2 rfl) ?_
          refine z_cvv C wd hA (As := [.int (iI b)]) (rest := []) (ws2 := [zO m0 6 [.ref m1, .ref m2, .int (iI (pn st)), .ref m3, .int (iI iss), .ref m4, .int (iI ty), .ref m5, .ref m6, .ref m7, .ref m8], zA cy m1 780 (rl1 Mv b), zA cy m2 3120 (recH M Hs st)]) (c_X6_release l D cy cs m0 m1 m2 m3 m4 m5 m6 m7 m8 (pn st) iss ty Mv b (by omega) (by omega) (by rw [hvj _ (by omega) (by omega)]; exact hwl b (Mv 10 / 30) (by omega) (by omega) (by omega) (by omega))) (cwV 1 C.2.2.2.2 gX6_finish_X6_release rfl rfl rfl (by decide +kernel) ⟨Nat.le_of_ble_eq_true rfl, Nat.le_of_ble_eq_true rfl⟩) [0, 1] rfl rfl rfl ⟨rfl, [2], [zA cy m2 3120 (recH M Hs st)], 3, rfl, rfl, rfl, by decide +kernel⟩ rfl rfl rfl rfl (Nat.le_of_ble_eq_true rfl) hl.1 dX6_finish_65 ⟨Nat.zero_le _, Nat.zero_le _⟩ (fun H locs wd => ?_)
          refine z_goto C (tgt := 46) dX6_finish_68 (by decide) ?_
          exact ih46 (z + 1) (rl1 Mv b) ⟨(by omega), (by rw [h46_1]; exact rlsM_step M b z (by omega) (by omega) (by omega) h45_1.1)⟩ (by omega) H locs _ wd (lv_sub hl [0, 1, 2] rfl)
      refine lv_iload_n C.1 C.2.1 dX6_finish_33 rfl (lv_at hl 1 rfl) ?_
      refine z_if_eq C (tgt := 41) dX6_finish_34 (by decide) (by omega) (fun c_4 => ?_) (fun c_4 => ?_)
      · skip
        refine lv_aload_n C.1 C.2.1 dX6_finish_41 rfl (lv_at hl 0 rfl) ?_
        refine z_cvi C wd hA (As := []) (rest := []) (ws2 := [zO m0 6 [.ref m1, .ref m2, .int (iI (pn st)), .ref m3, .int (iI iss), .ref m4, .int (iI ty), .ref m5, .ref m6, .ref m7, .ref m8], zA cy m1 780 M, zA cy m2 3120 (recH M Hs st)]) (c_X6_bestState l D cy cs m0 m1 m2 m3 m4 m5 m6 m7 m8 (pn st) iss ty M (by omega) (fun q q0 q1 => by have q2 : -1 ≤ M (572 + q) ∧ M (572 + q) ≤ 3 * M 9 := hme q q0 q1; omega)) (cwV 0 C.2.2.2.2 gX6_finish_X6_bestState rfl rfl rfl (by decide +kernel) ⟨Nat.le_of_ble_eq_true rfl, Nat.le_of_ble_eq_true rfl⟩) [0, 1] rfl rfl rfl ⟨rfl, [2], [zA cy m2 3120 (recH M Hs st)], 3, rfl, rfl, rfl, by decide +kernel⟩ rfl rfl rfl rfl (Nat.le_of_ble_eq_true rfl) hl.1 dX6_finish_42 ⟨Nat.zero_le _, Nat.zero_le _⟩ (fun H locs wd => ?_)
        exact jn45 (bst (sl M 572) (p2 (M 0)).toNat) ⟨(by unfold fnb; first | (rw [if_pos (by omega)]; done) | (rw [if_neg (by omega)]; done)), (by omega)⟩ H locs _ wd (lv_sub hl [0, 1] rfl)
      · skip
        refine z_iconst C dX6_finish_37 ?_
        refine z_goto C (tgt := 45) dX6_finish_38 (by decide) ?_
        exact jn45 0 ⟨(by unfold fnb; first | (rw [if_pos (by omega)]; done) | (rw [if_neg (by omega)]; done)), (by omega)⟩ H locs _ wd (lv_sub hl [0, 1] rfl)
    · skip
      refine lv_aload_n C.1 C.2.1 dX6_finish_15 rfl (lv_at hl 0 rfl) ?_
      refine z_get C wd (Cn := RX6) (TT := TX6) (N := 11) (ci := 6) iX6 0 rfl rfl 0 (by decide) L7 (fun _ h => h) rfl dX6_finish_16 ?_
      refine z_sipush C dX6_finish_19 (by decide +kernel) ?_
      refine z_iald C wd 1 rfl (by omega) (by decide) dX6_finish_22 ?_
      refine z_if_ge C (tgt := 29) dX6_finish_23 (by decide) (by omega) (fun c_5 => ?_) (fun c_5 => ?_)
      · skip
        refine lv_aload_n C.1 C.2.1 dX6_finish_29 rfl (lv_at hl 0 rfl) ?_
        refine z_cvv C wd hA (As := []) (rest := []) (ws2 := [zO m0 6 [.ref m1, .ref m2, .int (iI (pn st)), .ref m3, .int (iI iss), .ref m4, .int (iI ty), .ref m5, .ref m6, .ref m7, .ref m8], zA cy m1 780 M, zA cy m2 3120 (recH M Hs st)]) (c_X6_record l D cy cs m0 m1 m2 m3 m4 m5 m6 m7 m8 st iss ty M Hs (by omega)) (cwV 0 C.2.2.2.2 gX6_finish_X6_record rfl rfl rfl (by decide +kernel) ⟨Nat.le_of_ble_eq_true rfl, Nat.le_of_ble_eq_true rfl⟩) [0, 1, 2] rfl rfl rfl ⟨rfl, [], [], 3, rfl, rfl, rfl, by decide +kernel⟩ rfl rfl rfl rfl (Nat.le_of_ble_eq_true rfl) hl.1 dX6_finish_30 ⟨Nat.zero_le _, Nat.zero_le _⟩ (fun H locs wd => ?_)
        refine z_join1 (nL := 3) (D := D) (T := zT cy cs) (A := va_A [zO m0 6 [.ref m1, .ref m2, .int (iI st), .ref m3, .int (iI iss), .ref m4, .int (iI ty), .ref m5, .ref m6, .ref m7, .ref m8], zA cy m1 780 M, zA cy m2 3120 Hs] s.heap.size) (H0 := s.heap) (P := fun (b : Int) => (b = fnb M be) ∧ (0 ≤ b ∧ b < 32)) (ws := fun (b : Int) => [zO m0 6 [.ref m1, .ref m2, .int (iI (pn st)), .ref m3, .int (iI iss), .ref m4, .int (iI ty), .ref m5, .ref m6, .ref m7, .ref m8], zA cy m1 780 M, zA cy m2 3120 (recH M Hs st)]) (lv := fun (b : Int) => [(0, .ref m0), (1, .int (iI be))]) (stj := fun (b : Int) => [.int (iI b)]) 45 ?_ (fun jn45 => ?_)
        · skip
          intro b hP45 H locs ls wd hl
          obtain ⟨h45_0, h45_1⟩ := hP45
          try dsimp only at h45_0 h45_1
          have wd : Wd D (zT cy cs) _ s.heap s [zO m0 6 [.ref m1, .ref m2, .int (iI (pn st)), .ref m3, .int (iI iss), .ref m4, .int (iI ty), .ref m5, .ref m6, .ref m7, .ref m8], zA cy m1 780 M, zA cy m2 3120 (recH M Hs st)] H locs := wd
          have hl : lv_has ls 3 [(0, .ref m0), (1, .int (iI be))] := hl
          refine lv_istore_n (lv' := [(2, .int (iI b)), (0, .ref m0), (1, .int (iI be))]) C.1 C.2.1 dX6_finish_45 rfl hl (by decide) rfl (fun ls hl => ?_)
          refine z_loop2 (P := fun (z : Int) (Mv : Int → Int) => (M 10 ≤ z ∧ z ≤ M 9) ∧ (Mv = rlsM M b z)) (mu := fun (z : Int) (Mv : Int → Int) => (M 9 - z).toNat) (ws := fun (z : Int) (Mv : Int → Int) => [zO m0 6 [.ref m1, .ref m2, .int (iI (pn st)), .ref m3, .int (iI iss), .ref m4, .int (iI ty), .ref m5, .ref m6, .ref m7, .ref m8], zA cy m1 780 Mv, zA cy m2 3120 (recH M Hs st)]) (lv := fun (z : Int) (Mv : Int → Int) => [(0, .ref m0), (1, .int (iI be)), (2, .int (iI b))]) (M 10) M C ⟨⟨by omega, by omega⟩, (rlsM_0 M b).symm⟩ wd (lv_sub hl [1, 2, 0] rfl) ?_
          intro z Mv hP46 ih46 H locs ls wd hl
          obtain ⟨h46_0, h46_1⟩ := hP46
          try dsimp only at h46_0 h46_1
          have wd : Wd D (zT cy cs) _ s.heap s [zO m0 6 [.ref m1, .ref m2, .int (iI (pn st)), .ref m3, .int (iI iss), .ref m4, .int (iI ty), .ref m5, .ref m6, .ref m7, .ref m8], zA cy m1 780 Mv, zA cy m2 3120 (recH M Hs st)] H locs := wd
          have hl : lv_has ls 3 [(0, .ref m0), (1, .int (iI be)), (2, .int (iI b))] := hl
          have hvj : ∀ j : Int, (j < 604 ∨ 684 ≤ j) → j ≠ 10 → Mv j = M j := fun j q1 q2 => by rw [h46_1]; exact rlsM_k _ _ z j q1 q2 (by omega) (by omega)
          have hv10 : Mv 10 = z := by rw [h46_1]; exact rlsM_10 _ _ z (by omega)
          have hv9 : Mv 9 = M 9 := hvj 9 (by omega) (by omega)
          refine lv_aload_n C.1 C.2.1 dX6_finish_46 rfl (lv_at hl 0 rfl) ?_
          refine z_get C wd (Cn := RX6) (TT := TX6) (N := 11) (ci := 6) iX6 0 rfl rfl 0 (by decide) L7 (fun _ h => h) rfl dX6_finish_47 ?_
          refine z_bipush C dX6_finish_50 (by decide +kernel) ?_
          refine z_iald C wd 1 rfl (by omega) (by decide) dX6_finish_52 ?_
          refine lv_aload_n C.1 C.2.1 dX6_finish_53 rfl (lv_at hl 0 rfl) ?_
          refine z_get C wd (Cn := RX6) (TT := TX6) (N := 11) (ci := 6) iX6 0 rfl rfl 0 (by decide) L7 (fun _ h => h) rfl dX6_finish_54 ?_
          refine z_bipush C dX6_finish_57 (by decide +kernel) ?_
          refine z_iald C wd 1 rfl (by omega) (by decide) dX6_finish_59 ?_
          refine z_icmp_ge C (tgt := 71) dX6_finish_60 (by decide) (by omega) (fun c_6 => ?_) (fun c_6 => ?_)
          · skip
            refine lv_aload_n C.1 C.2.1 dX6_finish_71 rfl (lv_at hl 0 rfl) ?_
            refine z_get C wd (Cn := RX6) (TT := TX6) (N := 11) (ci := 6) iX6 0 rfl rfl 0 (by decide) L7 (fun _ h => h) rfl dX6_finish_72 ?_
            refine z_bipush C dX6_finish_75 (by decide +kernel) ?_
            refine z_iconst C dX6_finish_77 ?_
            refine z_iast C wd (ws2 := [zO m0 6 [.ref m1, .ref m2, .int (iI (pn st)), .ref m3, .int (iI iss), .ref m4, .int (iI ty), .ref m5, .ref m6, .ref m7, .ref m8], zA cy m1 780 (uZ Mv 11 1), zA cy m2 3120 (recH M Hs st)]) 1 rfl (by omega) (by decide) rfl dX6_finish_78 (fun H locs wd => ?_)
            refine lv_aload_n C.1 C.2.1 dX6_finish_79 rfl (lv_at hl 0 rfl) ?_
            refine z_get C wd (Cn := RX6) (TT := TX6) (N := 11) (ci := 6) iX6 0 rfl rfl 0 (by decide) L7 (fun _ h => h) rfl dX6_finish_80 ?_
            refine z_bipush C dX6_finish_83 (by decide +kernel) ?_
            refine z_iald C wd 1 rfl (by omega) (by decide) dX6_finish_85 ?_
            have wd := z_cell wd (ws2 := [zO m0 6 [.ref m1, .ref m2, .int (iI (pn st)), .ref m3, .int (iI iss), .ref m4, .int (iI ty), .ref m5, .ref m6, .ref m7, .ref m8], zA cy m1 780 (fnM M be), zA cy m2 3120 (recH M Hs st)]) 1 rfl (by intro j _ _; rw [h46_1, h45_0, show z = M 9 by omega]; rfl) rfl
            exact z_iret C hr hlk wd (by rw [uZ_k _ _ _ _ (by omega), hv10]; omega) dX6_finish_86
          · skip
            refine lv_aload_n C.1 C.2.1 dX6_finish_63 rfl (lv_at hl 0 rfl) ?_
            refine lv_iload_n C.1 C.2.1 dX6_finish_64 rfl (lv_at hl 2 rfl) ?_
            refine z_cvv C wd hA (As := [.int (iI b)]) (rest := []) (ws2 := [zO m0 6 [.ref m1, .ref m2, .int (iI (pn st)), .ref m3, .int (iI iss), .ref m4, .int (iI ty), .ref m5, .ref m6, .ref m7, .ref m8], zA cy m1 780 (rl1 Mv b), zA cy m2 3120 (recH M Hs st)]) (c_X6_release l D cy cs m0 m1 m2 m3 m4 m5 m6 m7 m8 (pn st) iss ty Mv b (by omega) (by omega) (by rw [hvj _ (by omega) (by omega)]; exact hwl b (Mv 10 / 30) (by omega) (by omega) (by omega) (by omega))) (cwV 1 C.2.2.2.2 gX6_finish_X6_release rfl rfl rfl (by decide +kernel) ⟨Nat.le_of_ble_eq_true rfl, Nat.le_of_ble_eq_true rfl⟩) [0, 1] rfl rfl rfl ⟨rfl, [2], [zA cy m2 3120 (recH M Hs st)], 3, rfl, rfl, rfl, by decide +kernel⟩ rfl rfl rfl rfl (Nat.le_of_ble_eq_true rfl) hl.1 dX6_finish_65 ⟨Nat.zero_le _, Nat.zero_le _⟩ (fun H locs wd => ?_)
            refine z_goto C (tgt := 46) dX6_finish_68 (by decide) ?_
            exact ih46 (z + 1) (rl1 Mv b) ⟨(by omega), (by rw [h46_1]; exact rlsM_step M b z (by omega) (by omega) (by omega) h45_1.1)⟩ (by omega) H locs _ wd (lv_sub hl [0, 1, 2] rfl)
        refine lv_iload_n C.1 C.2.1 dX6_finish_33 rfl (lv_at hl 1 rfl) ?_
        refine z_if_eq C (tgt := 41) dX6_finish_34 (by decide) (by omega) (fun c_7 => ?_) (fun c_7 => ?_)
        · skip
          refine lv_aload_n C.1 C.2.1 dX6_finish_41 rfl (lv_at hl 0 rfl) ?_
          refine z_cvi C wd hA (As := []) (rest := []) (ws2 := [zO m0 6 [.ref m1, .ref m2, .int (iI (pn st)), .ref m3, .int (iI iss), .ref m4, .int (iI ty), .ref m5, .ref m6, .ref m7, .ref m8], zA cy m1 780 M, zA cy m2 3120 (recH M Hs st)]) (c_X6_bestState l D cy cs m0 m1 m2 m3 m4 m5 m6 m7 m8 (pn st) iss ty M (by omega) (fun q q0 q1 => by have q2 : -1 ≤ M (572 + q) ∧ M (572 + q) ≤ 3 * M 9 := hme q q0 q1; omega)) (cwV 0 C.2.2.2.2 gX6_finish_X6_bestState rfl rfl rfl (by decide +kernel) ⟨Nat.le_of_ble_eq_true rfl, Nat.le_of_ble_eq_true rfl⟩) [0, 1] rfl rfl rfl ⟨rfl, [2], [zA cy m2 3120 (recH M Hs st)], 3, rfl, rfl, rfl, by decide +kernel⟩ rfl rfl rfl rfl (Nat.le_of_ble_eq_true rfl) hl.1 dX6_finish_42 ⟨Nat.zero_le _, Nat.zero_le _⟩ (fun H locs wd => ?_)
          exact jn45 (bst (sl M 572) (p2 (M 0)).toNat) ⟨(by unfold fnb; first | (rw [if_pos (by omega)]; done) | (rw [if_neg (by omega)]; done)), (by omega)⟩ H locs _ wd (lv_sub hl [0, 1] rfl)
        · skip
          refine z_iconst C dX6_finish_37 ?_
          refine z_goto C (tgt := 45) dX6_finish_38 (by decide) ?_
          exact jn45 0 ⟨(by unfold fnb; first | (rw [if_pos (by omega)]; done) | (rw [if_neg (by omega)]; done)), (by omega)⟩ H locs _ wd (lv_sub hl [0, 1] rfl)
      · skip
        exact False.elim (by omega)
