set_option maxRecDepth 100000 in
set_option maxHeartbeats 4000000 in
theorem c_X6_layFar (l : Launch) (D : va_G) (cy cs : ClassId) (m0 m1 m2 m3 m4 m5 m6 m7 m8 : Nat) (st iss ty : Int) (M : Int → Int) (fr : Int → Int) (hm : 1 ≤ M 0 ∧ M 0 ≤ 5) (ho : 2 ≤ M 1 ∧ M 1 ≤ 3) (ht : tpOk (sl M 2)) : zXv l D (zT cy cs) yX6_layFar wsX6_layFar ({ frames := 2, cells := 0, slots := 0, locals := 47 } : Room) [.ref m0] [zO m0 6 [.ref m1, .ref m2, .int (iI st), .ref m3, .int (iI iss), .ref m4, .int (iI ty), .ref m5, .ref m6, .ref m7, .ref m8], zA cy m1 780 M, zA cy m8 32 fr] (fun (u9 : (Int → Int)) => oI (M 0) (M 1) (sl M 2) u9 0) (fun (u9 : (Int → Int)) => [zO m0 6 [.ref m1, .ref m2, .int (iI st), .ref m3, .int (iI iss), .ref m4, .int (iI ty), .ref m5, .ref m6, .ref m7, .ref m8], zA cy m1 780 M, zA cy m8 32 u9]) := by
  intro sz
  refine zM_mk (cc := cX6_layFar) (maxL := 6) (ret := none) (own := RX6) (Qc := fun sz => va_Qv (fun (u9 : (Int → Int)) => oI (M 0) (M 1) (sl M 2) u9 0) (fun u9 t9 => zQ D (zT cy cs) (va_A [zO m0 6 [.ref m1, .ref m2, .int (iI st), .ref m3, .int (iI iss), .ref m4, .int (iI ty), .ref m5, .ref m6, .ref m7, .ref m8], zA cy m1 780 M, zA cy m8 32 fr] sz) [zO m0 6 [.ref m1, .ref m2, .int (iI st), .ref m3, .int (iI iss), .ref m4, .int (iI ty), .ref m5, .ref m6, .ref m7, .ref m8], zA cy m1 780 M, zA cy m8 32 u9] t9) (va_A [zO m0 6 [.ref m1, .ref m2, .int (iI st), .ref m3, .int (iI iss), .ref m4, .int (iI ty), .ref m5, .ref m6, .ref m7, .ref m8], zA cy m1 780 M, zA cy m8 32 fr] sz)) (by decide) rfl rfl (Nat.le_of_ble_eq_true rfl) rfl sz ?_
  intro p e s m args below meth c ls C hr hlk hnm hl hsz hA wd
  subst hsz
  have hl : lv_has ls 6 [(0, .ref m0)] := hl
  have iX6 : ∀ w ∈ u_ws RX6 TX6 11, w ∈ wsX6_layFar := by decide +kernel
  have L31 := C.2.2.2.2 (.fieldLink RX6 31 "LikelyWalksModel" "far" "[I") (by decide +kernel)
  have hp := p2_all hm.1 hm.2
  have hn1 := nx01 hm
  refine z_iconst C dX6_layFar_0 ?_
  refine lv_istore_n (lv' := [(1, .int (iI 0)), (0, .ref m0)]) C.1 C.2.1 dX6_layFar_1 rfl hl (by decide) rfl (fun ls hl => ?_)
  refine z_loop2 (P := fun (k : Int) (g : Int → Int) => (0 ≤ k ∧ k ≤ 32) ∧ (g = flF fr k (-1))) (mu := fun (k : Int) (g : Int → Int) => (32 - k).toNat) (ws := fun (k : Int) (g : Int → Int) => [zO m0 6 [.ref m1, .ref m2, .int (iI st), .ref m3, .int (iI iss), .ref m4, .int (iI ty), .ref m5, .ref m6, .ref m7, .ref m8], zA cy m1 780 M, zA cy m8 32 g]) (lv := fun (k : Int) (g : Int → Int) => [(0, .ref m0), (1, .int (iI k))]) 0 fr C ⟨(by omega), (flF_0 fr (-1)).symm⟩ wd (lv_sub hl [1, 0] rfl) ?_
  intro k g hP2 ih2 H locs ls wd hl
  obtain ⟨h2_0, h2_1⟩ := hP2
  try dsimp only at h2_0 h2_1
  have wd : Wd D (zT cy cs) _ s.heap s [zO m0 6 [.ref m1, .ref m2, .int (iI st), .ref m3, .int (iI iss), .ref m4, .int (iI ty), .ref m5, .ref m6, .ref m7, .ref m8], zA cy m1 780 M, zA cy m8 32 g] H locs := wd
  have hl : lv_has ls 6 [(0, .ref m0), (1, .int (iI k))] := hl
  refine lv_iload_n C.1 C.2.1 dX6_layFar_2 rfl (lv_at hl 1 rfl) ?_
  refine z_bipush C dX6_layFar_3 (by decide +kernel) ?_
  refine z_icmp_ge C (tgt := 21) dX6_layFar_5 (by decide) (by omega) (fun c_1 => ?_) (fun c_1 => ?_)
  · skip
    have wd := z_cell wd (ws2 := [zO m0 6 [.ref m1, .ref m2, .int (iI st), .ref m3, .int (iI iss), .ref m4, .int (iI ty), .ref m5, .ref m6, .ref m7, .ref m8], zA cy m1 780 M, zA cy m8 32 (fun _ => -1)]) 2 rfl (by intro j j0 j1; rw [h2_1, show k = 32 by omega]; exact if_pos (by omega)) rfl
    refine lv_aload_n C.1 C.2.1 dX6_layFar_21 rfl (lv_at hl 0 rfl) ?_
    refine z_get C wd (Cn := RX6) (TT := TX6) (N := 11) (ci := 6) iX6 0 rfl rfl 10 (by decide) L31 (fun _ h => h) rfl dX6_layFar_22 ?_
    refine lv_aload_n C.1 C.2.1 dX6_layFar_25 rfl (lv_at hl 0 rfl) ?_
    refine z_cvi C wd hA (As := []) (rest := [.ref m8]) (ws2 := [zO m0 6 [.ref m1, .ref m2, .int (iI st), .ref m3, .int (iI iss), .ref m4, .int (iI ty), .ref m5, .ref m6, .ref m7, .ref m8], zA cy m1 780 M, zA cy m8 32 (fun _ => -1)]) (c_X6_registers l D cy cs m0 m1 m2 m3 m4 m5 m6 m7 m8 st iss ty M (by omega)) (cwV 0 C.2.2.2.2 gX6_layFar_X6_registers rfl rfl rfl (by decide +kernel) ⟨Nat.le_of_ble_eq_true rfl, Nat.le_of_ble_eq_true rfl⟩) [0, 1] rfl rfl rfl ⟨rfl, [2], [zA cy m8 32 (fun _ => -1)], 3, rfl, rfl, rfl, by decide +kernel⟩ rfl rfl rfl rfl (Nat.le_of_ble_eq_true rfl) hl.1 dX6_layFar_26 ⟨Nat.zero_le _, Nat.zero_le _⟩ (fun H locs wd => ?_)
    refine z_iconst C dX6_layFar_29 ?_
    refine z_idiv C dX6_layFar_30 (by omega) ?_
    refine z_top (b := nx (M 0) 0 1) (by unfold nx wn; omega) ?_
    refine lv_aload_n C.1 C.2.1 dX6_layFar_31 rfl (lv_at hl 0 rfl) ?_
    refine lv_aload_n C.1 C.2.1 dX6_layFar_32 rfl (lv_at hl 0 rfl) ?_
    refine z_cvi C wd hA (As := []) (rest := [.ref m0, .int (iI (nx (M 0) 0 1)), .ref m8]) (ws2 := [zO m0 6 [.ref m1, .ref m2, .int (iI st), .ref m3, .int (iI iss), .ref m4, .int (iI ty), .ref m5, .ref m6, .ref m7, .ref m8], zA cy m1 780 M, zA cy m8 32 (fun _ => -1)]) (c_X6_registers l D cy cs m0 m1 m2 m3 m4 m5 m6 m7 m8 st iss ty M (by omega)) (cwV 0 C.2.2.2.2 gX6_layFar_X6_registers rfl rfl rfl (by decide +kernel) ⟨Nat.le_of_ble_eq_true rfl, Nat.le_of_ble_eq_true rfl⟩) [0, 1] rfl rfl rfl ⟨rfl, [2], [zA cy m8 32 (fun _ => -1)], 3, rfl, rfl, rfl, by decide +kernel⟩ rfl rfl rfl rfl (Nat.le_of_ble_eq_true rfl) hl.1 dX6_layFar_33 ⟨Nat.zero_le _, Nat.zero_le _⟩ (fun H locs wd => ?_)
    refine z_cvi C wd hA (As := [.int (iI (p2 (M 0)))]) (rest := [.int (iI (nx (M 0) 0 1)), .ref m8]) (ws2 := [zO m0 6 [.ref m1, .ref m2, .int (iI st), .ref m3, .int (iI iss), .ref m4, .int (iI ty), .ref m5, .ref m6, .ref m7, .ref m8], zA cy m1 780 M, zA cy m8 32 (fun _ => -1)]) (c_X6_ones l D cy cs m0 m1 m2 m3 m4 m5 m6 m7 m8 st iss ty M (p2 (M 0)) (by omega) (by omega) (by omega)) (cwV 1 C.2.2.2.2 gX6_layFar_X6_ones rfl rfl rfl (by decide +kernel) ⟨Nat.le_of_ble_eq_true rfl, Nat.le_of_ble_eq_true rfl⟩) [0, 1] rfl rfl rfl ⟨rfl, [2], [zA cy m8 32 (fun _ => -1)], 3, rfl, rfl, rfl, by decide +kernel⟩ rfl rfl rfl rfl (Nat.le_of_ble_eq_true rfl) hl.1 dX6_layFar_36 ⟨Nat.zero_le _, Nat.zero_le _⟩ (fun H locs wd => ?_)
    refine z_top (b := zw (M 0) (M 1) (sl M 2) 0 1) (by unfold zw; rw [show wn (M 0) 0 1 = p2 (M 0) by unfold wn; omega]) ?_
    refine z_iast C wd (ws2 := [zO m0 6 [.ref m1, .ref m2, .int (iI st), .ref m3, .int (iI iss), .ref m4, .int (iI ty), .ref m5, .ref m6, .ref m7, .ref m8], zA cy m1 780 M, zA cy m8 32 (uZ (fun _ => -1) (nx (M 0) 0 1) (zw (M 0) (M 1) (sl M 2) 0 1))]) 2 rfl (by omega) (by decide) rfl dX6_layFar_39 (fun H locs wd => ?_)
    refine z_iconst C dX6_layFar_40 ?_
    refine lv_istore_n (lv' := [(1, .int (iI 1)), (0, .ref m0)]) C.1 C.2.1 dX6_layFar_41 rfl hl (by decide) rfl (fun ls hl => ?_)
    refine z_loop2 (P := fun (f9 : Int → Int) (y : Int) => (oI (M 0) (M 1) (sl M 2) f9 y) ∧ (0 ≤ y ∧ y ≤ 1)) (mu := fun (f9 : Int → Int) (y : Int) => (2 * fSum f9 + y).toNat) (ws := fun (f9 : Int → Int) (y : Int) => [zO m0 6 [.ref m1, .ref m2, .int (iI st), .ref m3, .int (iI iss), .ref m4, .int (iI ty), .ref m5, .ref m6, .ref m7, .ref m8], zA cy m1 780 M, zA cy m8 32 f9]) (lv := fun (f9 : Int → Int) (y : Int) => [(0, .ref m0), (1, .int (iI y))]) (uZ (fun _ => -1) (nx (M 0) 0 1) (zw (M 0) (M 1) (sl M 2) 0 1)) 1 C ⟨(oI_init hm ho), (by omega)⟩ wd (lv_sub hl [1, 0] rfl) ?_
    intro f9 y hP42 ih42 H locs ls wd hl
    obtain ⟨h42_0, h42_1⟩ := hP42
    try dsimp only at h42_0 h42_1
    have wd : Wd D (zT cy cs) _ s.heap s [zO m0 6 [.ref m1, .ref m2, .int (iI st), .ref m3, .int (iI iss), .ref m4, .int (iI ty), .ref m5, .ref m6, .ref m7, .ref m8], zA cy m1 780 M, zA cy m8 32 f9] H locs := wd
    have hl : lv_has ls 6 [(0, .ref m0), (1, .int (iI y))] := hl
    refine lv_iload_n C.1 C.2.1 dX6_layFar_42 rfl (lv_at hl 1 rfl) ?_
    refine z_if_eq C (tgt := 156) dX6_layFar_43 (by decide) (by omega) (fun c_2 => ?_) (fun c_2 => ?_)
    · skip
      exact z_vretX C hr hlk f9 (by have e9 : y = 0 := (by omega); rw [e9] at h42_0; exact h42_0) wd dX6_layFar_156
    · skip
      refine z_iconst C dX6_layFar_46 ?_
      refine lv_istore_n (lv' := [(1, .int (iI 0)), (0, .ref m0)]) C.1 C.2.1 dX6_layFar_47 rfl hl (by decide) rfl (fun ls hl => ?_)
      refine z_iconst C dX6_layFar_48 ?_
      refine lv_istore_n (lv' := [(2, .int (iI 1)), (1, .int (iI 0)), (0, .ref m0)]) C.1 C.2.1 dX6_layFar_49 rfl hl (by decide) rfl (fun ls hl => ?_)
      refine z_loop3 (P := fun (f2 : Int → Int) (y2 : Int) (s9 : Int) => (qI (M 0) (M 1) (sl M 2) f9 f2 y2 s9 0) ∧ (1 ≤ s9 ∧ s9 ≤ p2 (M 0)) ∧ (0 ≤ y2 ∧ y2 ≤ 1)) (mu := fun (f2 : Int → Int) (y2 : Int) (s9 : Int) => (p2 (M 0) - s9).toNat) (ws := fun (f2 : Int → Int) (y2 : Int) (s9 : Int) => [zO m0 6 [.ref m1, .ref m2, .int (iI st), .ref m3, .int (iI iss), .ref m4, .int (iI ty), .ref m5, .ref m6, .ref m7, .ref m8], zA cy m1 780 M, zA cy m8 32 f2]) (lv := fun (f2 : Int → Int) (y2 : Int) (s9 : Int) => [(0, .ref m0), (1, .int (iI y2)), (2, .int (iI s9))]) f9 0 1 C ⟨(qI_of h42_0.1), (by omega), (by omega)⟩ wd (lv_sub hl [2, 1, 0] rfl) ?_
      intro f2 y2 s9 hP50 ih50 H locs ls wd hl
      obtain ⟨h50_0, h50_1, h50_2⟩ := hP50
      try dsimp only at h50_0 h50_1 h50_2
      have wd : Wd D (zT cy cs) _ s.heap s [zO m0 6 [.ref m1, .ref m2, .int (iI st), .ref m3, .int (iI iss), .ref m4, .int (iI ty), .ref m5, .ref m6, .ref m7, .ref m8], zA cy m1 780 M, zA cy m8 32 f2] H locs := wd
      have hl : lv_has ls 6 [(0, .ref m0), (1, .int (iI y2)), (2, .int (iI s9))] := hl
      refine lv_iload_n C.1 C.2.1 dX6_layFar_50 rfl (lv_at hl 2 rfl) ?_
      refine lv_aload_n C.1 C.2.1 dX6_layFar_51 rfl (lv_at hl 0 rfl) ?_
      refine z_cvi C wd hA (As := []) (rest := [.int (iI s9)]) (ws2 := [zO m0 6 [.ref m1, .ref m2, .int (iI st), .ref m3, .int (iI iss), .ref m4, .int (iI ty), .ref m5, .ref m6, .ref m7, .ref m8], zA cy m1 780 M, zA cy m8 32 f2]) (c_X6_registers l D cy cs m0 m1 m2 m3 m4 m5 m6 m7 m8 st iss ty M (by omega)) (cwV 0 C.2.2.2.2 gX6_layFar_X6_registers rfl rfl rfl (by decide +kernel) ⟨Nat.le_of_ble_eq_true rfl, Nat.le_of_ble_eq_true rfl⟩) [0, 1] rfl rfl rfl ⟨rfl, [2], [zA cy m8 32 f2], 3, rfl, rfl, rfl, by decide +kernel⟩ rfl rfl rfl rfl (Nat.le_of_ble_eq_true rfl) hl.1 dX6_layFar_52 ⟨Nat.zero_le _, Nat.zero_le _⟩ (fun H locs wd => ?_)
      refine z_icmp_ge C (tgt := 153) dX6_layFar_55 (by decide) (by omega) (fun c_3 => ?_) (fun c_3 => ?_)
      · skip
        refine z_goto C (tgt := 42) dX6_layFar_153 (by decide) ?_
        exact ih42 f2 y2 ⟨(qI_end h50_0 (by omega)).1, (by omega)⟩ (by have e9 := (qI_end h50_0 (by omega)).2; have n9 := fSum_nn f2; have n8 := fSum_nn f9; omega) H locs _ wd (lv_sub hl [0, 1] rfl)
      · skip
        refine z_iconst C dX6_layFar_58 ?_
        refine lv_istore_n (lv' := [(3, .int (iI 0)), (0, .ref m0), (1, .int (iI y2)), (2, .int (iI s9))]) C.1 C.2.1 dX6_layFar_59 rfl hl (by decide) rfl (fun ls hl => ?_)
        refine z_loop3 (P := fun (f3 : Int → Int) (y3 : Int) (b9 : Int) => (qI (M 0) (M 1) (sl M 2) f9 f3 y3 s9 b9) ∧ (0 ≤ b9 ∧ b9 ≤ 2) ∧ (0 ≤ y3 ∧ y3 ≤ 1)) (mu := fun (f3 : Int → Int) (y3 : Int) (b9 : Int) => (2 - b9).toNat) (ws := fun (f3 : Int → Int) (y3 : Int) (b9 : Int) => [zO m0 6 [.ref m1, .ref m2, .int (iI st), .ref m3, .int (iI iss), .ref m4, .int (iI ty), .ref m5, .ref m6, .ref m7, .ref m8], zA cy m1 780 M, zA cy m8 32 f3]) (lv := fun (f3 : Int → Int) (y3 : Int) (b9 : Int) => [(0, .ref m0), (1, .int (iI y3)), (2, .int (iI s9)), (3, .int (iI b9))]) f2 y2 0 C ⟨h50_0, (by omega), (by omega)⟩ wd (lv_sub hl [1, 2, 3, 0] rfl) ?_
        intro f3 y3 b9 hP60 ih60 H locs ls wd hl
        obtain ⟨h60_0, h60_1, h60_2⟩ := hP60
        try dsimp only at h60_0 h60_1 h60_2
        have wd : Wd D (zT cy cs) _ s.heap s [zO m0 6 [.ref m1, .ref m2, .int (iI st), .ref m3, .int (iI iss), .ref m4, .int (iI ty), .ref m5, .ref m6, .ref m7, .ref m8], zA cy m1 780 M, zA cy m8 32 f3] H locs := wd
        have hl : lv_has ls 6 [(0, .ref m0), (1, .int (iI y3)), (2, .int (iI s9)), (3, .int (iI b9))] := hl
        refine lv_iload_n C.1 C.2.1 dX6_layFar_60 rfl (lv_at hl 3 rfl) ?_
        refine z_iconst C dX6_layFar_61 ?_
        refine z_icmp_ge C (tgt := 147) dX6_layFar_62 (by decide) (by omega) (fun c_4 => ?_) (fun c_4 => ?_)
        · skip
          refine z_iinc C (lv' := [(2, .int (iI (s9 + 1))), (0, .ref m0), (1, .int (iI y3)), (3, .int (iI b9))]) hl 2 dX6_layFar_147 rfl (by decide) rfl (fun ls hl => ?_)
          refine z_goto C (tgt := 50) dX6_layFar_150 (by decide) ?_
          exact ih50 f3 y3 (s9 + 1) ⟨(qI_up h60_0 (by omega)), (by omega), (by omega)⟩ (by omega) H locs _ wd (lv_sub hl [1, 2, 0] rfl)
        · skip
          refine lv_aload_n C.1 C.2.1 dX6_layFar_65 rfl (lv_at hl 0 rfl) ?_
          have hf3 := rF_96 h60_0.1
          have hfs := hf3 s9
          refine z_get C wd (Cn := RX6) (TT := TX6) (N := 11) (ci := 6) iX6 0 rfl rfl 10 (by decide) L31 (fun _ h => h) rfl dX6_layFar_66 ?_
          refine lv_iload_n C.1 C.2.1 dX6_layFar_69 rfl (lv_at hl 2 rfl) ?_
          refine z_iald C wd 2 rfl (by omega) (by decide) dX6_layFar_70 ?_
          refine z_if_lt C (tgt := 147) dX6_layFar_71 (by decide) (by omega) (fun c_5 => ?_) (fun c_5 => ?_)
          · skip
            refine z_iinc C (lv' := [(2, .int (iI (s9 + 1))), (0, .ref m0), (1, .int (iI y3)), (3, .int (iI b9))]) hl 2 dX6_layFar_147 rfl (by decide) rfl (fun ls hl => ?_)
            refine z_goto C (tgt := 50) dX6_layFar_150 (by decide) ?_
            exact ih50 f3 y3 (s9 + 1) ⟨(qI_up h60_0 (by omega)), (by omega), (by omega)⟩ (by omega) H locs _ wd (lv_sub hl [1, 2, 0] rfl)
          · skip
            refine lv_aload_n C.1 C.2.1 dX6_layFar_74 rfl (lv_at hl 0 rfl) ?_
            have hnx := nx_le (x := s9) (b := b9) hm.1 hm.2 (by omega) (by omega) h60_1.1 (by omega)
            have hw := wn_le (mm := M 0) (st := s9) (b := b9) hm.1 hm.2 (by omega) (by omega) h60_1.1 (by omega)
            have hz := zw_le (mm := M 0) (tp := sl M 2) ho s9 b9
            have hfn := hf3 (nx (M 0) s9 b9)
            refine lv_iload_n C.1 C.2.1 dX6_layFar_75 rfl (lv_at hl 2 rfl) ?_
            refine lv_iload_n C.1 C.2.1 dX6_layFar_76 rfl (lv_at hl 3 rfl) ?_
            refine z_cvi C wd hA (As := [.int (iI s9), .int (iI b9)]) (rest := []) (ws2 := [zO m0 6 [.ref m1, .ref m2, .int (iI st), .ref m3, .int (iI iss), .ref m4, .int (iI ty), .ref m5, .ref m6, .ref m7, .ref m8], zA cy m1 780 M, zA cy m8 32 f3]) (c_X6_window l D cy cs m0 m1 m2 m3 m4 m5 m6 m7 m8 st iss ty M s9 b9 (by omega)) (cwV 2 C.2.2.2.2 gX6_layFar_X6_window rfl rfl rfl (by decide +kernel) ⟨Nat.le_of_ble_eq_true rfl, Nat.le_of_ble_eq_true rfl⟩) [0, 1] rfl rfl rfl ⟨rfl, [2], [zA cy m8 32 f3], 3, rfl, rfl, rfl, by decide +kernel⟩ rfl rfl rfl rfl (Nat.le_of_ble_eq_true rfl) hl.1 dX6_layFar_77 ⟨Nat.zero_le _, Nat.zero_le _⟩ (fun H locs wd => ?_)
            refine z_iconst C dX6_layFar_80 ?_
            refine z_idiv C dX6_layFar_81 (by omega) ?_
            refine z_top (b := nx (M 0) s9 b9) rfl ?_
            refine lv_istore (lv' := [(4, .int (iI (nx (M 0) s9 b9))), (0, .ref m0), (1, .int (iI y3)), (2, .int (iI s9)), (3, .int (iI b9))]) C.1 C.2.1 dX6_layFar_82 hl (by decide) rfl (fun ls hl => ?_)
            refine lv_aload_n C.1 C.2.1 dX6_layFar_84 rfl (lv_at hl 1 rfl) ?_
            refine z_get C wd (Cn := RX6) (TT := TX6) (N := 11) (ci := 6) iX6 0 rfl rfl 10 (by decide) L31 (fun _ h => h) rfl dX6_layFar_85 ?_
            refine lv_iload_n C.1 C.2.1 dX6_layFar_88 rfl (lv_at hl 3 rfl) ?_
            refine z_iald C wd 2 rfl (by omega) (by decide) dX6_layFar_89 ?_
            refine lv_aload_n C.1 C.2.1 dX6_layFar_90 rfl (lv_at hl 1 rfl) ?_
            refine lv_aload_n C.1 C.2.1 dX6_layFar_91 rfl (lv_at hl 1 rfl) ?_
            refine lv_iload_n C.1 C.2.1 dX6_layFar_92 rfl (lv_at hl 3 rfl) ?_
            refine lv_iload_n C.1 C.2.1 dX6_layFar_93 rfl (lv_at hl 4 rfl) ?_
            refine z_cvi C wd hA (As := [.int (iI s9), .int (iI b9)]) (rest := [.ref m0, .int (iI (f3 s9))]) (ws2 := [zO m0 6 [.ref m1, .ref m2, .int (iI st), .ref m3, .int (iI iss), .ref m4, .int (iI ty), .ref m5, .ref m6, .ref m7, .ref m8], zA cy m1 780 M, zA cy m8 32 f3]) (c_X6_window l D cy cs m0 m1 m2 m3 m4 m5 m6 m7 m8 st iss ty M s9 b9 (by omega)) (cwV 2 C.2.2.2.2 gX6_layFar_X6_window rfl rfl rfl (by decide +kernel) ⟨Nat.le_of_ble_eq_true rfl, Nat.le_of_ble_eq_true rfl⟩) [0, 1] rfl rfl rfl ⟨rfl, [2], [zA cy m8 32 f3], 3, rfl, rfl, rfl, by decide +kernel⟩ rfl rfl rfl rfl (Nat.le_of_ble_eq_true rfl) hl.1 dX6_layFar_94 ⟨Nat.zero_le _, Nat.zero_le _⟩ (fun H locs wd => ?_)
            refine z_cvi C wd hA (As := [.int (iI (wn (M 0) s9 b9))]) (rest := [.int (iI (f3 s9))]) (ws2 := [zO m0 6 [.ref m1, .ref m2, .int (iI st), .ref m3, .int (iI iss), .ref m4, .int (iI ty), .ref m5, .ref m6, .ref m7, .ref m8], zA cy m1 780 M, zA cy m8 32 f3]) (c_X6_ones l D cy cs m0 m1 m2 m3 m4 m5 m6 m7 m8 st iss ty M (wn (M 0) s9 b9) (by omega) (by omega) (by omega)) (cwV 1 C.2.2.2.2 gX6_layFar_X6_ones rfl rfl rfl (by decide +kernel) ⟨Nat.le_of_ble_eq_true rfl, Nat.le_of_ble_eq_true rfl⟩) [0, 1] rfl rfl rfl ⟨rfl, [2], [zA cy m8 32 f3], 3, rfl, rfl, rfl, by decide +kernel⟩ rfl rfl rfl rfl (Nat.le_of_ble_eq_true rfl) hl.1 dX6_layFar_97 ⟨Nat.zero_le _, Nat.zero_le _⟩ (fun H locs wd => ?_)
            refine z_top (b := zw (M 0) (M 1) (sl M 2) s9 b9) rfl ?_
            refine z_iadd C dX6_layFar_100 ?_
            refine lv_istore (lv' := [(5, .int (iI ((f3 s9) + (zw (M 0) (M 1) (sl M 2) s9 b9)))), (4, .int (iI (nx (M 0) s9 b9))), (0, .ref m0), (1, .int (iI y3)), (2, .int (iI s9)), (3, .int (iI b9))]) C.1 C.2.1 dX6_layFar_101 hl (by decide) rfl (fun ls hl => ?_)
            refine lv_iload C.1 C.2.1 dX6_layFar_103 (lv_at hl 1 rfl) ?_
            refine z_if_le C (tgt := 141) dX6_layFar_105 (by decide) (by omega) (fun c_6 => ?_) (fun c_6 => ?_)
            · skip
              refine z_iinc C (lv' := [(3, .int (iI (b9 + 1))), (5, .int (iI ((f3 s9) + (zw (M 0) (M 1) (sl M 2) s9 b9)))), (4, .int (iI (nx (M 0) s9 b9))), (0, .ref m0), (1, .int (iI y3)), (2, .int (iI s9))]) hl 5 dX6_layFar_141 rfl (by decide) rfl (fun ls hl => ?_)
              refine z_goto C (tgt := 60) dX6_layFar_144 (by decide) ?_
              exact ih60 f3 y3 (b9 + 1) ⟨(by first | exact qI_keep h60_0 (by omega) | exact qI_set hm ho h60_0 (by omega) h50_1.1 (by omega) h60_1.1 (by omega) (by omega) (by omega) (by omega)), (by omega), (by omega)⟩ (by omega) H locs _ wd (lv_sub hl [3, 4, 5, 0] rfl)
            · skip
              refine lv_aload_n C.1 C.2.1 dX6_layFar_108 rfl (lv_at hl 2 rfl) ?_
              refine z_get C wd (Cn := RX6) (TT := TX6) (N := 11) (ci := 6) iX6 0 rfl rfl 10 (by decide) L31 (fun _ h => h) rfl dX6_layFar_109 ?_
              refine lv_iload C.1 C.2.1 dX6_layFar_112 (lv_at hl 1 rfl) ?_
              refine z_iald C wd 2 rfl (by omega) (by decide) dX6_layFar_114 ?_
              refine z_if_lt C (tgt := 130) dX6_layFar_115 (by decide) (by omega) (fun c_7 => ?_) (fun c_7 => ?_)
              · skip
                refine lv_aload_n C.1 C.2.1 dX6_layFar_130 rfl (lv_at hl 2 rfl) ?_
                refine z_get C wd (Cn := RX6) (TT := TX6) (N := 11) (ci := 6) iX6 0 rfl rfl 10 (by decide) L31 (fun _ h => h) rfl dX6_layFar_131 ?_
                refine lv_iload C.1 C.2.1 dX6_layFar_134 (lv_at hl 1 rfl) ?_
                refine lv_iload C.1 C.2.1 dX6_layFar_136 (lv_at hl 0 rfl) ?_
                refine z_iast C wd (ws2 := [zO m0 6 [.ref m1, .ref m2, .int (iI st), .ref m3, .int (iI iss), .ref m4, .int (iI ty), .ref m5, .ref m6, .ref m7, .ref m8], zA cy m1 780 M, zA cy m8 32 (uZ f3 (nx (M 0) s9 b9) ((f3 s9) + (zw (M 0) (M 1) (sl M 2) s9 b9)))]) 2 rfl (by omega) (by decide) rfl dX6_layFar_138 (fun H locs wd => ?_)
                refine z_iconst C dX6_layFar_139 ?_
                refine lv_istore_n (lv' := [(1, .int (iI 1)), (5, .int (iI ((f3 s9) + (zw (M 0) (M 1) (sl M 2) s9 b9)))), (4, .int (iI (nx (M 0) s9 b9))), (0, .ref m0), (2, .int (iI s9)), (3, .int (iI b9))]) C.1 C.2.1 dX6_layFar_140 rfl hl (by decide) rfl (fun ls hl => ?_)
                refine z_iinc C (lv' := [(3, .int (iI (b9 + 1))), (1, .int (iI 1)), (5, .int (iI ((f3 s9) + (zw (M 0) (M 1) (sl M 2) s9 b9)))), (4, .int (iI (nx (M 0) s9 b9))), (0, .ref m0), (2, .int (iI s9))]) hl 5 dX6_layFar_141 rfl (by decide) rfl (fun ls hl => ?_)
                refine z_goto C (tgt := 60) dX6_layFar_144 (by decide) ?_
                exact ih60 (uZ f3 (nx (M 0) s9 b9) ((f3 s9) + (zw (M 0) (M 1) (sl M 2) s9 b9))) 1 (b9 + 1) ⟨(by first | exact qI_keep h60_0 (by omega) | exact qI_set hm ho h60_0 (by omega) h50_1.1 (by omega) h60_1.1 (by omega) (by omega) (by omega) (by omega)), (by omega), (by omega)⟩ (by omega) H locs _ wd (lv_sub hl [4, 1, 5, 0] rfl)
              · skip
                refine lv_iload C.1 C.2.1 dX6_layFar_118 (lv_at hl 0 rfl) ?_
                refine lv_aload_n C.1 C.2.1 dX6_layFar_120 rfl (lv_at hl 2 rfl) ?_
                refine z_get C wd (Cn := RX6) (TT := TX6) (N := 11) (ci := 6) iX6 0 rfl rfl 10 (by decide) L31 (fun _ h => h) rfl dX6_layFar_121 ?_
                refine lv_iload C.1 C.2.1 dX6_layFar_124 (lv_at hl 1 rfl) ?_
                refine z_iald C wd 2 rfl (by omega) (by decide) dX6_layFar_126 ?_
                refine z_icmp_ge C (tgt := 141) dX6_layFar_127 (by decide) (by omega) (fun c_8 => ?_) (fun c_8 => ?_)
                · skip
                  refine z_iinc C (lv' := [(3, .int (iI (b9 + 1))), (5, .int (iI ((f3 s9) + (zw (M 0) (M 1) (sl M 2) s9 b9)))), (4, .int (iI (nx (M 0) s9 b9))), (0, .ref m0), (1, .int (iI y3)), (2, .int (iI s9))]) hl 5 dX6_layFar_141 rfl (by decide) rfl (fun ls hl => ?_)
                  refine z_goto C (tgt := 60) dX6_layFar_144 (by decide) ?_
                  exact ih60 f3 y3 (b9 + 1) ⟨(by first | exact qI_keep h60_0 (by omega) | exact qI_set hm ho h60_0 (by omega) h50_1.1 (by omega) h60_1.1 (by omega) (by omega) (by omega) (by omega)), (by omega), (by omega)⟩ (by omega) H locs _ wd (lv_sub hl [3, 4, 5, 0] rfl)
                · skip
                  refine lv_aload_n C.1 C.2.1 dX6_layFar_130 rfl (lv_at hl 2 rfl) ?_
                  refine z_get C wd (Cn := RX6) (TT := TX6) (N := 11) (ci := 6) iX6 0 rfl rfl 10 (by decide) L31 (fun _ h => h) rfl dX6_layFar_131 ?_
                  refine lv_iload C.1 C.2.1 dX6_layFar_134 (lv_at hl 1 rfl) ?_
                  refine lv_iload C.1 C.2.1 dX6_layFar_136 (lv_at hl 0 rfl) ?_
                  refine z_iast C wd (ws2 := [zO m0 6 [.ref m1, .ref m2, .int (iI st), .ref m3, .int (iI iss), .ref m4, .int (iI ty), .ref m5, .ref m6, .ref m7, .ref m8], zA cy m1 780 M, zA cy m8 32 (uZ f3 (nx (M 0) s9 b9) ((f3 s9) + (zw (M 0) (M 1) (sl M 2) s9 b9)))]) 2 rfl (by omega) (by decide) rfl dX6_layFar_138 (fun H locs wd => ?_)
                  refine z_iconst C dX6_layFar_139 ?_
                  refine lv_istore_n (lv' := [(1, .int (iI 1)), (5, .int (iI ((f3 s9) + (zw (M 0) (M 1) (sl M 2) s9 b9)))), (4, .int (iI (nx (M 0) s9 b9))), (0, .ref m0), (2, .int (iI s9)), (3, .int (iI b9))]) C.1 C.2.1 dX6_layFar_140 rfl hl (by decide) rfl (fun ls hl => ?_)
                  refine z_iinc C (lv' := [(3, .int (iI (b9 + 1))), (1, .int (iI 1)), (5, .int (iI ((f3 s9) + (zw (M 0) (M 1) (sl M 2) s9 b9)))), (4, .int (iI (nx (M 0) s9 b9))), (0, .ref m0), (2, .int (iI s9))]) hl 5 dX6_layFar_141 rfl (by decide) rfl (fun ls hl => ?_)
                  refine z_goto C (tgt := 60) dX6_layFar_144 (by decide) ?_
                  exact ih60 (uZ f3 (nx (M 0) s9 b9) ((f3 s9) + (zw (M 0) (M 1) (sl M 2) s9 b9))) 1 (b9 + 1) ⟨(by first | exact qI_keep h60_0 (by omega) | exact qI_set hm ho h60_0 (by omega) h50_1.1 (by omega) h60_1.1 (by omega) (by omega) (by omega) (by omega)), (by omega), (by omega)⟩ (by omega) H locs _ wd (lv_sub hl [4, 1, 5, 0] rfl)
  · skip
    refine lv_aload_n C.1 C.2.1 dX6_layFar_8 rfl (lv_at hl 0 rfl) ?_
    refine z_get C wd (Cn := RX6) (TT := TX6) (N := 11) (ci := 6) iX6 0 rfl rfl 10 (by decide) L31 (fun _ h => h) rfl dX6_layFar_9 ?_
    refine lv_iload_n C.1 C.2.1 dX6_layFar_12 rfl (lv_at hl 1 rfl) ?_
    refine z_iconst C dX6_layFar_13 ?_
    refine z_iast C wd (ws2 := [zO m0 6 [.ref m1, .ref m2, .int (iI st), .ref m3, .int (iI iss), .ref m4, .int (iI ty), .ref m5, .ref m6, .ref m7, .ref m8], zA cy m1 780 M, zA cy m8 32 (uZ g k (-1))]) 2 rfl (by omega) (by decide) rfl dX6_layFar_14 (fun H locs wd => ?_)
    refine z_iinc C (lv' := [(1, .int (iI (k + 1))), (0, .ref m0)]) hl 1 dX6_layFar_15 rfl (by decide) rfl (fun ls hl => ?_)
    refine z_goto C (tgt := 2) dX6_layFar_18 (by decide) ?_
    exact ih2 (k + 1) (uZ g k (-1)) ⟨(by omega), (by rw [h2_1, flF_step fr k (-1) h2_0.1])⟩ (by omega) H locs _ wd (lv_sub hl [1, 0] rfl)
set_option maxRecDepth 100000 in
set_option maxHeartbeats 4000000 in
theorem c_X6_freeDistance (l : Launch) (D : va_G) (cy cs : ClassId) (m0 m1 m2 m3 m4 m5 m6 m7 m8 : Nat) (st iss ty : Int) (M : Int → Int) (fr : Int → Int) (hm : 1 ≤ M 0 ∧ M 0 ≤ 5) (ho : 2 ≤ M 1 ∧ M 1 ≤ 3) (ht : tpOk (sl M 2)) : zXi l D (zT cy cs) yX6_freeDistance wsX6_freeDistance ({ frames := 3, cells := 0, slots := 0, locals := 72 } : Room) [.ref m0] [zO m0 6 [.ref m1, .ref m2, .int (iI st), .ref m3, .int (iI iss), .ref m4, .int (iI ty), .ref m5, .ref m6, .ref m7, .ref m8], zA cy m1 780 M, zA cy m8 32 fr] (fdA (lvN (M 0) (M 1) (sl M 2) (p2 (M 0)).toNat 0)) (fun (u9 : (Int → Int)) => True) (fun (u9 : (Int → Int)) => [zO m0 6 [.ref m1, .ref m2, .int (iI st), .ref m3, .int (iI iss), .ref m4, .int (iI ty), .ref m5, .ref m6, .ref m7, .ref m8], zA cy m1 780 M, zA cy m8 32 u9]) := by
  intro sz
  refine zM_mk (cc := cX6_freeDistance) (maxL := 2) (ret := (some .int)) (own := RX6) (Qc := fun sz => va_Qi (fun r (u9 : (Int → Int)) => r = iI (fdA (lvN (M 0) (M 1) (sl M 2) (p2 (M 0)).toNat 0)) ∧ True) (fun u9 t9 => zQ D (zT cy cs) (va_A [zO m0 6 [.ref m1, .ref m2, .int (iI st), .ref m3, .int (iI iss), .ref m4, .int (iI ty), .ref m5, .ref m6, .ref m7, .ref m8], zA cy m1 780 M, zA cy m8 32 fr] sz) [zO m0 6 [.ref m1, .ref m2, .int (iI st), .ref m3, .int (iI iss), .ref m4, .int (iI ty), .ref m5, .ref m6, .ref m7, .ref m8], zA cy m1 780 M, zA cy m8 32 u9] t9) (va_A [zO m0 6 [.ref m1, .ref m2, .int (iI st), .ref m3, .int (iI iss), .ref m4, .int (iI ty), .ref m5, .ref m6, .ref m7, .ref m8], zA cy m1 780 M, zA cy m8 32 fr] sz)) (by decide) rfl rfl (Nat.le_of_ble_eq_true rfl) rfl sz ?_
  intro p e s m args below meth c ls C hr hlk hnm hl hsz hA wd
  subst hsz
  have hl : lv_has ls 2 [(0, .ref m0)] := hl
  have iX6 : ∀ w ∈ u_ws RX6 TX6 11, w ∈ wsX6_freeDistance := by decide +kernel
  have L31 := C.2.2.2.2 (.fieldLink RX6 31 "LikelyWalksModel" "far" "[I") (by decide +kernel)
  have hp := p2_all hm.1 hm.2
  refine lv_aload_n C.1 C.2.1 dX6_freeDistance_0 rfl (lv_at hl 0 rfl) ?_
  refine z_cvvX C wd hA (σ := (Int → Int)) (As := []) (rest := []) (ws2 := fun u9 => [zO m0 6 [.ref m1, .ref m2, .int (iI st), .ref m3, .int (iI iss), .ref m4, .int (iI ty), .ref m5, .ref m6, .ref m7, .ref m8], zA cy m1 780 M, zA cy m8 32 u9]) (c_X6_layFar l D cy cs m0 m1 m2 m3 m4 m5 m6 m7 m8 st iss ty M fr (by omega) (by omega) ht) (cwV 0 C.2.2.2.2 gX6_freeDistance_X6_layFar rfl rfl rfl (by decide +kernel) ⟨Nat.le_of_ble_eq_true rfl, Nat.le_of_ble_eq_true rfl⟩) [0, 1, 2] rfl rfl (fun _ => rfl) (fun _ => ⟨rfl, [], [], 3, rfl, rfl, rfl, by decide +kernel⟩) rfl rfl rfl rfl (Nat.le_of_ble_eq_true rfl) hl.1 dX6_freeDistance_1 ⟨Nat.zero_le _, Nat.zero_le _⟩ (fun u9 hu9 H locs wd => ?_)
  obtain ⟨gf_1, rfl⟩ : ∃ z, z = u9 := ⟨_, rfl⟩
  have wd : Wd D (zT cy cs) _ s.heap s [zO m0 6 [.ref m1, .ref m2, .int (iI st), .ref m3, .int (iI iss), .ref m4, .int (iI ty), .ref m5, .ref m6, .ref m7, .ref m8], zA cy m1 780 M, zA cy m8 32 gf_1] H locs := wd
  have hu_1 : oI (M 0) (M 1) (sl M 2) gf_1 0 := hu9
  have hfe := far_end hm ho hu_1
  have hf1 := rF_96 hu_1.1 1
  have hz := zw_le (mm := M 0) (tp := sl M 2) ho 1 0
  refine lv_aload_n C.1 C.2.1 dX6_freeDistance_4 rfl (lv_at hl 0 rfl) ?_
  refine z_get C wd (Cn := RX6) (TT := TX6) (N := 11) (ci := 6) iX6 0 rfl rfl 10 (by decide) L31 (fun _ h => h) rfl dX6_freeDistance_5 ?_
  refine z_iconst C dX6_freeDistance_8 ?_
  refine z_iald C wd 2 rfl (by omega) (by decide) dX6_freeDistance_9 ?_
  refine z_if_ge C (tgt := 18) dX6_freeDistance_10 (by decide) (by omega) (fun c_2 => ?_) (fun c_2 => ?_)
  · skip
    refine lv_aload_n C.1 C.2.1 dX6_freeDistance_18 rfl (lv_at hl 0 rfl) ?_
    refine z_get C wd (Cn := RX6) (TT := TX6) (N := 11) (ci := 6) iX6 0 rfl rfl 10 (by decide) L31 (fun _ h => h) rfl dX6_freeDistance_19 ?_
    refine z_iconst C dX6_freeDistance_22 ?_
    refine z_iald C wd 2 rfl (by omega) (by decide) dX6_freeDistance_23 ?_
    refine lv_aload_n C.1 C.2.1 dX6_freeDistance_24 rfl (lv_at hl 0 rfl) ?_
    refine z_iconst C dX6_freeDistance_25 ?_
    refine z_cvi C wd hA (As := [.int (iI 1)]) (rest := [.int (iI (gf_1 1))]) (ws2 := [zO m0 6 [.ref m1, .ref m2, .int (iI st), .ref m3, .int (iI iss), .ref m4, .int (iI ty), .ref m5, .ref m6, .ref m7, .ref m8], zA cy m1 780 M, zA cy m8 32 gf_1]) (c_X6_ones l D cy cs m0 m1 m2 m3 m4 m5 m6 m7 m8 st iss ty M 1 (by omega) (by omega) (by omega)) (cwV 1 C.2.2.2.2 gX6_freeDistance_X6_ones rfl rfl rfl (by decide +kernel) ⟨Nat.le_of_ble_eq_true rfl, Nat.le_of_ble_eq_true rfl⟩) [0, 1] rfl rfl rfl ⟨rfl, [2], [zA cy m8 32 gf_1], 3, rfl, rfl, rfl, by decide +kernel⟩ rfl rfl rfl rfl (Nat.le_of_ble_eq_true rfl) hl.1 dX6_freeDistance_26 ⟨Nat.zero_le _, Nat.zero_le _⟩ (fun H locs wd => ?_)
    refine z_top (b := zw (M 0) (M 1) (sl M 2) 1 0) (by unfold zw; rw [show wn (M 0) 1 0 = 1 by unfold wn; omega]) ?_
    refine z_iadd C dX6_freeDistance_29 ?_
    refine lv_istore_n (lv' := [(1, .int (iI ((gf_1 1) + (zw (M 0) (M 1) (sl M 2) 1 0)))), (0, .ref m0)]) C.1 C.2.1 dX6_freeDistance_30 rfl hl (by decide) rfl (fun ls hl => ?_)
    refine lv_iload_n C.1 C.2.1 dX6_freeDistance_31 rfl (lv_at hl 0 rfl) ?_
    refine z_bipush C dX6_freeDistance_32 (by decide +kernel) ?_
    refine z_icmp_le C (tgt := 42) dX6_freeDistance_34 (by decide) (by omega) (fun c_3 => ?_) (fun c_3 => ?_)
    · skip
      refine lv_iload_n C.1 C.2.1 dX6_freeDistance_42 rfl (lv_at hl 0 rfl) ?_
      exact z_iretX C hr hlk gf_1 trivial wd (by rw [hfe]; first | (rw [if_neg (show ¬ gf_1 1 < 0 by omega)]; unfold fdA; first | (rw [if_pos (by omega)]; done) | (rw [if_neg (by omega)]; done)) | (rw [if_pos (show gf_1 1 < 0 by omega)]; rfl)) dX6_freeDistance_43
    · skip
      refine z_bipush C dX6_freeDistance_37 (by decide +kernel) ?_
      refine z_goto C (tgt := 43) dX6_freeDistance_39 (by decide) ?_
      exact z_iretX C hr hlk gf_1 trivial wd (by rw [hfe]; first | (rw [if_neg (show ¬ gf_1 1 < 0 by omega)]; unfold fdA; first | (rw [if_pos (by omega)]; done) | (rw [if_neg (by omega)]; done)) | (rw [if_pos (show gf_1 1 < 0 by omega)]; rfl)) dX6_freeDistance_43
  · skip
    refine z_bipush C dX6_freeDistance_13 (by decide +kernel) ?_
    refine z_goto C (tgt := 30) dX6_freeDistance_15 (by decide) ?_
    refine lv_istore_n (lv' := [(1, .int (iI 41)), (0, .ref m0)]) C.1 C.2.1 dX6_freeDistance_30 rfl hl (by decide) rfl (fun ls hl => ?_)
    refine lv_iload_n C.1 C.2.1 dX6_freeDistance_31 rfl (lv_at hl 0 rfl) ?_
    refine z_bipush C dX6_freeDistance_32 (by decide +kernel) ?_
    refine z_icmp_le C (tgt := 42) dX6_freeDistance_34 (by decide) (by omega) (fun c_4 => ?_) (fun c_4 => ?_)
    · skip
      exact False.elim (by omega)
    · skip
      refine z_bipush C dX6_freeDistance_37 (by decide +kernel) ?_
      refine z_goto C (tgt := 43) dX6_freeDistance_39 (by decide) ?_
      exact z_iretX C hr hlk gf_1 trivial wd (by rw [hfe]; first | (rw [if_neg (show ¬ gf_1 1 < 0 by omega)]; unfold fdA; first | (rw [if_pos (by omega)]; done) | (rw [if_neg (by omega)]; done)) | (rw [if_pos (show gf_1 1 < 0 by omega)]; rfl)) dX6_freeDistance_43
