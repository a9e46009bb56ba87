set_option maxRecDepth 100000 in
set_option maxHeartbeats 4000000 in
theorem c_X6_go (l : Launch) (D : va_G) (cy cs : ClassId) (m0 m1 m2 m3 m4 m5 m6 m7 m8 : Nat) (st iss ty : Int) (M : Int → Int) (hd me wk : Int → Int) (hm : 1 ≤ M 0 ∧ M 0 ≤ 5) (ho : 2 ≤ M 1 ∧ M 1 ≤ 3) (ht : tpOk (sl M 2)) (hhd : ∀ k : Int, 0 ≤ k → k < 3 → 0 ≤ hd k ∧ hd k ≤ 3) (h9 : 0 ≤ M 9 ∧ M 9 < 80) (hme : mtOk (sl M 572) (M 9)) (hwd : wdOk M) (h10 : 0 ≤ M 10 ∧ M 10 ≤ M 9) (h5 : 2 ≤ M 5 ∧ M 5 ≤ 40) (hbs : 0 ≤ bsM M hd) : zCv l D (zT cy cs) yX6_go wsX6_go ({ frames := 3, cells := 0, slots := 0, locals := 75 } : Room) [.ref m0] [zO m0 6 [.ref m1, .ref m2, .int (iI st), .ref m3, .int (iI iss), .ref m4, .int (iI ty), .ref m5, .ref m6, .ref m7, .ref m8], zA cy m1 780 M, zA cy m5 3 hd, zA cy m6 32 me, zA cy m7 96 wk] [zO m0 6 [.ref m1, .ref m2, .int (iI st), .ref m3, .int (iI iss), .ref m4, .int (iI ty), .ref m5, .ref m6, .ref m7, .ref m8], zA cy m1 780 (goM M hd), zA cy m5 3 hd, zA cy m6 32 (cpZ (nmM M hd) me (p2 (M 0))), zA cy m7 96 (cpZ (wkA M hd) wk (3 * p2 (M 0)))] := by
  intro sz
  refine zM_mk (cc := cX6_go) (maxL := 2) (ret := none) (own := RX6) (Qc := fun sz => va_Qv (fun (_ : Unit) => True) (fun _ t9 => zQ D (zT cy cs) (va_A [zO m0 6 [.ref m1, .ref m2, .int (iI st), .ref m3, .int (iI iss), .ref m4, .int (iI ty), .ref m5, .ref m6, .ref m7, .ref m8], zA cy m1 780 M, zA cy m5 3 hd, zA cy m6 32 me, zA cy m7 96 wk] sz) [zO m0 6 [.ref m1, .ref m2, .int (iI st), .ref m3, .int (iI iss), .ref m4, .int (iI ty), .ref m5, .ref m6, .ref m7, .ref m8], zA cy m1 780 (goM M hd), zA cy m5 3 hd, zA cy m6 32 (cpZ (nmM M hd) me (p2 (M 0))), zA cy m7 96 (cpZ (wkA M hd) wk (3 * p2 (M 0)))] t9) (va_A [zO m0 6 [.ref m1, .ref m2, .int (iI st), .ref m3, .int (iI iss), .ref m4, .int (iI ty), .ref m5, .ref m6, .ref m7, .ref m8], zA cy m1 780 M, zA cy m5 3 hd, zA cy m6 32 me, zA cy m7 96 wk] sz)) (by decide) rfl rfl (Nat.le_of_ble_eq_true rfl) rfl sz ?_
  intro p e s m args below meth c ls C hr hlk hnm hl hsz hA wd
  subst hsz
  have hl : lv_has ls 2 [(0, .ref m0)] := hl
  have iX6 : ∀ w ∈ u_ws RX6 TX6 11, w ∈ wsX6_go := by decide +kernel
  have L7 := C.2.2.2.2 (.fieldLink RX6 7 "LikelyWalksModel" "now" "[I") (by decide +kernel)
  have L25 := C.2.2.2.2 (.fieldLink RX6 25 "LikelyWalksModel" "metrics" "[I") (by decide +kernel)
  have L28 := C.2.2.2.2 (.fieldLink RX6 28 "LikelyWalksModel" "walks" "[I") (by decide +kernel)
  have hp := p2_all hm.1 hm.2
  have hbl := bst_le (sl (goM1 M hd) 572) (p2 (M 0)).toNat
  have ebs : bst (sl (goM1 M hd) 572) (p2 (M 0)).toNat = bsM M hd := rfl
  rw [ebs] at hbl
  have hnN := nN_or (M 5) (M 9) (M 10)
  have e10 : goM1 M hd 10 = M 10 := goM1_low M hd 10 (by omega)
  have e9 : goM1 M hd 9 = M 9 + 1 := goM1_low M hd 9 (by omega)
  have e5 : goM1 M hd 5 = M 5 := goM1_low M hd 5 (by omega)
  have e0 : goM1 M hd 0 = M 0 := goM1_low M hd 0 (by omega)
  have hwd1 := wdOk_lt (goM1_wd (hd := hd) hm.1 hm.2 hwd h9)
  refine z_iconst C dX6_go_0 ?_
  refine lv_istore_n (lv' := [(1, .int (iI 0)), (0, .ref m0)]) C.1 C.2.1 dX6_go_1 rfl hl (by decide) rfl (fun ls hl => ?_)
  refine z_loop3 (P := fun (k : Int) (g6 : Int → Int) (g7 : Int → Int) => (0 ≤ k ∧ k ≤ p2 (M 0)) ∧ (g6 = cpZ (nmM M hd) me k) ∧ (g7 = cpZ (wkA M hd) wk (3 * k))) (mu := fun (k : Int) (g6 : Int → Int) (g7 : Int → Int) => (p2 (M 0) - k).toNat) (ws := fun (k : Int) (g6 : Int → Int) (g7 : Int → Int) => [zO m0 6 [.ref m1, .ref m2, .int (iI st), .ref m3, .int (iI iss), .ref m4, .int (iI ty), .ref m5, .ref m6, .ref m7, .ref m8], zA cy m1 780 M, zA cy m5 3 hd, zA cy m6 32 g6, zA cy m7 96 g7]) (lv := fun (k : Int) (g6 : Int → Int) (g7 : Int → Int) => [(0, .ref m0), (1, .int (iI k))]) 0 me wk C ⟨(by omega), (cpZ_0 _ _).symm, (cpZ_0 _ _).symm⟩ wd (lv_sub hl [1, 0] rfl) ?_
  intro k g6 g7 hP2 ih2 H locs ls wd hl
  obtain ⟨h2_0, h2_1, h2_2⟩ := hP2
  try dsimp only at h2_0 h2_1 h2_2
  have wd : Wd D (zT cy cs) _ s.heap s [zO m0 6 [.ref m1, .ref m2, .int (iI st), .ref m3, .int (iI iss), .ref m4, .int (iI ty), .ref m5, .ref m6, .ref m7, .ref m8], zA cy m1 780 M, zA cy m5 3 hd, zA cy m6 32 g6, zA cy m7 96 g7] H locs := wd
  have hl : lv_has ls 2 [(0, .ref m0), (1, .int (iI k))] := hl
  refine lv_iload_n C.1 C.2.1 dX6_go_2 rfl (lv_at hl 1 rfl) ?_
  refine lv_aload_n C.1 C.2.1 dX6_go_3 rfl (lv_at hl 0 rfl) ?_
  refine z_cvi C wd hA (As := []) (rest := [.int (iI k)]) (ws2 := [zO m0 6 [.ref m1, .ref m2, .int (iI st), .ref m3, .int (iI iss), .ref m4, .int (iI ty), .ref m5, .ref m6, .ref m7, .ref m8], zA cy m1 780 M, zA cy m5 3 hd, zA cy m6 32 g6, zA cy m7 96 g7]) (c_X6_registers l D cy cs m0 m1 m2 m3 m4 m5 m6 m7 m8 st iss ty M (by omega)) (cwV 0 C.2.2.2.2 gX6_go_X6_registers rfl rfl rfl (by decide +kernel) ⟨Nat.le_of_ble_eq_true rfl, Nat.le_of_ble_eq_true rfl⟩) [0, 1] rfl rfl rfl ⟨rfl, [2, 3, 4], [zA cy m5 3 hd, zA cy m6 32 g6, zA cy m7 96 g7], 5, rfl, rfl, rfl, by decide +kernel⟩ rfl rfl rfl rfl (Nat.le_of_ble_eq_true rfl) hl.1 dX6_go_4 ⟨Nat.zero_le _, Nat.zero_le _⟩ (fun H locs wd => ?_)
  refine z_icmp_ge C (tgt := 21) dX6_go_7 (by decide) (by omega) (fun c_1 => ?_) (fun c_1 => ?_)
  · skip
    have hk2 : k = p2 (M 0) := by omega
    refine z_iconst C dX6_go_21 ?_
    refine lv_istore_n (lv' := [(1, .int (iI 0)), (0, .ref m0)]) C.1 C.2.1 dX6_go_22 rfl hl (by decide) rfl (fun ls hl => ?_)
    refine z_loop2 (P := fun (k2 : Int) (g : Int → Int) => (0 ≤ k2 ∧ k2 ≤ p2 (M 0)) ∧ (g = wrS M 572 k2 (nmM M hd))) (mu := fun (k2 : Int) (g : Int → Int) => (p2 (M 0) - k2).toNat) (ws := fun (k2 : Int) (g : Int → Int) => [zO m0 6 [.ref m1, .ref m2, .int (iI st), .ref m3, .int (iI iss), .ref m4, .int (iI ty), .ref m5, .ref m6, .ref m7, .ref m8], zA cy m1 780 g, zA cy m5 3 hd, zA cy m6 32 g6, zA cy m7 96 g7]) (lv := fun (k2 : Int) (g : Int → Int) => [(0, .ref m0), (1, .int (iI k2))]) 0 M C ⟨(by omega), (wrS_0 _ _ _).symm⟩ wd (lv_sub hl [1, 0] rfl) ?_
    intro k2 g hP23 ih23 H locs ls wd hl
    obtain ⟨h23_0, h23_1⟩ := hP23
    try dsimp only at h23_0 h23_1
    have wd : Wd D (zT cy cs) _ s.heap s [zO m0 6 [.ref m1, .ref m2, .int (iI st), .ref m3, .int (iI iss), .ref m4, .int (iI ty), .ref m5, .ref m6, .ref m7, .ref m8], zA cy m1 780 g, zA cy m5 3 hd, zA cy m6 32 g6, zA cy m7 96 g7] H locs := wd
    have hl : lv_has ls 2 [(0, .ref m0), (1, .int (iI k2))] := hl
    have hg0 : g 0 = M 0 := by rw [h23_1]; exact if_neg (by omega)
    refine lv_iload_n C.1 C.2.1 dX6_go_23 rfl (lv_at hl 1 rfl) ?_
    refine lv_aload_n C.1 C.2.1 dX6_go_24 rfl (lv_at hl 0 rfl) ?_
    refine z_cvi C wd hA (As := []) (rest := [.int (iI k2)]) (ws2 := [zO m0 6 [.ref m1, .ref m2, .int (iI st), .ref m3, .int (iI iss), .ref m4, .int (iI ty), .ref m5, .ref m6, .ref m7, .ref m8], zA cy m1 780 g, zA cy m5 3 hd, zA cy m6 32 g6, zA cy m7 96 g7]) (c_X6_registers l D cy cs m0 m1 m2 m3 m4 m5 m6 m7 m8 st iss ty g (by rw [hg0]; exact hm)) (cwV 0 C.2.2.2.2 gX6_go_X6_registers rfl rfl rfl (by decide +kernel) ⟨Nat.le_of_ble_eq_true rfl, Nat.le_of_ble_eq_true rfl⟩) [0, 1] rfl rfl rfl ⟨rfl, [2, 3, 4], [zA cy m5 3 hd, zA cy m6 32 g6, zA cy m7 96 g7], 5, rfl, rfl, rfl, by decide +kernel⟩ rfl rfl rfl rfl (Nat.le_of_ble_eq_true rfl) hl.1 dX6_go_25 ⟨Nat.zero_le _, Nat.zero_le _⟩ (fun H locs wd => ?_)
    refine z_top (b := p2 (M 0)) (by rw [hg0]) ?_
    refine z_icmp_ge C (tgt := 53) dX6_go_28 (by decide) (by omega) (fun c_2 => ?_) (fun c_2 => ?_)
    · skip
      refine z_iconst C dX6_go_53 ?_
      refine lv_istore_n (lv' := [(1, .int (iI 0)), (0, .ref m0)]) C.1 C.2.1 dX6_go_54 rfl hl (by decide) rfl (fun ls hl => ?_)
      refine z_loop2 (P := fun (k3 : Int) (g2 : Int → Int) => (0 ≤ k3 ∧ k3 ≤ 3 * p2 (M 0)) ∧ (g2 = wrS (wrS M 572 (p2 (M 0)) (nmM M hd)) 684 k3 (wkA M hd))) (mu := fun (k3 : Int) (g2 : Int → Int) => (3 * p2 (M 0) - k3).toNat) (ws := fun (k3 : Int) (g2 : Int → Int) => [zO m0 6 [.ref m1, .ref m2, .int (iI st), .ref m3, .int (iI iss), .ref m4, .int (iI ty), .ref m5, .ref m6, .ref m7, .ref m8], zA cy m1 780 g2, zA cy m5 3 hd, zA cy m6 32 g6, zA cy m7 96 g7]) (lv := fun (k3 : Int) (g2 : Int → Int) => [(0, .ref m0), (1, .int (iI k3))]) 0 g C ⟨(by omega), (by rw [wrS_0, h23_1, show k2 = p2 (M 0) by omega])⟩ wd (lv_sub hl [1, 0] rfl) ?_
      intro k3 g2 hP55 ih55 H locs ls wd hl
      obtain ⟨h55_0, h55_1⟩ := hP55
      try dsimp only at h55_0 h55_1
      have wd : Wd D (zT cy cs) _ s.heap s [zO m0 6 [.ref m1, .ref m2, .int (iI st), .ref m3, .int (iI iss), .ref m4, .int (iI ty), .ref m5, .ref m6, .ref m7, .ref m8], zA cy m1 780 g2, zA cy m5 3 hd, zA cy m6 32 g6, zA cy m7 96 g7] H locs := wd
      have hl : lv_has ls 2 [(0, .ref m0), (1, .int (iI k3))] := hl
      have hg20 : g2 0 = M 0 := by rw [h55_1]; unfold wrS; rw [if_neg (by omega), if_neg (by omega)]
      refine lv_iload_n C.1 C.2.1 dX6_go_55 rfl (lv_at hl 1 rfl) ?_
      refine z_iconst C dX6_go_56 ?_
      refine lv_aload_n C.1 C.2.1 dX6_go_57 rfl (lv_at hl 0 rfl) ?_
      refine z_cvi C wd hA (As := []) (rest := [.int (iI 3), .int (iI k3)]) (ws2 := [zO m0 6 [.ref m1, .ref m2, .int (iI st), .ref m3, .int (iI iss), .ref m4, .int (iI ty), .ref m5, .ref m6, .ref m7, .ref m8], zA cy m1 780 g2, zA cy m5 3 hd, zA cy m6 32 g6, zA cy m7 96 g7]) (c_X6_registers l D cy cs m0 m1 m2 m3 m4 m5 m6 m7 m8 st iss ty g2 (by rw [hg20]; exact hm)) (cwV 0 C.2.2.2.2 gX6_go_X6_registers rfl rfl rfl (by decide +kernel) ⟨Nat.le_of_ble_eq_true rfl, Nat.le_of_ble_eq_true rfl⟩) [0, 1] rfl rfl rfl ⟨rfl, [2, 3, 4], [zA cy m5 3 hd, zA cy m6 32 g6, zA cy m7 96 g7], 5, rfl, rfl, rfl, by decide +kernel⟩ rfl rfl rfl rfl (Nat.le_of_ble_eq_true rfl) hl.1 dX6_go_58 ⟨Nat.zero_le _, Nat.zero_le _⟩ (fun H locs wd => ?_)
      refine z_top (b := p2 (M 0)) (by rw [hg20]) ?_
      refine z_imul C dX6_go_61 ?_
      refine z_icmp_ge C (tgt := 87) dX6_go_62 (by decide) (by omega) (fun c_3 => ?_) (fun c_3 => ?_)
      · skip
        refine lv_aload_n C.1 C.2.1 dX6_go_87 rfl (lv_at hl 0 rfl) ?_
        refine z_get C wd (Cn := RX6) (TT := TX6) (N := 11) (ci := 6) iX6 0 rfl rfl 0 (by decide) L7 (fun _ h => h) rfl dX6_go_88 ?_
        refine z_bipush C dX6_go_91 (by decide +kernel) ?_
        refine lv_dup2_11 C.1 C.2.1 dX6_go_93 rfl rfl ?_
        refine z_iald C wd 1 rfl (by omega) (by decide) dX6_go_94 ?_
        refine z_iconst C dX6_go_95 ?_
        refine z_iadd C dX6_go_96 ?_
        refine z_iast C wd (ws2 := [zO m0 6 [.ref m1, .ref m2, .int (iI st), .ref m3, .int (iI iss), .ref m4, .int (iI ty), .ref m5, .ref m6, .ref m7, .ref m8], zA cy m1 780 (uZ g2 9 ((g2 9) + 1)), zA cy m5 3 hd, zA cy m6 32 g6, zA cy m7 96 g7]) 1 rfl (by omega) (by decide) rfl dX6_go_97 (fun H locs wd => ?_)
        refine z_loop2 (P := fun (z : Int) (Mv : Int → Int) => (M 10 ≤ z ∧ z ≤ M 9 + 1) ∧ (Mv = rlsM (goM1 M hd) (bsM M hd) z) ∧ (z = M 10 ∨ z ≤ M 9 + 2 - M 5)) (mu := fun (z : Int) (Mv : Int → Int) => (M 9 + 1 - z).toNat) (ws := fun (z : Int) (Mv : Int → Int) => [zO m0 6 [.ref m1, .ref m2, .int (iI st), .ref m3, .int (iI iss), .ref m4, .int (iI ty), .ref m5, .ref m6, .ref m7, .ref m8], zA cy m1 780 Mv, zA cy m5 3 hd, zA cy m6 32 g6, zA cy m7 96 g7]) (lv := fun (z : Int) (Mv : Int → Int) => [(0, .ref m0), (1, .int (iI k3))]) (M 10) (uZ g2 9 ((g2 9) + 1)) C ⟨⟨by omega, by omega⟩, (by rw [← e10, rlsM_0, h55_1, show k3 = 3 * p2 (M 0) by omega]; rfl), (by omega)⟩ wd (lv_sub hl [0, 1] rfl) ?_
        intro z Mv hP98 ih98 H locs ls wd hl
        obtain ⟨h98_0, h98_1, h98_2⟩ := hP98
        try dsimp only at h98_0 h98_1 h98_2
        have wd : Wd D (zT cy cs) _ s.heap s [zO m0 6 [.ref m1, .ref m2, .int (iI st), .ref m3, .int (iI iss), .ref m4, .int (iI ty), .ref m5, .ref m6, .ref m7, .ref m8], zA cy m1 780 Mv, zA cy m5 3 hd, zA cy m6 32 g6, zA cy m7 96 g7] H locs := wd
        have hl : lv_has ls 2 [(0, .ref m0), (1, .int (iI k3))] := hl
        have hv : ∀ j : Int, (j < 604 ∨ 684 ≤ j) → j ≠ 10 → Mv j = goM1 M hd j := fun j q1 q2 => by rw [h98_1]; exact rlsM_k _ _ z j q1 q2 (by omega) (by omega)
        have hv9 : Mv 9 = M 9 + 1 := by rw [hv 9 (by omega) (by omega), e9]
        have hv5 : Mv 5 = M 5 := by rw [hv 5 (by omega) (by omega), e5]
        have hv10 : Mv 10 = z := by rw [h98_1]; exact rlsM_10 _ _ z (by omega)
        have hvme : ∀ k : Int, 0 ≤ k → k < 32 → -1 ≤ Mv (572 + k) ∧ Mv (572 + k) ≤ 1000 := fun k q0 q1 => by rw [hv (572 + k) (by omega) (by omega)]; have q2 := goM1_met M hd k hm.1 hm.2 q0 q1; have q3 := mF_ok (tp := sl M 2) (f := hd) (q := 0) hm.1 hm.2 ho hme k q0 q1; rw [← q2] at q3; have q4 : sl (goM1 M hd) 572 k = goM1 M hd (572 + k) := rfl; omega
        have hvb : bst (sl Mv 572) (p2 (M 0)).toNat = bst (sl (goM1 M hd) 572) (p2 (M 0)).toNat := bst_cong (fun k q0 q1 => hv (572 + k) (by omega) (by omega))
        refine lv_aload_n C.1 C.2.1 dX6_go_98 rfl (lv_at hl 0 rfl) ?_
        refine z_get C wd (Cn := RX6) (TT := TX6) (N := 11) (ci := 6) iX6 0 rfl rfl 0 (by decide) L7 (fun _ h => h) rfl dX6_go_99 ?_
        refine z_bipush C dX6_go_102 (by decide +kernel) ?_
        refine z_iald C wd 1 rfl (by omega) (by decide) dX6_go_104 ?_
        refine lv_aload_n C.1 C.2.1 dX6_go_105 rfl (lv_at hl 0 rfl) ?_
        refine z_get C wd (Cn := RX6) (TT := TX6) (N := 11) (ci := 6) iX6 0 rfl rfl 0 (by decide) L7 (fun _ h => h) rfl dX6_go_106 ?_
        refine z_bipush C dX6_go_109 (by decide +kernel) ?_
        refine z_iald C wd 1 rfl (by omega) (by decide) dX6_go_111 ?_
        refine z_isub C dX6_go_112 ?_
        refine lv_aload_n C.1 C.2.1 dX6_go_113 rfl (lv_at hl 0 rfl) ?_
        refine z_get C wd (Cn := RX6) (TT := TX6) (N := 11) (ci := 6) iX6 0 rfl rfl 0 (by decide) L7 (fun _ h => h) rfl dX6_go_114 ?_
        refine z_iconst C dX6_go_117 ?_
        refine z_iald C wd 1 rfl (by omega) (by decide) dX6_go_118 ?_
        refine z_icmp_lt C (tgt := 133) dX6_go_119 (by decide) (by omega) (fun c_4 => ?_) (fun c_4 => ?_)
        · skip
          have wd := z_cell wd (ws2 := [zO m0 6 [.ref m1, .ref m2, .int (iI st), .ref m3, .int (iI iss), .ref m4, .int (iI ty), .ref m5, .ref m6, .ref m7, .ref m8], zA cy m1 780 (goM M hd), zA cy m5 3 hd, zA cy m6 32 g6, zA cy m7 96 g7]) 1 rfl (by intro j _ _; rw [h98_1, show z = nN (M 5) (M 9) (M 10) by omega]; rfl) rfl
          have wd := z_cell wd (ws2 := [zO m0 6 [.ref m1, .ref m2, .int (iI st), .ref m3, .int (iI iss), .ref m4, .int (iI ty), .ref m5, .ref m6, .ref m7, .ref m8], zA cy m1 780 (goM M hd), zA cy m5 3 hd, zA cy m6 32 (cpZ (nmM M hd) me (p2 (M 0))), zA cy m7 96 g7]) 3 rfl (by intro j _ _; rw [h2_1, hk2]) rfl
          have wd := z_cell wd (ws2 := [zO m0 6 [.ref m1, .ref m2, .int (iI st), .ref m3, .int (iI iss), .ref m4, .int (iI ty), .ref m5, .ref m6, .ref m7, .ref m8], zA cy m1 780 (goM M hd), zA cy m5 3 hd, zA cy m6 32 (cpZ (nmM M hd) me (p2 (M 0))), zA cy m7 96 (cpZ (wkA M hd) wk (3 * p2 (M 0)))]) 4 rfl (by intro j _ _; rw [h2_2, hk2]) rfl
          exact z_vret C hr hlk wd dX6_go_133
        · skip
          refine lv_aload_n C.1 C.2.1 dX6_go_122 rfl (lv_at hl 0 rfl) ?_
          refine lv_aload_n C.1 C.2.1 dX6_go_123 rfl (lv_at hl 0 rfl) ?_
          refine z_cvi C wd hA (As := []) (rest := [.ref m0]) (ws2 := [zO m0 6 [.ref m1, .ref m2, .int (iI st), .ref m3, .int (iI iss), .ref m4, .int (iI ty), .ref m5, .ref m6, .ref m7, .ref m8], zA cy m1 780 Mv, zA cy m5 3 hd, zA cy m6 32 g6, zA cy m7 96 g7]) (c_X6_bestState l D cy cs m0 m1 m2 m3 m4 m5 m6 m7 m8 st iss ty Mv (by rw [hv 0 (by omega) (by omega)]; rw [e0]; exact hm) (hvme)) (cwV 0 C.2.2.2.2 gX6_go_X6_bestState rfl rfl rfl (by decide +kernel) ⟨Nat.le_of_ble_eq_true rfl, Nat.le_of_ble_eq_true rfl⟩) [0, 1] rfl rfl rfl ⟨rfl, [2, 3, 4], [zA cy m5 3 hd, zA cy m6 32 g6, zA cy m7 96 g7], 5, rfl, rfl, rfl, by decide +kernel⟩ rfl rfl rfl rfl (Nat.le_of_ble_eq_true rfl) hl.1 dX6_go_124 ⟨Nat.zero_le _, Nat.zero_le _⟩ (fun H locs wd => ?_)
          refine z_top (b := bsM M hd) (by rw [hv 0 (by omega) (by omega), e0, hvb]; rfl) ?_
          refine z_cvv C wd hA (As := [.int (iI (bsM M hd))]) (rest := []) (ws2 := [zO m0 6 [.ref m1, .ref m2, .int (iI st), .ref m3, .int (iI iss), .ref m4, .int (iI ty), .ref m5, .ref m6, .ref m7, .ref m8], zA cy m1 780 (rl1 Mv (bsM M hd)), zA cy m5 3 hd, zA cy m6 32 g6, zA cy m7 96 g7]) (c_X6_release l D cy cs m0 m1 m2 m3 m4 m5 m6 m7 m8 st iss ty Mv (bsM M hd) (by omega) (by omega) (by rw [hv _ (by omega) (by omega)]; exact hwd1 (bsM M hd) (Mv 10 / 30) (by omega) (by omega) (by omega) (by omega))) (cwV 1 C.2.2.2.2 gX6_go_X6_release rfl rfl rfl (by decide +kernel) ⟨Nat.le_of_ble_eq_true rfl, Nat.le_of_ble_eq_true rfl⟩) [0, 1] rfl rfl rfl ⟨rfl, [2, 3, 4], [zA cy m5 3 hd, zA cy m6 32 g6, zA cy m7 96 g7], 5, rfl, rfl, rfl, by decide +kernel⟩ rfl rfl rfl rfl (Nat.le_of_ble_eq_true rfl) hl.1 dX6_go_127 ⟨Nat.zero_le _, Nat.zero_le _⟩ (fun H locs wd => ?_)
          refine z_goto C (tgt := 98) dX6_go_130 (by decide) ?_
          exact ih98 (z + 1) (rl1 Mv (bsM M hd)) ⟨(by omega), (by rw [h98_1]; exact rlsM_step _ _ z (by omega) (by omega) (by omega) hbs), (by omega)⟩ (by omega) H locs _ wd (lv_sub hl [0, 1] rfl)
      · skip
        refine lv_aload_n C.1 C.2.1 dX6_go_65 rfl (lv_at hl 0 rfl) ?_
        refine z_get C wd (Cn := RX6) (TT := TX6) (N := 11) (ci := 6) iX6 0 rfl rfl 0 (by decide) L7 (fun _ h => h) rfl dX6_go_66 ?_
        refine z_sipush C dX6_go_69 (by decide +kernel) ?_
        refine lv_iload_n C.1 C.2.1 dX6_go_72 rfl (lv_at hl 1 rfl) ?_
        refine z_iadd C dX6_go_73 ?_
        refine lv_aload_n C.1 C.2.1 dX6_go_74 rfl (lv_at hl 0 rfl) ?_
        refine z_get C wd (Cn := RX6) (TT := TX6) (N := 11) (ci := 6) iX6 0 rfl rfl 9 (by decide) L28 (fun _ h => h) rfl dX6_go_75 ?_
        refine lv_iload_n C.1 C.2.1 dX6_go_78 rfl (lv_at hl 1 rfl) ?_
        refine z_iald C wd 4 rfl (by omega) (by decide) dX6_go_79 ?_
        refine z_top (b := wkA M hd k3) (by rw [h2_2, hk2]; exact if_pos (by omega)) ?_
        refine z_iast C wd (ws2 := [zO m0 6 [.ref m1, .ref m2, .int (iI st), .ref m3, .int (iI iss), .ref m4, .int (iI ty), .ref m5, .ref m6, .ref m7, .ref m8], zA cy m1 780 (uZ g2 (684 + k3) (wkA M hd k3)), zA cy m5 3 hd, zA cy m6 32 g6, zA cy m7 96 g7]) 1 rfl (by omega) (by decide) rfl dX6_go_80 (fun H locs wd => ?_)
        refine z_iinc C (lv' := [(1, .int (iI (k3 + 1))), (0, .ref m0)]) hl 1 dX6_go_81 rfl (by decide) rfl (fun ls hl => ?_)
        refine z_goto C (tgt := 55) dX6_go_84 (by decide) ?_
        exact ih55 (k3 + 1) (uZ g2 (684 + k3) (wkA M hd k3)) ⟨(by omega), (by rw [h55_1]; exact wrS_step _ _ _ _ h55_0.1)⟩ (by omega) H locs _ wd (lv_sub hl [1, 0] rfl)
    · skip
      refine lv_aload_n C.1 C.2.1 dX6_go_31 rfl (lv_at hl 0 rfl) ?_
      refine z_get C wd (Cn := RX6) (TT := TX6) (N := 11) (ci := 6) iX6 0 rfl rfl 0 (by decide) L7 (fun _ h => h) rfl dX6_go_32 ?_
      refine z_sipush C dX6_go_35 (by decide +kernel) ?_
      refine lv_iload_n C.1 C.2.1 dX6_go_38 rfl (lv_at hl 1 rfl) ?_
      refine z_iadd C dX6_go_39 ?_
      refine lv_aload_n C.1 C.2.1 dX6_go_40 rfl (lv_at hl 0 rfl) ?_
      refine z_get C wd (Cn := RX6) (TT := TX6) (N := 11) (ci := 6) iX6 0 rfl rfl 8 (by decide) L25 (fun _ h => h) rfl dX6_go_41 ?_
      refine lv_iload_n C.1 C.2.1 dX6_go_44 rfl (lv_at hl 1 rfl) ?_
      refine z_iald C wd 3 rfl (by omega) (by decide) dX6_go_45 ?_
      refine z_top (b := nmM M hd k2) (by rw [h2_1, hk2]; exact if_pos (by omega)) ?_
      refine z_iast C wd (ws2 := [zO m0 6 [.ref m1, .ref m2, .int (iI st), .ref m3, .int (iI iss), .ref m4, .int (iI ty), .ref m5, .ref m6, .ref m7, .ref m8], zA cy m1 780 (uZ g (572 + k2) (nmM M hd k2)), zA cy m5 3 hd, zA cy m6 32 g6, zA cy m7 96 g7]) 1 rfl (by omega) (by decide) rfl dX6_go_46 (fun H locs wd => ?_)
      refine z_iinc C (lv' := [(1, .int (iI (k2 + 1))), (0, .ref m0)]) hl 1 dX6_go_47 rfl (by decide) rfl (fun ls hl => ?_)
      refine z_goto C (tgt := 23) dX6_go_50 (by decide) ?_
      exact ih23 (k2 + 1) (uZ g (572 + k2) (nmM M hd k2)) ⟨(by omega), (by rw [h23_1]; exact wrS_step _ _ _ _ h23_0.1)⟩ (by omega) H locs _ wd (lv_sub hl [1, 0] rfl)
  · skip
    refine lv_aload_n C.1 C.2.1 dX6_go_10 rfl (lv_at hl 0 rfl) ?_
    refine lv_iload_n C.1 C.2.1 dX6_go_11 rfl (lv_at hl 1 rfl) ?_
    refine z_cvv C wd hA (As := [.int (iI k)]) (rest := []) (ws2 := [zO m0 6 [.ref m1, .ref m2, .int (iI st), .ref m3, .int (iI iss), .ref m4, .int (iI ty), .ref m5, .ref m6, .ref m7, .ref m8], zA cy m1 780 M, zA cy m5 3 hd, zA cy m6 32 (uZ g6 k (nmM M hd k)), zA cy m7 96 (wrS g7 (3 * k) 3 (wkF M hd k))]) (c_X6_lay l D cy cs m0 m1 m2 m3 m4 m5 m6 m7 m8 st iss ty M k hd g6 g7 (by omega) (by omega) ht hhd (by omega) hme hwd (by omega)) (cwV 1 C.2.2.2.2 gX6_go_X6_lay rfl rfl rfl (by decide +kernel) ⟨Nat.le_of_ble_eq_true rfl, Nat.le_of_ble_eq_true rfl⟩) [0, 1, 2, 3, 4] rfl rfl rfl ⟨rfl, [], [], 5, rfl, rfl, rfl, by decide +kernel⟩ rfl rfl rfl rfl (Nat.le_of_ble_eq_true rfl) hl.1 dX6_go_12 ⟨Nat.zero_le _, Nat.zero_le _⟩ (fun H locs wd => ?_)
    refine z_iinc C (lv' := [(1, .int (iI (k + 1))), (0, .ref m0)]) hl 1 dX6_go_15 rfl (by decide) rfl (fun ls hl => ?_)
    refine z_goto C (tgt := 2) dX6_go_18 (by decide) ?_
    exact ih2 (k + 1) (uZ g6 k (nmM M hd k)) (wrS g7 (3 * k) 3 (wkF M hd k)) ⟨(by omega), (by rw [h2_1]; exact cpZ_step (nmM M hd) me k h2_0.1), (by rw [h2_2]; exact wkA_step wk M hd k h2_0.1)⟩ (by omega) H locs _ wd (lv_sub hl [1, 0] rfl)
