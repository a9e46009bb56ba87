set_option maxRecDepth 100000 in
set_option maxHeartbeats 4000000 in
theorem c_mhearA (l : Launch) (D : va_G) (cy cs : ClassId) (m0 m1 m2 m3 m4 m5 m6 m7 m8 : Nat) (st iss ty : Int) (M : Int → Int) (Hs : Int → Int) (n : Int) (tx hd me wk : Int → Int) (hst : 0 ≤ st ∧ st ≤ 4) (hrk : rdOk M) (hhd0 : hdOk hd) (hty : 1 ≤ ty ∧ ty ≤ 60) (htx : ∀ k : Int, 0 ≤ k → k < 60 → 0 ≤ tx k ∧ tx k < 65536) (hff : ff (fun z9 => vc (tx z9)) ty (1 + 1) = -1) (hfb : ∀ k : Int, 0 ≤ k → k < ty → 0 ≤ hv (tx k) ∧ hv (tx k) ≤ 2) (hn : ty = n * M 1) (hn0 : 0 ≤ n ∧ n ≤ 60) (h11 : M 11 = 0) (h80 : M 9 + n ≤ 80) : zXi l D (zT cy cs) yX6_hear wsX6_hear ({ frames := 4, cells := 0, slots := 0, locals := 96 } : Room) [.ref m0] [zO m0 6 [.ref m1, .ref m2, .int (iI st), .ref m3, .int (iI iss), .ref m4, .int (iI ty), .ref m5, .ref m6, .ref m7, .ref m8], zA cy m1 780 M, zA cy m2 3120 Hs, zA cy m5 3 hd, zA cy m6 32 me, zA cy m7 96 wk, zA cy m4 60 tx] ((hrN M (fun z9 => hv (tx z9)) n.toNat) 10) (fun (u9 : (Int → Int) × (Int → Int) × (Int → Int)) => hdOk u9.1) (fun (u9 : (Int → Int) × (Int → Int) × (Int → Int)) => [zO m0 6 [.ref m1, .ref m2, .int (iI (pn st)), .ref m3, .int (iI iss), .ref m4, .int (iI ty), .ref m5, .ref m6, .ref m7, .ref m8], zA cy m1 780 (hrN M (fun z9 => hv (tx z9)) n.toNat), zA cy m2 3120 (recH M Hs st), zA cy m5 3 u9.1, zA cy m6 32 u9.2.1, zA cy m7 96 u9.2.2, zA cy m4 60 tx]) := by
  intro sz
  refine zM_mk (cc := cX6_hear) (maxL := 4) (ret := (some .int)) (own := RX6) (Qc := fun sz => va_Qi (fun r (u9 : (Int → Int) × (Int → Int) × (Int → Int)) => r = iI ((hrN M (fun z9 => hv (tx z9)) n.toNat) 10) ∧ hdOk u9.1) (fun u9 t9 => zQ D (zT cy cs) (va_A [zO m0 6 [.ref m1, .ref m2, .int (iI st), .ref m3, .int (iI iss), .ref m4, .int (iI ty), .ref m5, .ref m6, .ref m7, .ref m8], zA cy m1 780 M, zA cy m2 3120 Hs, zA cy m5 3 hd, zA cy m6 32 me, zA cy m7 96 wk, zA cy m4 60 tx] sz) [zO m0 6 [.ref m1, .ref m2, .int (iI (pn st)), .ref m3, .int (iI iss), .ref m4, .int (iI ty), .ref m5, .ref m6, .ref m7, .ref m8], zA cy m1 780 (hrN M (fun z9 => hv (tx z9)) n.toNat), zA cy m2 3120 (recH M Hs st), zA cy m5 3 u9.1, zA cy m6 32 u9.2.1, zA cy m7 96 u9.2.2, zA cy m4 60 tx] t9) (va_A [zO m0 6 [.ref m1, .ref m2, .int (iI st), .ref m3, .int (iI iss), .ref m4, .int (iI ty), .ref m5, .ref m6, .ref m7, .ref m8], zA cy m1 780 M, zA cy m2 3120 Hs, zA cy m5 3 hd, zA cy m6 32 me, zA cy m7 96 wk, zA cy m4 60 tx] sz)) (by decide) rfl rfl (Nat.le_of_ble_eq_true rfl) rfl sz ?_
  intro p e s m args below meth c ls C hr hlk hnm hl hsz hA wd
  subst hsz
  have hl : lv_has ls 4 [(0, .ref m0)] := hl
  have iX6 : ∀ w ∈ u_ws RX6 TX6 11, w ∈ wsX6_hear := by decide +kernel
  have L7 := C.2.2.2.2 (.fieldLink RX6 7 "LikelyWalksModel" "now" "[I") (by decide +kernel)
  have L19 := C.2.2.2.2 (.fieldLink RX6 19 "LikelyWalksModel" "text" "[I") (by decide +kernel)
  have L22 := C.2.2.2.2 (.fieldLink RX6 22 "LikelyWalksModel" "heard" "[I") (by decide +kernel)
  have L56 := C.2.2.2.2 (.fieldLink RX6 56 "LikelyWalksModel" "typed" "I") (by decide +kernel)
  obtain ⟨hm, ho, ht, h5, h9, hN, hme, hwd, hbs⟩ := id hrk
  have hmod : ty % M 1 = 0 := by rw [hn]; exact Int.mul_emod_left n (M 1)
  have hdiv : ty / M 1 = n := by rw [hn]; exact Int.mul_ediv_cancel n (by omega)
  refine lv_aload_n C.1 C.2.1 dX6_hear_0 rfl (lv_at hl 0 rfl) ?_
  refine z_iconst C dX6_hear_1 ?_
  refine z_cvi C wd hA (As := [.int (iI 1)]) (rest := []) (ws2 := [zO m0 6 [.ref m1, .ref m2, .int (iI st), .ref m3, .int (iI iss), .ref m4, .int (iI ty), .ref m5, .ref m6, .ref m7, .ref m8], zA cy m1 780 M, zA cy m2 3120 Hs, zA cy m5 3 hd, zA cy m6 32 me, zA cy m7 96 wk, zA cy m4 60 tx]) (c_X6_fault l D cy cs m0 m1 m2 m3 m4 m5 m6 m7 m8 st iss ty (fun _ => 0) 1 tx (by omega) (by omega) htx) (cwV 1 C.2.2.2.2 gX6_hear_X6_fault rfl rfl rfl (by decide +kernel) ⟨Nat.le_of_ble_eq_true rfl, Nat.le_of_ble_eq_true rfl⟩) [0, 6] rfl rfl rfl ⟨rfl, [1, 2, 3, 4, 5], [zA cy m1 780 M, zA cy m2 3120 Hs, zA cy m5 3 hd, zA cy m6 32 me, zA cy m7 96 wk], 7, rfl, rfl, rfl, by decide +kernel⟩ rfl rfl rfl rfl (Nat.le_of_ble_eq_true rfl) hl.1 dX6_hear_2 ⟨Nat.zero_le _, Nat.zero_le _⟩ (fun H locs wd => ?_)
  refine lv_istore_n (lv' := [(1, .int (iI (ff (fun z9 => vc (tx z9)) ty (1 + 1)))), (0, .ref m0)]) C.1 C.2.1 dX6_hear_5 rfl hl (by decide) rfl (fun ls hl => ?_)
  refine lv_iload_n C.1 C.2.1 dX6_hear_6 rfl (lv_at hl 0 rfl) ?_
  refine z_if_lt C (tgt := 15) dX6_hear_7 (by decide) (by omega) (fun c_1 => ?_) (fun c_1 => ?_)
  · skip
    refine lv_aload_n C.1 C.2.1 dX6_hear_15 rfl (lv_at hl 1 rfl) ?_
    refine z_get C wd (Cn := RX6) (TT := TX6) (N := 11) (ci := 6) iX6 0 rfl rfl 6 (by decide) L56 (fun _ h => h) rfl dX6_hear_16 ?_
    refine lv_aload_n C.1 C.2.1 dX6_hear_19 rfl (lv_at hl 1 rfl) ?_
    refine z_get C wd (Cn := RX6) (TT := TX6) (N := 11) (ci := 6) iX6 0 rfl rfl 0 (by decide) L7 (fun _ h => h) rfl dX6_hear_20 ?_
    refine z_iconst C dX6_hear_23 ?_
    refine z_iald C wd 1 rfl (by omega) (by decide) dX6_hear_24 ?_
    refine z_irem C dX6_hear_25 (by omega) ?_
    refine z_if_le C (tgt := 32) dX6_hear_26 (by decide) (by omega) (fun c_2 => ?_) (fun c_2 => ?_)
    · skip
      refine lv_aload_n C.1 C.2.1 dX6_hear_32 rfl (lv_at hl 1 rfl) ?_
      refine z_get C wd (Cn := RX6) (TT := TX6) (N := 11) (ci := 6) iX6 0 rfl rfl 0 (by decide) L7 (fun _ h => h) rfl dX6_hear_33 ?_
      refine z_bipush C dX6_hear_36 (by decide +kernel) ?_
      refine z_iald C wd 1 rfl (by omega) (by decide) dX6_hear_38 ?_
      refine z_iconst C dX6_hear_39 ?_
      refine z_icmp_ne C (tgt := 46) dX6_hear_40 (by decide) (by omega) (fun c_3 => ?_) (fun c_3 => ?_)
      · skip
        refine lv_aload_n C.1 C.2.1 dX6_hear_46 rfl (lv_at hl 1 rfl) ?_
        refine z_get C wd (Cn := RX6) (TT := TX6) (N := 11) (ci := 6) iX6 0 rfl rfl 0 (by decide) L7 (fun _ h => h) rfl dX6_hear_47 ?_
        refine z_bipush C dX6_hear_50 (by decide +kernel) ?_
        refine z_iald C wd 1 rfl (by omega) (by decide) dX6_hear_52 ?_
        refine lv_aload_n C.1 C.2.1 dX6_hear_53 rfl (lv_at hl 1 rfl) ?_
        refine z_get C wd (Cn := RX6) (TT := TX6) (N := 11) (ci := 6) iX6 0 rfl rfl 6 (by decide) L56 (fun _ h => h) rfl dX6_hear_54 ?_
        refine lv_aload_n C.1 C.2.1 dX6_hear_57 rfl (lv_at hl 1 rfl) ?_
        refine z_get C wd (Cn := RX6) (TT := TX6) (N := 11) (ci := 6) iX6 0 rfl rfl 0 (by decide) L7 (fun _ h => h) rfl dX6_hear_58 ?_
        refine z_iconst C dX6_hear_61 ?_
        refine z_iald C wd 1 rfl (by omega) (by decide) dX6_hear_62 ?_
        refine z_idiv C dX6_hear_63 (by omega) ?_
        refine z_top (b := n) hdiv ?_
        refine z_iadd C dX6_hear_64 ?_
        refine z_bipush C dX6_hear_65 (by decide +kernel) ?_
        refine z_icmp_le C (tgt := 73) dX6_hear_67 (by decide) (by omega) (fun c_4 => ?_) (fun c_4 => ?_)
        · skip
          refine lv_aload_n C.1 C.2.1 dX6_hear_73 rfl (lv_at hl 1 rfl) ?_
          refine z_cvv C wd hA (As := []) (rest := []) (ws2 := [zO m0 6 [.ref m1, .ref m2, .int (iI (pn st)), .ref m3, .int (iI iss), .ref m4, .int (iI ty), .ref m5, .ref m6, .ref m7, .ref m8], zA cy m1 780 M, zA cy m2 3120 (recH M Hs st), zA cy m5 3 hd, zA cy m6 32 me, zA cy m7 96 wk, zA cy m4 60 tx]) (c_X6_record l D cy cs m0 m1 m2 m3 m4 m5 m6 m7 m8 st iss ty M Hs (by omega)) (cwV 0 C.2.2.2.2 gX6_hear_X6_record rfl rfl rfl (by decide +kernel) ⟨Nat.le_of_ble_eq_true rfl, Nat.le_of_ble_eq_true rfl⟩) [0, 1, 2] rfl rfl rfl ⟨rfl, [3, 4, 5, 6], [zA cy m5 3 hd, zA cy m6 32 me, zA cy m7 96 wk, zA cy m4 60 tx], 7, rfl, rfl, rfl, by decide +kernel⟩ rfl rfl rfl rfl (Nat.le_of_ble_eq_true rfl) hl.1 dX6_hear_74 ⟨Nat.zero_le _, Nat.zero_le _⟩ (fun H locs wd => ?_)
          refine z_iconst C dX6_hear_77 ?_
          refine lv_istore_n (lv' := [(2, .int (iI 0)), (1, .int (iI (ff (fun z9 => vc (tx z9)) ty (1 + 1)))), (0, .ref m0)]) C.1 C.2.1 dX6_hear_78 rfl hl (by decide) rfl (fun ls hl => ?_)
          refine z_loop6 (P := fun (k : Int) (x : Int) (Mv : Int → Int) (h5v : Int → Int) (h6v : Int → Int) (h7v : Int → Int) => (0 ≤ k ∧ k ≤ n) ∧ (Mv = hrN M (fun z9 => hv (tx z9)) k.toNat) ∧ (hdOk h5v) ∧ (0 ≤ x) ∧ (x = k * M 1)) (mu := fun (k : Int) (x : Int) (Mv : Int → Int) (h5v : Int → Int) (h6v : Int → Int) (h7v : Int → Int) => (n - k).toNat) (ws := fun (k : Int) (x : Int) (Mv : Int → Int) (h5v : Int → Int) (h6v : Int → Int) (h7v : Int → Int) => [zO m0 6 [.ref m1, .ref m2, .int (iI (pn st)), .ref m3, .int (iI iss), .ref m4, .int (iI ty), .ref m5, .ref m6, .ref m7, .ref m8], zA cy m1 780 Mv, zA cy m2 3120 (recH M Hs st), zA cy m5 3 h5v, zA cy m6 32 h6v, zA cy m7 96 h7v, zA cy m4 60 tx]) (lv := fun (k : Int) (x : Int) (Mv : Int → Int) (h5v : Int → Int) (h6v : Int → Int) (h7v : Int → Int) => [(0, .ref m0), (2, .int (iI x))]) 0 0 M hd me wk C ⟨(by omega), rfl, hhd0, (by omega), (Int.zero_mul _).symm⟩ wd (lv_sub hl [2, 0] rfl) ?_
          intro k x Mv h5v h6v h7v hP79 ih79 H locs ls wd hl
          obtain ⟨h79_0, h79_1, h79_2, h79_3, h79_4⟩ := hP79
          try dsimp only at h79_0 h79_1 h79_2 h79_3 h79_4
          have wd : Wd D (zT cy cs) _ s.heap s [zO m0 6 [.ref m1, .ref m2, .int (iI (pn st)), .ref m3, .int (iI iss), .ref m4, .int (iI ty), .ref m5, .ref m6, .ref m7, .ref m8], zA cy m1 780 Mv, zA cy m2 3120 (recH M Hs st), zA cy m5 3 h5v, zA cy m6 32 h6v, zA cy m7 96 h7v, zA cy m4 60 tx] H locs := wd
          have hl : lv_has ls 4 [(0, .ref m0), (2, .int (iI x))] := hl
          have hvo := hrN_ok (g := (fun z9 => hv (tx z9))) hrk k.toNat (by omega)
          rw [← h79_1, Int.toNat_of_nonneg h79_0.1] at hvo
          have hv1 : Mv 1 = M 1 := hvo.2.2 1 (by omega) (by omega) (by omega)
          have hkO : k < n → k * M 1 + M 1 ≤ n * M 1 := fun q => kO_le q ho
          have hkE : k = n → k * M 1 = n * M 1 := fun q => by rw [q]
          have hv9 := hvo.2.1
          refine lv_iload_n C.1 C.2.1 dX6_hear_79 rfl (lv_at hl 1 rfl) ?_
          refine lv_aload_n C.1 C.2.1 dX6_hear_80 rfl (lv_at hl 0 rfl) ?_
          refine z_get C wd (Cn := RX6) (TT := TX6) (N := 11) (ci := 6) iX6 0 rfl rfl 6 (by decide) L56 (fun _ h => h) rfl dX6_hear_81 ?_
          refine z_icmp_ge C (tgt := 155) dX6_hear_84 (by decide) (by omega) (fun c_5 => ?_) (fun c_5 => ?_)
          · skip
            refine lv_aload_n C.1 C.2.1 dX6_hear_155 rfl (lv_at hl 0 rfl) ?_
            refine z_get C wd (Cn := RX6) (TT := TX6) (N := 11) (ci := 6) iX6 0 rfl rfl 0 (by decide) L7 (fun _ h => h) rfl dX6_hear_156 ?_
            refine z_bipush C dX6_hear_159 (by decide +kernel) ?_
            refine z_iald C wd 1 rfl (by omega) (by decide) dX6_hear_161 ?_
            have wd := z_cell wd (ws2 := [zO m0 6 [.ref m1, .ref m2, .int (iI (pn st)), .ref m3, .int (iI iss), .ref m4, .int (iI ty), .ref m5, .ref m6, .ref m7, .ref m8], zA cy m1 780 (hrN M (fun z9 => hv (tx z9)) n.toNat), zA cy m2 3120 (recH M Hs st), zA cy m5 3 h5v, zA cy m6 32 h6v, zA cy m7 96 h7v, zA cy m4 60 tx]) 1 rfl (by intro j _ _; rw [h79_1, show k = n by omega]) rfl
            exact z_iretX C hr hlk (h5v, h6v, h7v) h79_2 wd (by rw [h79_1, show k = n by omega]) dX6_hear_162
          · skip
            refine z_iconst C dX6_hear_87 ?_
            refine lv_istore_n (lv' := [(3, .int (iI 0)), (0, .ref m0), (2, .int (iI x))]) C.1 C.2.1 dX6_hear_88 rfl hl (by decide) rfl (fun ls hl => ?_)
            refine z_loop2 (P := fun (y : Int) (f5 : Int → Int) => (0 ≤ y ∧ y ≤ Mv 1) ∧ (f5 = wrS h5v 0 y (fun z9 => hv (tx (x + z9))))) (mu := fun (y : Int) (f5 : Int → Int) => (Mv 1 - y).toNat) (ws := fun (y : Int) (f5 : Int → Int) => [zO m0 6 [.ref m1, .ref m2, .int (iI (pn st)), .ref m3, .int (iI iss), .ref m4, .int (iI ty), .ref m5, .ref m6, .ref m7, .ref m8], zA cy m1 780 Mv, zA cy m2 3120 (recH M Hs st), zA cy m5 3 f5, zA cy m6 32 h6v, zA cy m7 96 h7v, zA cy m4 60 tx]) (lv := fun (y : Int) (f5 : Int → Int) => [(0, .ref m0), (2, .int (iI x)), (3, .int (iI y))]) 0 h5v C ⟨(by omega), (wrS_0 _ _ _).symm⟩ wd (lv_sub hl [1, 2, 0] rfl) ?_
            intro y f5 hP89 ih89 H locs ls wd hl
            obtain ⟨h89_0, h89_1⟩ := hP89
            try dsimp only at h89_0 h89_1
            have wd : Wd D (zT cy cs) _ s.heap s [zO m0 6 [.ref m1, .ref m2, .int (iI (pn st)), .ref m3, .int (iI iss), .ref m4, .int (iI ty), .ref m5, .ref m6, .ref m7, .ref m8], zA cy m1 780 Mv, zA cy m2 3120 (recH M Hs st), zA cy m5 3 f5, zA cy m6 32 h6v, zA cy m7 96 h7v, zA cy m4 60 tx] H locs := wd
            have hl : lv_has ls 4 [(0, .ref m0), (2, .int (iI x)), (3, .int (iI y))] := hl
            have hg5 : hdOk f5 := by rw [h89_1]; exact hear_hd h79_2 (fun q q0 q1 => by have q2 := hfb (x + q) (by omega) (by omega); omega)
            refine lv_iload_n C.1 C.2.1 dX6_hear_89 rfl (lv_at hl 2 rfl) ?_
            refine lv_aload_n C.1 C.2.1 dX6_hear_90 rfl (lv_at hl 0 rfl) ?_
            refine z_get C wd (Cn := RX6) (TT := TX6) (N := 11) (ci := 6) iX6 0 rfl rfl 0 (by decide) L7 (fun _ h => h) rfl dX6_hear_91 ?_
            refine z_iconst C dX6_hear_94 ?_
            refine z_iald C wd 1 rfl (by omega) (by decide) dX6_hear_95 ?_
            refine z_icmp_ge C (tgt := 139) dX6_hear_96 (by decide) (by omega) (fun c_6 => ?_) (fun c_6 => ?_)
            · skip
              refine lv_aload_n C.1 C.2.1 dX6_hear_139 rfl (lv_at hl 0 rfl) ?_
              have hv2 := And.intro hvo.1 True.intro
              have hhd9 : hdOk f5 := hg5
              have hcg : goM Mv f5 = goM Mv (fun z9 => hv (tx (k * M 1 + z9))) := goM_cong (fun q q0 q1 => by rw [h89_1, h79_4]; unfold wrS; rw [if_pos (by omega), Int.sub_zero])
              have hbs9 := bsM_pos f5 hvo.1
              have hd5 := hvo.1.2.2.2.1
              have hd10 := hvo.1.2.2.2.2.2.1
              have hd0 := hvo.1.1
              have hd1 := hvo.1.2.1
              refine z_cvv C wd hA (As := []) (rest := []) (ws2 := [zO m0 6 [.ref m1, .ref m2, .int (iI (pn st)), .ref m3, .int (iI iss), .ref m4, .int (iI ty), .ref m5, .ref m6, .ref m7, .ref m8], zA cy m1 780 (goM Mv f5), zA cy m2 3120 (recH M Hs st), zA cy m5 3 f5, zA cy m6 32 (cpZ (nmM Mv f5) h6v (p2 (Mv 0))), zA cy m7 96 (cpZ (wkA Mv f5) h7v (3 * p2 (Mv 0))), zA cy m4 60 tx]) (c_X6_go l D cy cs m0 m1 m2 m3 m4 m5 m6 m7 m8 (pn st) iss ty Mv f5 h6v h7v (by omega) (by omega) hv2.1.2.2.1 hhd9 (by omega) hv2.1.2.2.2.2.2.2.1 hv2.1.2.2.2.2.2.2.2.1 (by omega) (by omega) hbs9) (cwV 0 C.2.2.2.2 gX6_hear_X6_go rfl rfl rfl (by decide +kernel) ⟨Nat.le_of_ble_eq_true rfl, Nat.le_of_ble_eq_true rfl⟩) [0, 1, 3, 4, 5] rfl rfl rfl ⟨rfl, [2, 6], [zA cy m2 3120 (recH M Hs st), zA cy m4 60 tx], 7, rfl, rfl, rfl, by decide +kernel⟩ rfl rfl rfl rfl (Nat.le_of_ble_eq_true rfl) hl.1 dX6_hear_140 ⟨Nat.zero_le _, Nat.zero_le _⟩ (fun H locs wd => ?_)
              have hgo1 : goM Mv f5 1 = Mv 1 := goM_low hvo.1 (by omega) (by omega) (by omega) (by omega)
              refine lv_iload_n C.1 C.2.1 dX6_hear_143 rfl (lv_at hl 1 rfl) ?_
              refine lv_aload_n C.1 C.2.1 dX6_hear_144 rfl (lv_at hl 0 rfl) ?_
              refine z_get C wd (Cn := RX6) (TT := TX6) (N := 11) (ci := 6) iX6 0 rfl rfl 0 (by decide) L7 (fun _ h => h) rfl dX6_hear_145 ?_
              refine z_iconst C dX6_hear_148 ?_
              refine z_iald C wd 1 rfl (by omega) (by decide) dX6_hear_149 ?_
              refine z_iadd C dX6_hear_150 ?_
              refine lv_istore_n (lv' := [(2, .int (iI (x + ((goM Mv f5) 1)))), (0, .ref m0), (3, .int (iI y))]) C.1 C.2.1 dX6_hear_151 rfl hl (by decide) rfl (fun ls hl => ?_)
              refine z_goto C (tgt := 79) dX6_hear_152 (by decide) ?_
              exact ih79 (k + 1) (x + ((goM Mv f5) 1)) (goM Mv f5) f5 (cpZ (nmM Mv f5) h6v (p2 (Mv 0))) (cpZ (wkA Mv f5) h7v (3 * p2 (Mv 0))) ⟨(by omega), (by rw [hcg, h79_1]; exact (hrN_at M (fun z9 => hv (tx z9)) h79_0.1).symm), hg5, (by omega), (by rw [Int.add_mul, Int.one_mul]; omega)⟩ (by omega) H locs _ wd (lv_sub hl [1, 0] rfl)
            · skip
              refine lv_aload_n C.1 C.2.1 dX6_hear_99 rfl (lv_at hl 0 rfl) ?_
              refine z_join1 (nL := 4) (D := D) (T := zT cy cs) (A := va_A [zO m0 6 [.ref m1, .ref m2, .int (iI st), .ref m3, .int (iI iss), .ref m4, .int (iI ty), .ref m5, .ref m6, .ref m7, .ref m8], zA cy m1 780 M, zA cy m2 3120 Hs, zA cy m5 3 hd, zA cy m6 32 me, zA cy m7 96 wk, zA cy m4 60 tx] s.heap.size) (H0 := s.heap) (P := fun (v : Int) => (v = hv (tx (x + y)))) (ws := fun (v : Int) => [zO m0 6 [.ref m1, .ref m2, .int (iI (pn st)), .ref m3, .int (iI iss), .ref m4, .int (iI ty), .ref m5, .ref m6, .ref m7, .ref m8], zA cy m1 780 Mv, zA cy m2 3120 (recH M Hs st), zA cy m5 3 f5, zA cy m6 32 h6v, zA cy m7 96 h7v, zA cy m4 60 tx]) (lv := fun (v : Int) => [(0, .ref m0), (2, .int (iI x)), (3, .int (iI y))]) (stj := fun (v : Int) => [.int (iI v), .int (iI y), .ref m5]) 132 ?_ (fun jn132 => ?_)
              · skip
                intro v hP132 H locs ls wd hl
                have h132_0 := hP132
                try dsimp only at h132_0
                have wd : Wd D (zT cy cs) _ s.heap s [zO m0 6 [.ref m1, .ref m2, .int (iI (pn st)), .ref m3, .int (iI iss), .ref m4, .int (iI ty), .ref m5, .ref m6, .ref m7, .ref m8], zA cy m1 780 Mv, zA cy m2 3120 (recH M Hs st), zA cy m5 3 f5, zA cy m6 32 h6v, zA cy m7 96 h7v, zA cy m4 60 tx] H locs := wd
                have hl : lv_has ls 4 [(0, .ref m0), (2, .int (iI x)), (3, .int (iI y))] := hl
                refine z_iast C wd (ws2 := [zO m0 6 [.ref m1, .ref m2, .int (iI (pn st)), .ref m3, .int (iI iss), .ref m4, .int (iI ty), .ref m5, .ref m6, .ref m7, .ref m8], zA cy m1 780 Mv, zA cy m2 3120 (recH M Hs st), zA cy m5 3 (uZ f5 y v), zA cy m6 32 h6v, zA cy m7 96 h7v, zA cy m4 60 tx]) 3 rfl (by omega) (by decide) rfl dX6_hear_132 (fun H locs wd => ?_)
                refine z_iinc C (lv' := [(3, .int (iI (y + 1))), (0, .ref m0), (2, .int (iI x))]) hl 2 dX6_hear_133 rfl (by decide) rfl (fun ls hl => ?_)
                refine z_goto C (tgt := 89) dX6_hear_136 (by decide) ?_
                exact ih89 (y + 1) (uZ f5 y v) ⟨(by omega), (by rw [h89_1, ← wrS_step h5v 0 y (fun z9 => hv (tx (x + z9))) h89_0.1, Int.zero_add, h132_0])⟩ (by omega) H locs _ wd (lv_sub hl [1, 2, 0] rfl)
              have hxt := htx (x + y) (by omega) (by omega)
              have hhv : hv (tx (x + y)) = if tx (x + y) = 63 then 2 else tx (x + y) - 48 := rfl
              refine z_get C wd (Cn := RX6) (TT := TX6) (N := 11) (ci := 6) iX6 0 rfl rfl 7 (by decide) L22 (fun _ h => h) rfl dX6_hear_100 ?_
              refine lv_iload_n C.1 C.2.1 dX6_hear_103 rfl (lv_at hl 2 rfl) ?_
              refine lv_aload_n C.1 C.2.1 dX6_hear_104 rfl (lv_at hl 0 rfl) ?_
              refine z_get C wd (Cn := RX6) (TT := TX6) (N := 11) (ci := 6) iX6 0 rfl rfl 5 (by decide) L19 (fun _ h => h) rfl dX6_hear_105 ?_
              refine lv_iload_n C.1 C.2.1 dX6_hear_108 rfl (lv_at hl 1 rfl) ?_
              refine lv_iload_n C.1 C.2.1 dX6_hear_109 rfl (lv_at hl 2 rfl) ?_
              refine z_iadd C dX6_hear_110 ?_
              refine z_iald C wd 6 rfl (by omega) (by decide) dX6_hear_111 ?_
              refine z_bipush C dX6_hear_112 (by decide +kernel) ?_
              refine z_icmp_ne C (tgt := 121) dX6_hear_114 (by decide) (by omega) (fun c_7 => ?_) (fun c_7 => ?_)
              · skip
                refine lv_aload_n C.1 C.2.1 dX6_hear_121 rfl (lv_at hl 0 rfl) ?_
                refine z_get C wd (Cn := RX6) (TT := TX6) (N := 11) (ci := 6) iX6 0 rfl rfl 5 (by decide) L19 (fun _ h => h) rfl dX6_hear_122 ?_
                refine lv_iload_n C.1 C.2.1 dX6_hear_125 rfl (lv_at hl 1 rfl) ?_
                refine lv_iload_n C.1 C.2.1 dX6_hear_126 rfl (lv_at hl 2 rfl) ?_
                refine z_iadd C dX6_hear_127 ?_
                refine z_iald C wd 6 rfl (by omega) (by decide) dX6_hear_128 ?_
                refine z_bipush C dX6_hear_129 (by decide +kernel) ?_
                refine z_isub C dX6_hear_131 ?_
                exact jn132 ((tx (x + y)) - 48) (by rw [hhv]; first | rw [if_pos (by omega)] | rw [if_neg (by omega)]) H locs _ wd (lv_sub hl [0, 1, 2] rfl)
              · skip
                refine z_iconst C dX6_hear_117 ?_
                refine z_goto C (tgt := 132) dX6_hear_118 (by decide) ?_
                exact jn132 2 (by rw [hhv]; first | rw [if_pos (by omega)] | rw [if_neg (by omega)]) H locs _ wd (lv_sub hl [0, 1, 2] rfl)
        · skip
          exact False.elim (by omega)
      · skip
        exact False.elim (by omega)
    · skip
      exact False.elim (by omega)
  · skip
    exact False.elim (by omega)
