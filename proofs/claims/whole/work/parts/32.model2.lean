set_option maxRecDepth 100000 in
set_option maxHeartbeats 4000000 in
theorem c_X6_symbols (l : Launch) (D : va_G) (cy cs : ClassId) (m0 m1 m2 m3 m4 m5 m6 m7 m8 : Nat) (st iss ty : Int) (M : Int → Int)  : zCi l D (zT cy cs) yX6_symbols wsX6_symbols ({ frames := 0, cells := 0, slots := 0, locals := 0 } : Room) [.ref m0] [zO m0 6 [.ref m1, .ref m2, .int (iI st), .ref m3, .int (iI iss), .ref m4, .int (iI ty), .ref m5, .ref m6, .ref m7, .ref m8], zA cy m1 780 M] (M 7 * M 1) [zO m0 6 [.ref m1, .ref m2, .int (iI st), .ref m3, .int (iI iss), .ref m4, .int (iI ty), .ref m5, .ref m6, .ref m7, .ref m8], zA cy m1 780 M] := by
  intro sz
  refine zM_mk (cc := cX6_symbols) (maxL := 1) (ret := (some .int)) (own := RX6) (Qc := fun sz => va_Qi (fun r (_ : Unit) => r = iI (M 7 * M 1)) (fun _ t => zQ D (zT cy cs) (va_A [zO m0 6 [.ref m1, .ref m2, .int (iI st), .ref m3, .int (iI iss), .ref m4, .int (iI ty), .ref m5, .ref m6, .ref m7, .ref m8], zA cy m1 780 M] sz) [zO m0 6 [.ref m1, .ref m2, .int (iI st), .ref m3, .int (iI iss), .ref m4, .int (iI ty), .ref m5, .ref m6, .ref m7, .ref m8], zA cy m1 780 M] t) (va_A [zO m0 6 [.ref m1, .ref m2, .int (iI st), .ref m3, .int (iI iss), .ref m4, .int (iI ty), .ref m5, .ref m6, .ref m7, .ref m8], zA cy m1 780 M] sz)) (by decide) rfl rfl (Nat.le_of_ble_eq_true rfl) rfl sz ?_
  intro p e s m args below meth c ls C hr hlk hnm hl hsz hA wd
  subst hsz
  have hl : lv_has ls 1 [(0, .ref m0)] := hl
  have iX6 : ∀ w ∈ u_ws RX6 TX6 11, w ∈ wsX6_symbols := by decide +kernel
  have L7 := C.2.2.2.2 (.fieldLink RX6 7 "LikelyWalksModel" "now" "[I") (by decide +kernel)
  refine lv_aload_n C.1 C.2.1 dX6_symbols_0 rfl (lv_at hl 0 rfl) ?_
  refine z_get C wd (Cn := RX6) (TT := TX6) (N := 11) (ci := 6) iX6 0 rfl rfl 0 (by decide) L7 (fun _ h => h) rfl dX6_symbols_1 ?_
  refine z_bipush C dX6_symbols_4 (by decide +kernel) ?_
  refine z_iald C wd 1 rfl (by omega) (by decide) dX6_symbols_6 ?_
  refine lv_aload_n C.1 C.2.1 dX6_symbols_7 rfl (lv_at hl 0 rfl) ?_
  refine z_get C wd (Cn := RX6) (TT := TX6) (N := 11) (ci := 6) iX6 0 rfl rfl 0 (by decide) L7 (fun _ h => h) rfl dX6_symbols_8 ?_
  refine z_iconst C dX6_symbols_11 ?_
  refine z_iald C wd 1 rfl (by omega) (by decide) dX6_symbols_12 ?_
  refine z_imul C dX6_symbols_13 ?_
  exact z_iret C hr hlk wd (by first | rfl | omega) dX6_symbols_14
set_option maxRecDepth 100000 in
set_option maxHeartbeats 4000000 in
theorem c_X6_fault (l : Launch) (D : va_G) (cy cs : ClassId) (m0 m1 m2 m3 m4 m5 m6 m7 m8 : Nat) (st iss ty : Int) (M : Int → Int) (be : Int) (tx : Int → Int) (hty : 0 ≤ ty ∧ ty ≤ 60) (hbe : 0 ≤ be ∧ be ≤ 1) (htx : ∀ k : Int, 0 ≤ k → k < 60 → 0 ≤ tx k ∧ tx k < 65536) : zCi l D (zT cy cs) yX6_fault wsX6_fault ({ frames := 0, cells := 0, slots := 0, locals := 0 } : Room) [.ref m0, .int (iI be)] [zO m0 6 [.ref m1, .ref m2, .int (iI st), .ref m3, .int (iI iss), .ref m4, .int (iI ty), .ref m5, .ref m6, .ref m7, .ref m8], zA cy m4 60 tx] (ff (fun z9 => vc (tx z9)) ty (1 + be)) [zO m0 6 [.ref m1, .ref m2, .int (iI st), .ref m3, .int (iI iss), .ref m4, .int (iI ty), .ref m5, .ref m6, .ref m7, .ref m8], zA cy m4 60 tx] := by
  intro sz
  refine zM_mk (cc := cX6_fault) (maxL := 3) (ret := (some .int)) (own := RX6) (Qc := fun sz => va_Qi (fun r (_ : Unit) => r = iI (ff (fun z9 => vc (tx z9)) ty (1 + be))) (fun _ t => zQ D (zT cy cs) (va_A [zO m0 6 [.ref m1, .ref m2, .int (iI st), .ref m3, .int (iI iss), .ref m4, .int (iI ty), .ref m5, .ref m6, .ref m7, .ref m8], zA cy m4 60 tx] sz) [zO m0 6 [.ref m1, .ref m2, .int (iI st), .ref m3, .int (iI iss), .ref m4, .int (iI ty), .ref m5, .ref m6, .ref m7, .ref m8], zA cy m4 60 tx] t) (va_A [zO m0 6 [.ref m1, .ref m2, .int (iI st), .ref m3, .int (iI iss), .ref m4, .int (iI ty), .ref m5, .ref m6, .ref m7, .ref m8], zA cy m4 60 tx] sz)) (by decide) rfl rfl (Nat.le_of_ble_eq_true rfl) rfl sz ?_
  intro p e s m args below meth c ls C hr hlk hnm hl hsz hA wd
  subst hsz
  have hl : lv_has ls 3 [(0, .ref m0), (1, .int (iI be))] := hl
  have iX6 : ∀ w ∈ u_ws RX6 TX6 11, w ∈ wsX6_fault := by decide +kernel
  have L19 := C.2.2.2.2 (.fieldLink RX6 19 "LikelyWalksModel" "text" "[I") (by decide +kernel)
  have L56 := C.2.2.2.2 (.fieldLink RX6 56 "LikelyWalksModel" "typed" "I") (by decide +kernel)
  refine z_iconst C dX6_fault_0 ?_
  refine lv_istore_n (lv' := [(2, .int (iI 0)), (0, .ref m0), (1, .int (iI be))]) C.1 C.2.1 dX6_fault_1 rfl hl (by decide) rfl (fun ls hl => ?_)
  refine z_loop1 (P := fun (k : Int) => (0 ≤ k ∧ k ≤ ty) ∧ (fs (fun z9 => decide (1 + be < vc (tx z9))) k.toNat = -1)) (mu := fun (k : Int) => (ty - k).toNat) (ws := fun (k : Int) => [zO m0 6 [.ref m1, .ref m2, .int (iI st), .ref m3, .int (iI iss), .ref m4, .int (iI ty), .ref m5, .ref m6, .ref m7, .ref m8], zA cy m4 60 tx]) (lv := fun (k : Int) => [(0, .ref m0), (1, .int (iI be)), (2, .int (iI k))]) 0 C ⟨(by omega), rfl⟩ wd (lv_sub hl [1, 2, 0] rfl) ?_
  intro k hP2 ih2 H locs ls wd hl
  obtain ⟨h2_0, h2_1⟩ := hP2
  try dsimp only at h2_0 h2_1
  have wd : Wd D (zT cy cs) _ s.heap s [zO m0 6 [.ref m1, .ref m2, .int (iI st), .ref m3, .int (iI iss), .ref m4, .int (iI ty), .ref m5, .ref m6, .ref m7, .ref m8], zA cy m4 60 tx] H locs := wd
  have hl : lv_has ls 3 [(0, .ref m0), (1, .int (iI be)), (2, .int (iI k))] := hl
  refine lv_iload_n C.1 C.2.1 dX6_fault_2 rfl (lv_at hl 2 rfl) ?_
  refine lv_aload_n C.1 C.2.1 dX6_fault_3 rfl (lv_at hl 0 rfl) ?_
  refine z_get C wd (Cn := RX6) (TT := TX6) (N := 11) (ci := 6) iX6 0 rfl rfl 6 (by decide) L56 (fun _ h => h) rfl dX6_fault_4 ?_
  refine z_icmp_ge C (tgt := 55) dX6_fault_7 (by decide) (by omega) (fun c_1 => ?_) (fun c_1 => ?_)
  · skip
    refine lv_aload_n C.1 C.2.1 dX6_fault_55 rfl (lv_at hl 0 rfl) ?_
    refine z_get C wd (Cn := RX6) (TT := TX6) (N := 11) (ci := 6) iX6 0 rfl rfl 6 (by decide) L56 (fun _ h => h) rfl dX6_fault_56 ?_
    refine z_if_ne C (tgt := 66) dX6_fault_59 (by decide) (by omega) (fun c_2 => ?_) (fun c_2 => ?_)
    · skip
      refine z_iconst C dX6_fault_66 ?_
      exact z_iret C hr hlk wd (by unfold ff; first | (rw [if_pos (by omega)]; done) | (rw [if_neg (by omega), ← h2_1, show k = ty by omega])) dX6_fault_67
    · skip
      refine z_iconst C dX6_fault_62 ?_
      refine z_goto C (tgt := 67) dX6_fault_63 (by decide) ?_
      exact z_iret C hr hlk wd (by unfold ff; first | (rw [if_pos (by omega)]; done) | (rw [if_neg (by omega), ← h2_1, show k = ty by omega])) dX6_fault_67
  · skip
    have hxk := htx k h2_0.1 (by omega)
    have hvk := vc_or (tx k)
    refine lv_aload_n C.1 C.2.1 dX6_fault_10 rfl (lv_at hl 0 rfl) ?_
    refine z_get C wd (Cn := RX6) (TT := TX6) (N := 11) (ci := 6) iX6 0 rfl rfl 5 (by decide) L19 (fun _ h => h) rfl dX6_fault_11 ?_
    refine lv_iload_n C.1 C.2.1 dX6_fault_14 rfl (lv_at hl 2 rfl) ?_
    refine z_iald C wd 1 rfl (by omega) (by decide) dX6_fault_15 ?_
    refine z_bipush C dX6_fault_16 (by decide +kernel) ?_
    refine z_icmp_eq C (tgt := 49) dX6_fault_18 (by decide) (by omega) (fun c_3 => ?_) (fun c_3 => ?_)
    · skip
      refine z_iinc C (lv' := [(2, .int (iI (k + 1))), (0, .ref m0), (1, .int (iI be))]) hl 2 dX6_fault_49 rfl (by decide) rfl (fun ls hl => ?_)
      refine z_goto C (tgt := 2) dX6_fault_52 (by decide) ?_
      exact ih2 (k + 1) ⟨(by omega), (fs_no h2_0.1 h2_1 (decide_eq_false (by omega)))⟩ (by omega) H locs _ wd (lv_sub hl [1, 2, 0] rfl)
    · skip
      refine lv_aload_n C.1 C.2.1 dX6_fault_21 rfl (lv_at hl 0 rfl) ?_
      refine z_get C wd (Cn := RX6) (TT := TX6) (N := 11) (ci := 6) iX6 0 rfl rfl 5 (by decide) L19 (fun _ h => h) rfl dX6_fault_22 ?_
      refine lv_iload_n C.1 C.2.1 dX6_fault_25 rfl (lv_at hl 2 rfl) ?_
      refine z_iald C wd 1 rfl (by omega) (by decide) dX6_fault_26 ?_
      refine z_bipush C dX6_fault_27 (by decide +kernel) ?_
      refine z_icmp_eq C (tgt := 49) dX6_fault_29 (by decide) (by omega) (fun c_4 => ?_) (fun c_4 => ?_)
      · skip
        refine z_iinc C (lv' := [(2, .int (iI (k + 1))), (0, .ref m0), (1, .int (iI be))]) hl 2 dX6_fault_49 rfl (by decide) rfl (fun ls hl => ?_)
        refine z_goto C (tgt := 2) dX6_fault_52 (by decide) ?_
        exact ih2 (k + 1) ⟨(by omega), (fs_no h2_0.1 h2_1 (decide_eq_false (by omega)))⟩ (by omega) H locs _ wd (lv_sub hl [1, 2, 0] rfl)
      · skip
        refine lv_iload_n C.1 C.2.1 dX6_fault_32 rfl (lv_at hl 1 rfl) ?_
        refine z_if_eq C (tgt := 47) dX6_fault_33 (by decide) (by omega) (fun c_5 => ?_) (fun c_5 => ?_)
        · skip
          refine lv_iload_n C.1 C.2.1 dX6_fault_47 rfl (lv_at hl 2 rfl) ?_
          exact z_iret C hr hlk wd (by rw [ff, if_neg (by omega)]; exact (fs_at h2_0.1 h2_1 (decide_eq_true (by omega)) (by omega)).symm) dX6_fault_48
        · skip
          refine lv_aload_n C.1 C.2.1 dX6_fault_36 rfl (lv_at hl 0 rfl) ?_
          refine z_get C wd (Cn := RX6) (TT := TX6) (N := 11) (ci := 6) iX6 0 rfl rfl 5 (by decide) L19 (fun _ h => h) rfl dX6_fault_37 ?_
          refine lv_iload_n C.1 C.2.1 dX6_fault_40 rfl (lv_at hl 2 rfl) ?_
          refine z_iald C wd 1 rfl (by omega) (by decide) dX6_fault_41 ?_
          refine z_bipush C dX6_fault_42 (by decide +kernel) ?_
          refine z_icmp_eq C (tgt := 49) dX6_fault_44 (by decide) (by omega) (fun c_6 => ?_) (fun c_6 => ?_)
          · skip
            refine z_iinc C (lv' := [(2, .int (iI (k + 1))), (0, .ref m0), (1, .int (iI be))]) hl 2 dX6_fault_49 rfl (by decide) rfl (fun ls hl => ?_)
            refine z_goto C (tgt := 2) dX6_fault_52 (by decide) ?_
            exact ih2 (k + 1) ⟨(by omega), (fs_no h2_0.1 h2_1 (decide_eq_false (by omega)))⟩ (by omega) H locs _ wd (lv_sub hl [1, 2, 0] rfl)
          · skip
            refine lv_iload_n C.1 C.2.1 dX6_fault_47 rfl (lv_at hl 2 rfl) ?_
            exact z_iret C hr hlk wd (by rw [ff, if_neg (by omega)]; exact (fs_at h2_0.1 h2_1 (decide_eq_true (by omega)) (by omega)).symm) dX6_fault_48
set_option maxRecDepth 100000 in
set_option maxHeartbeats 4000000 in
theorem c_X6_sendBit (l : Launch) (D : va_G) (cy cs : ClassId) (m0 m1 m2 m3 m4 m5 m6 m7 m8 : Nat) (st iss ty : Int) (M : Int → Int) (b : Int) (hm : 1 ≤ M 0 ∧ M 0 ≤ 5) (ho : 2 ≤ M 1 ∧ M 1 ≤ 3) (ht : tpOk (sl M 2)) (h6 : 0 ≤ M 6 ∧ M 6 < p2 (M 0)) (h7 : 0 ≤ M 7 ∧ M 7 < 80) (hb : 0 ≤ b ∧ b ≤ 1) : zCv l D (zT cy cs) yX6_sendBit wsX6_sendBit ({ frames := 2, cells := 0, slots := 0, locals := 42 } : Room) [.ref m0, .int (iI b)] [zO m0 6 [.ref m1, .ref m2, .int (iI st), .ref m3, .int (iI iss), .ref m4, .int (iI ty), .ref m5, .ref m6, .ref m7, .ref m8], zA cy m1 780 M] [zO m0 6 [.ref m1, .ref m2, .int (iI st), .ref m3, .int (iI iss), .ref m4, .int (iI ty), .ref m5, .ref m6, .ref m7, .ref m8], zA cy m1 780 (sB M b)] := by
  intro sz
  refine zM_mk (cc := cX6_sendBit) (maxL := 5) (ret := none) (own := RX6) (Qc := fun sz => va_Qv (fun (_ : Unit) => True) (fun _ t => zQ D (zT cy cs) (va_A [zO m0 6 [.ref m1, .ref m2, .int (iI st), .ref m3, .int (iI iss), .ref m4, .int (iI ty), .ref m5, .ref m6, .ref m7, .ref m8], zA cy m1 780 M] sz) [zO m0 6 [.ref m1, .ref m2, .int (iI st), .ref m3, .int (iI iss), .ref m4, .int (iI ty), .ref m5, .ref m6, .ref m7, .ref m8], zA cy m1 780 (sB M b)] t) (va_A [zO m0 6 [.ref m1, .ref m2, .int (iI st), .ref m3, .int (iI iss), .ref m4, .int (iI ty), .ref m5, .ref m6, .ref m7, .ref m8], zA cy m1 780 M] sz)) (by decide) rfl rfl (Nat.le_of_ble_eq_true rfl) rfl sz ?_
  intro p e s m args below meth c ls C hr hlk hnm hl hsz hA wd
  subst hsz
  have hl : lv_has ls 5 [(0, .ref m0), (1, .int (iI b))] := hl
  have iX6 : ∀ w ∈ u_ws RX6 TX6 11, w ∈ wsX6_sendBit := by decide +kernel
  have L7 := C.2.2.2.2 (.fieldLink RX6 7 "LikelyWalksModel" "now" "[I") (by decide +kernel)
  have hw := wn_le hm.1 hm.2 h6.1 h6.2 hb.1 hb.2
  have hq := bo_le ho h7.1 h7.2
  refine lv_aload_n C.1 C.2.1 dX6_sendBit_0 rfl (lv_at hl 0 rfl) ?_
  refine lv_aload_n C.1 C.2.1 dX6_sendBit_1 rfl (lv_at hl 0 rfl) ?_
  refine z_get C wd (Cn := RX6) (TT := TX6) (N := 11) (ci := 6) iX6 0 rfl rfl 0 (by decide) L7 (fun _ h => h) rfl dX6_sendBit_2 ?_
  refine z_bipush C dX6_sendBit_5 (by decide +kernel) ?_
  refine z_iald C wd 1 rfl (by omega) (by decide) dX6_sendBit_7 ?_
  refine lv_iload_n C.1 C.2.1 dX6_sendBit_8 rfl (lv_at hl 1 rfl) ?_
  refine z_cvi C wd hA (As := [.int (iI (M 6)), .int (iI b)]) (rest := []) (ws2 := [zO m0 6 [.ref m1, .ref m2, .int (iI st), .ref m3, .int (iI iss), .ref m4, .int (iI ty), .ref m5, .ref m6, .ref m7, .ref m8], zA cy m1 780 M]) (c_X6_window l D cy cs m0 m1 m2 m3 m4 m5 m6 m7 m8 st iss ty M (M 6) b (by omega)) (cwV 2 C.2.2.2.2 gX6_sendBit_X6_window rfl rfl rfl (by decide +kernel) ⟨Nat.le_of_ble_eq_true rfl, Nat.le_of_ble_eq_true rfl⟩) [0, 1] rfl rfl rfl ⟨rfl, [], [], 2, rfl, rfl, rfl, by decide +kernel⟩ rfl rfl rfl rfl (Nat.le_of_ble_eq_true rfl) hl.1 dX6_sendBit_9 ⟨Nat.zero_le _, Nat.zero_le _⟩ (fun H locs wd => ?_)
  refine lv_istore_n (lv' := [(2, .int (iI (wn (M 0) (M 6) b))), (0, .ref m0), (1, .int (iI b))]) C.1 C.2.1 dX6_sendBit_12 rfl hl (by decide) rfl (fun ls hl => ?_)
  refine z_iconst C dX6_sendBit_13 ?_
  refine lv_istore_n (lv' := [(3, .int (iI 0)), (2, .int (iI (wn (M 0) (M 6) b))), (0, .ref m0), (1, .int (iI b))]) C.1 C.2.1 dX6_sendBit_14 rfl hl (by decide) rfl (fun ls hl => ?_)
  refine z_loop2 (P := fun (k : Int) (g : Int → Int) => (0 ≤ k ∧ k ≤ M 1) ∧ (g = wr2 M (M 7 * M 1) k (vB M b))) (mu := fun (k : Int) (g : Int → Int) => (M 1 - k).toNat) (ws := fun (k : Int) (g : Int → Int) => [zO m0 6 [.ref m1, .ref m2, .int (iI st), .ref m3, .int (iI iss), .ref m4, .int (iI ty), .ref m5, .ref m6, .ref m7, .ref m8], zA cy m1 780 g]) (lv := fun (k : Int) (g : Int → Int) => [(0, .ref m0), (1, .int (iI b)), (2, .int (iI (wn (M 0) (M 6) b))), (3, .int (iI k))]) 0 M C ⟨(by omega), (wr2_0 _ _ _).symm⟩ wd (lv_sub hl [2, 3, 1, 0] rfl) ?_
  intro k g hP15 ih15 H locs ls wd hl
  obtain ⟨h15_0, h15_1⟩ := hP15
  try dsimp only at h15_0 h15_1
  have wd : Wd D (zT cy cs) _ s.heap s [zO m0 6 [.ref m1, .ref m2, .int (iI st), .ref m3, .int (iI iss), .ref m4, .int (iI ty), .ref m5, .ref m6, .ref m7, .ref m8], zA cy m1 780 g] H locs := wd
  have hl : lv_has ls 5 [(0, .ref m0), (1, .int (iI b)), (2, .int (iI (wn (M 0) (M 6) b))), (3, .int (iI k))] := hl
  have hg : ∀ j : Int, j < 92 → g j = M j := by rw [h15_1]; exact wr2_low M _ k _ hq.1
  have hg1 := hg 1 (by omega)
  refine lv_iload_n C.1 C.2.1 dX6_sendBit_15 rfl (lv_at hl 3 rfl) ?_
  refine lv_aload_n C.1 C.2.1 dX6_sendBit_16 rfl (lv_at hl 0 rfl) ?_
  refine z_get C wd (Cn := RX6) (TT := TX6) (N := 11) (ci := 6) iX6 0 rfl rfl 0 (by decide) L7 (fun _ h => h) rfl dX6_sendBit_17 ?_
  refine z_iconst C dX6_sendBit_20 ?_
  refine z_iald C wd 1 rfl (by omega) (by decide) dX6_sendBit_21 ?_
  refine z_icmp_ge C (tgt := 72) dX6_sendBit_22 (by decide) (by omega) (fun c_1 => ?_) (fun c_1 => ?_)
  · skip
    refine lv_aload_n C.1 C.2.1 dX6_sendBit_72 rfl (lv_at hl 0 rfl) ?_
    refine z_get C wd (Cn := RX6) (TT := TX6) (N := 11) (ci := 6) iX6 0 rfl rfl 0 (by decide) L7 (fun _ h => h) rfl dX6_sendBit_73 ?_
    refine z_bipush C dX6_sendBit_76 (by decide +kernel) ?_
    refine lv_aload_n C.1 C.2.1 dX6_sendBit_78 rfl (lv_at hl 0 rfl) ?_
    refine z_get C wd (Cn := RX6) (TT := TX6) (N := 11) (ci := 6) iX6 0 rfl rfl 0 (by decide) L7 (fun _ h => h) rfl dX6_sendBit_79 ?_
    refine z_bipush C dX6_sendBit_82 (by decide +kernel) ?_
    refine z_iald C wd 1 rfl (by omega) (by decide) dX6_sendBit_84 ?_
    refine z_top (b := M 7) (hg 7 (by omega)) ?_
    refine z_iadd C dX6_sendBit_85 ?_
    refine lv_iload_n C.1 C.2.1 dX6_sendBit_86 rfl (lv_at hl 1 rfl) ?_
    refine z_iast C wd (ws2 := [zO m0 6 [.ref m1, .ref m2, .int (iI st), .ref m3, .int (iI iss), .ref m4, .int (iI ty), .ref m5, .ref m6, .ref m7, .ref m8], zA cy m1 780 (uZ g (12 + (M 7)) b)]) 1 rfl (by omega) (by decide) rfl dX6_sendBit_87 (fun H locs wd => ?_)
    refine lv_aload_n C.1 C.2.1 dX6_sendBit_88 rfl (lv_at hl 0 rfl) ?_
    refine z_get C wd (Cn := RX6) (TT := TX6) (N := 11) (ci := 6) iX6 0 rfl rfl 0 (by decide) L7 (fun _ h => h) rfl dX6_sendBit_89 ?_
    refine z_bipush C dX6_sendBit_92 (by decide +kernel) ?_
    refine lv_dup2_11 C.1 C.2.1 dX6_sendBit_94 rfl rfl ?_
    refine z_iald C wd 1 rfl (by omega) (by decide) dX6_sendBit_95 ?_
    refine z_top (b := M 7) (by rw [uZ_k _ _ _ _ (by omega), hg 7 (by omega)]) ?_
    refine z_iconst C dX6_sendBit_96 ?_
    refine z_iadd C dX6_sendBit_97 ?_
    refine z_iast C wd (ws2 := [zO m0 6 [.ref m1, .ref m2, .int (iI st), .ref m3, .int (iI iss), .ref m4, .int (iI ty), .ref m5, .ref m6, .ref m7, .ref m8], zA cy m1 780 (uZ (uZ g (12 + (M 7)) b) 7 ((M 7) + 1))]) 1 rfl (by omega) (by decide) rfl dX6_sendBit_98 (fun H locs wd => ?_)
    refine lv_aload_n C.1 C.2.1 dX6_sendBit_99 rfl (lv_at hl 0 rfl) ?_
    refine z_get C wd (Cn := RX6) (TT := TX6) (N := 11) (ci := 6) iX6 0 rfl rfl 0 (by decide) L7 (fun _ h => h) rfl dX6_sendBit_100 ?_
    refine z_bipush C dX6_sendBit_103 (by decide +kernel) ?_
    refine lv_iload_n C.1 C.2.1 dX6_sendBit_105 rfl (lv_at hl 2 rfl) ?_
    refine z_iconst C dX6_sendBit_106 ?_
    refine z_idiv C dX6_sendBit_107 (by omega) ?_
    refine z_iast C wd (ws2 := [zO m0 6 [.ref m1, .ref m2, .int (iI st), .ref m3, .int (iI iss), .ref m4, .int (iI ty), .ref m5, .ref m6, .ref m7, .ref m8], zA cy m1 780 (uZ (uZ (uZ g (12 + (M 7)) b) 7 ((M 7) + 1)) 6 ((wn (M 0) (M 6) b) / 2))]) 1 rfl (by omega) (by decide) rfl dX6_sendBit_108 (fun H locs wd => ?_)
    have wd := z_cell wd (ws2 := [zO m0 6 [.ref m1, .ref m2, .int (iI st), .ref m3, .int (iI iss), .ref m4, .int (iI ty), .ref m5, .ref m6, .ref m7, .ref m8], zA cy m1 780 (sB M b)]) 1 rfl (by intro j j0 j1; rw [h15_1, show k = M 1 by omega]; rfl) rfl
    exact z_vret C hr hlk wd dX6_sendBit_109
  · skip
    have htk : 0 ≤ M (2 + k) ∧ M (2 + k) < 64 := ht k h15_0.1 (by omega)
    have hg2 := hg (2 + k) (by omega)
    refine lv_aload_n C.1 C.2.1 dX6_sendBit_25 rfl (lv_at hl 0 rfl) ?_
    refine z_cvi C wd hA (As := []) (rest := []) (ws2 := [zO m0 6 [.ref m1, .ref m2, .int (iI st), .ref m3, .int (iI iss), .ref m4, .int (iI ty), .ref m5, .ref m6, .ref m7, .ref m8], zA cy m1 780 g]) (c_X6_symbols l D cy cs m0 m1 m2 m3 m4 m5 m6 m7 m8 st iss ty g ) (cwV 0 C.2.2.2.2 gX6_sendBit_X6_symbols rfl rfl rfl (by decide +kernel) ⟨Nat.le_of_ble_eq_true rfl, Nat.le_of_ble_eq_true rfl⟩) [0, 1] rfl rfl rfl ⟨rfl, [], [], 2, rfl, rfl, rfl, by decide +kernel⟩ rfl rfl rfl rfl (Nat.le_of_ble_eq_true rfl) hl.1 dX6_sendBit_26 ⟨Nat.zero_le _, Nat.zero_le _⟩ (fun H locs wd => ?_)
    refine z_top (b := M 7 * M 1) (by rw [hg 7 (by omega), hg 1 (by omega)]) ?_
    refine lv_iload_n C.1 C.2.1 dX6_sendBit_29 rfl (lv_at hl 3 rfl) ?_
    refine z_iadd C dX6_sendBit_30 ?_
    refine lv_istore (lv' := [(4, .int (iI ((M 7 * M 1) + k))), (0, .ref m0), (1, .int (iI b)), (2, .int (iI (wn (M 0) (M 6) b))), (3, .int (iI k))]) C.1 C.2.1 dX6_sendBit_31 hl (by decide) rfl (fun ls hl => ?_)
    refine lv_aload_n C.1 C.2.1 dX6_sendBit_33 rfl (lv_at hl 1 rfl) ?_
    refine z_get C wd (Cn := RX6) (TT := TX6) (N := 11) (ci := 6) iX6 0 rfl rfl 0 (by decide) L7 (fun _ h => h) rfl dX6_sendBit_34 ?_
    refine z_bipush C dX6_sendBit_37 (by decide +kernel) ?_
    refine lv_iload C.1 C.2.1 dX6_sendBit_39 (lv_at hl 0 rfl) ?_
    refine z_iadd C dX6_sendBit_41 ?_
    refine lv_aload_n C.1 C.2.1 dX6_sendBit_42 rfl (lv_at hl 1 rfl) ?_
    refine lv_iload_n C.1 C.2.1 dX6_sendBit_43 rfl (lv_at hl 4 rfl) ?_
    refine lv_iload_n C.1 C.2.1 dX6_sendBit_44 rfl (lv_at hl 3 rfl) ?_
    refine z_cvi C wd hA (As := [.int (iI k), .int (iI (wn (M 0) (M 6) b))]) (rest := [.int (iI (92 + ((M 7 * M 1) + k))), .ref m1]) (ws2 := [zO m0 6 [.ref m1, .ref m2, .int (iI st), .ref m3, .int (iI iss), .ref m4, .int (iI ty), .ref m5, .ref m6, .ref m7, .ref m8], zA cy m1 780 g]) (c_X6_symbol l D cy cs m0 m1 m2 m3 m4 m5 m6 m7 m8 st iss ty g k (wn (M 0) (M 6) b) (by omega) (by omega) (by omega)) (cwV 2 C.2.2.2.2 gX6_sendBit_X6_symbol rfl rfl rfl (by decide +kernel) ⟨Nat.le_of_ble_eq_true rfl, Nat.le_of_ble_eq_true rfl⟩) [0, 1] rfl rfl rfl ⟨rfl, [], [], 2, rfl, rfl, rfl, by decide +kernel⟩ rfl rfl rfl rfl (Nat.le_of_ble_eq_true rfl) hl.1 dX6_sendBit_45 ⟨Nat.zero_le _, Nat.zero_le _⟩ (fun H locs wd => ?_)
    refine z_top (b := vB M b k) (by rw [hg2]; rfl) ?_
    refine z_iast C wd (ws2 := [zO m0 6 [.ref m1, .ref m2, .int (iI st), .ref m3, .int (iI iss), .ref m4, .int (iI ty), .ref m5, .ref m6, .ref m7, .ref m8], zA cy m1 780 (uZ g (92 + ((M 7 * M 1) + k)) (vB M b k))]) 1 rfl (by omega) (by decide) rfl dX6_sendBit_48 (fun H locs wd => ?_)
    refine lv_aload_n C.1 C.2.1 dX6_sendBit_49 rfl (lv_at hl 1 rfl) ?_
    refine z_get C wd (Cn := RX6) (TT := TX6) (N := 11) (ci := 6) iX6 0 rfl rfl 0 (by decide) L7 (fun _ h => h) rfl dX6_sendBit_50 ?_
    refine z_sipush C dX6_sendBit_53 (by decide +kernel) ?_
    refine lv_iload C.1 C.2.1 dX6_sendBit_56 (lv_at hl 0 rfl) ?_
    refine z_iadd C dX6_sendBit_58 ?_
    refine lv_aload_n C.1 C.2.1 dX6_sendBit_59 rfl (lv_at hl 1 rfl) ?_
    refine lv_iload_n C.1 C.2.1 dX6_sendBit_60 rfl (lv_at hl 4 rfl) ?_
    refine lv_iload_n C.1 C.2.1 dX6_sendBit_61 rfl (lv_at hl 3 rfl) ?_
    have hu2 : uZ g (92 + (M 7 * M 1 + k)) (vB M b k) (2 + k) = M (2 + k) := by rw [uZ_k _ _ _ _ (by omega), hg2]
    refine z_cvi C wd hA (As := [.int (iI k), .int (iI (wn (M 0) (M 6) b))]) (rest := [.int (iI (332 + ((M 7 * M 1) + k))), .ref m1]) (ws2 := [zO m0 6 [.ref m1, .ref m2, .int (iI st), .ref m3, .int (iI iss), .ref m4, .int (iI ty), .ref m5, .ref m6, .ref m7, .ref m8], zA cy m1 780 (uZ g (92 + ((M 7 * M 1) + k)) (vB M b k))]) (c_X6_symbol l D cy cs m0 m1 m2 m3 m4 m5 m6 m7 m8 st iss ty (uZ g (92 + ((M 7 * M 1) + k)) (vB M b k)) k (wn (M 0) (M 6) b) (by omega) (by omega) (by omega)) (cwV 2 C.2.2.2.2 gX6_sendBit_X6_symbol rfl rfl rfl (by decide +kernel) ⟨Nat.le_of_ble_eq_true rfl, Nat.le_of_ble_eq_true rfl⟩) [0, 1] rfl rfl rfl ⟨rfl, [], [], 2, rfl, rfl, rfl, by decide +kernel⟩ rfl rfl rfl rfl (Nat.le_of_ble_eq_true rfl) hl.1 dX6_sendBit_62 ⟨Nat.zero_le _, Nat.zero_le _⟩ (fun H locs wd => ?_)
    refine z_top (b := vB M b k) (by rw [hu2]; rfl) ?_
    refine z_iast C wd (ws2 := [zO m0 6 [.ref m1, .ref m2, .int (iI st), .ref m3, .int (iI iss), .ref m4, .int (iI ty), .ref m5, .ref m6, .ref m7, .ref m8], zA cy m1 780 (uZ (uZ g (92 + ((M 7 * M 1) + k)) (vB M b k)) (332 + ((M 7 * M 1) + k)) (vB M b k))]) 1 rfl (by omega) (by decide) rfl dX6_sendBit_65 (fun H locs wd => ?_)
    refine z_iinc C (lv' := [(3, .int (iI (k + 1))), (4, .int (iI ((M 7 * M 1) + k))), (0, .ref m0), (1, .int (iI b)), (2, .int (iI (wn (M 0) (M 6) b)))]) hl 4 dX6_sendBit_66 rfl (by decide) rfl (fun ls hl => ?_)
    refine z_goto C (tgt := 15) dX6_sendBit_69 (by decide) ?_
    exact ih15 (k + 1) (uZ (uZ g (92 + ((M 7 * M 1) + k)) (vB M b k)) (332 + ((M 7 * M 1) + k)) (vB M b k)) ⟨(by omega), (by rw [h15_1]; exact wr2_step M (M 7 * M 1) k (vB M b) hq.1 h15_0.1 (by omega))⟩ (by omega) H locs _ wd (lv_sub hl [2, 3, 4, 0] rfl)
set_option maxRecDepth 100000 in
set_option maxHeartbeats 4000000 in
theorem c_X6_walkBit (l : Launch) (D : va_G) (cy cs : ClassId) (m0 m1 m2 m3 m4 m5 m6 m7 m8 : Nat) (st iss ty : Int) (M : Int → Int) (s0 pl : Int) (hs : 0 ≤ s0 ∧ s0 < 32) (hpl : 0 ≤ pl ∧ pl < 80) (hw : 0 ≤ M (684 + 3 * s0 + pl / 30) ∧ M (684 + 3 * s0 + pl / 30) < 1073741824) : zCi l D (zT cy cs) yX6_walkBit wsX6_walkBit ({ frames := 0, cells := 0, slots := 0, locals := 0 } : Room) [.ref m0, .int (iI s0), .int (iI pl)] [zO m0 6 [.ref m1, .ref m2, .int (iI st), .ref m3, .int (iI iss), .ref m4, .int (iI ty), .ref m5, .ref m6, .ref m7, .ref m8], zA cy m1 780 M] (wkB M s0 pl) [zO m0 6 [.ref m1, .ref m2, .int (iI st), .ref m3, .int (iI iss), .ref m4, .int (iI ty), .ref m5, .ref m6, .ref m7, .ref m8], zA cy m1 780 M] := by
  intro sz
  refine zM_mk (cc := cX6_walkBit) (maxL := 3) (ret := (some .int)) (own := RX6) (Qc := fun sz => va_Qi (fun r (_ : Unit) => r = iI (wkB M s0 pl)) (fun _ t => zQ D (zT cy cs) (va_A [zO m0 6 [.ref m1, .ref m2, .int (iI st), .ref m3, .int (iI iss), .ref m4, .int (iI ty), .ref m5, .ref m6, .ref m7, .ref m8], zA cy m1 780 M] sz) [zO m0 6 [.ref m1, .ref m2, .int (iI st), .ref m3, .int (iI iss), .ref m4, .int (iI ty), .ref m5, .ref m6, .ref m7, .ref m8], zA cy m1 780 M] t) (va_A [zO m0 6 [.ref m1, .ref m2, .int (iI st), .ref m3, .int (iI iss), .ref m4, .int (iI ty), .ref m5, .ref m6, .ref m7, .ref m8], zA cy m1 780 M] sz)) (by decide) rfl rfl (Nat.le_of_ble_eq_true rfl) rfl sz ?_
  intro p e s m args below meth c ls C hr hlk hnm hl hsz hA wd
  subst hsz
  have hl : lv_has ls 3 [(0, .ref m0), (1, .int (iI s0)), (2, .int (iI pl))] := hl
  have iX6 : ∀ w ∈ u_ws RX6 TX6 11, w ∈ wsX6_walkBit := by decide +kernel
  have L7 := C.2.2.2.2 (.fieldLink RX6 7 "LikelyWalksModel" "now" "[I") (by decide +kernel)
  refine lv_aload_n C.1 C.2.1 dX6_walkBit_0 rfl (lv_at hl 0 rfl) ?_
  refine z_get C wd (Cn := RX6) (TT := TX6) (N := 11) (ci := 6) iX6 0 rfl rfl 0 (by decide) L7 (fun _ h => h) rfl dX6_walkBit_1 ?_
  refine z_sipush C dX6_walkBit_4 (by decide +kernel) ?_
  refine z_iconst C dX6_walkBit_7 ?_
  refine lv_iload_n C.1 C.2.1 dX6_walkBit_8 rfl (lv_at hl 1 rfl) ?_
  refine z_imul C dX6_walkBit_9 ?_
  refine z_iadd C dX6_walkBit_10 ?_
  refine lv_iload_n C.1 C.2.1 dX6_walkBit_11 rfl (lv_at hl 2 rfl) ?_
  refine z_bipush C dX6_walkBit_12 (by decide +kernel) ?_
  refine z_idiv C dX6_walkBit_14 (by omega) ?_
  refine z_iadd C dX6_walkBit_15 ?_
  refine z_iald C wd 1 rfl (by omega) (by decide) dX6_walkBit_16 ?_
  refine lv_iload_n C.1 C.2.1 dX6_walkBit_17 rfl (lv_at hl 2 rfl) ?_
  refine z_bipush C dX6_walkBit_18 (by decide +kernel) ?_
  refine z_irem C dX6_walkBit_20 (by omega) ?_
  refine z_ishr C (M (684 + 3 * s0 + pl / 30) / p2 (pl % 30)) dX6_walkBit_21 (iI_shr hw.1 (by omega) (by omega) (by omega)) ?_
  refine z_iconst C dX6_walkBit_22 ?_
  refine z_iand C (wkB M s0 pl) dX6_walkBit_23 (iI_and1S _) ?_
  exact z_iret C hr hlk wd rfl dX6_walkBit_24
set_option maxRecDepth 100000 in
set_option maxHeartbeats 4000000 in
theorem c_X6_bestState (l : Launch) (D : va_G) (cy cs : ClassId) (m0 m1 m2 m3 m4 m5 m6 m7 m8 : Nat) (st iss ty : Int) (M : Int → Int) (hm : 1 ≤ M 0 ∧ M 0 ≤ 5) (hme : ∀ k : Int, 0 ≤ k → k < 32 → -1 ≤ M (572 + k) ∧ M (572 + k) ≤ 1000) : zCi l D (zT cy cs) yX6_bestState wsX6_bestState ({ frames := 1, cells := 0, slots := 0, locals := 20 } : Room) [.ref m0] [zO m0 6 [.ref m1, .ref m2, .int (iI st), .ref m3, .int (iI iss), .ref m4, .int (iI ty), .ref m5, .ref m6, .ref m7, .ref m8], zA cy m1 780 M] (bst (sl M 572) (p2 (M 0)).toNat) [zO m0 6 [.ref m1, .ref m2, .int (iI st), .ref m3, .int (iI iss), .ref m4, .int (iI ty), .ref m5, .ref m6, .ref m7, .ref m8], zA cy m1 780 M] := by
  intro sz
  refine zM_mk (cc := cX6_bestState) (maxL := 4) (ret := (some .int)) (own := RX6) (Qc := fun sz => va_Qi (fun r (_ : Unit) => r = iI (bst (sl M 572) (p2 (M 0)).toNat)) (fun _ t => zQ D (zT cy cs) (va_A [zO m0 6 [.ref m1, .ref m2, .int (iI st), .ref m3, .int (iI iss), .ref m4, .int (iI ty), .ref m5, .ref m6, .ref m7, .ref m8], zA cy m1 780 M] sz) [zO m0 6 [.ref m1, .ref m2, .int (iI st), .ref m3, .int (iI iss), .ref m4, .int (iI ty), .ref m5, .ref m6, .ref m7, .ref m8], zA cy m1 780 M] t) (va_A [zO m0 6 [.ref m1, .ref m2, .int (iI st), .ref m3, .int (iI iss), .ref m4, .int (iI ty), .ref m5, .ref m6, .ref m7, .ref m8], zA cy m1 780 M] sz)) (by decide) rfl rfl (Nat.le_of_ble_eq_true rfl) rfl sz ?_
  intro p e s m args below meth c ls C hr hlk hnm hl hsz hA wd
  subst hsz
  have hl : lv_has ls 4 [(0, .ref m0)] := hl
  have iX6 : ∀ w ∈ u_ws RX6 TX6 11, w ∈ wsX6_bestState := by decide +kernel
  have L7 := C.2.2.2.2 (.fieldLink RX6 7 "LikelyWalksModel" "now" "[I") (by decide +kernel)
  have hp := p2_all hm.1 hm.2
  refine z_iconst C dX6_bestState_0 ?_
  refine lv_istore_n (lv' := [(1, .int (iI (-1))), (0, .ref m0)]) C.1 C.2.1 dX6_bestState_1 rfl hl (by decide) rfl (fun ls hl => ?_)
  refine z_iconst C dX6_bestState_2 ?_
  refine lv_istore_n (lv' := [(2, .int (iI 0)), (1, .int (iI (-1))), (0, .ref m0)]) C.1 C.2.1 dX6_bestState_3 rfl hl (by decide) rfl (fun ls hl => ?_)
  refine z_loop2 (P := fun (x : Int) (k : Int) => (0 ≤ k ∧ k ≤ p2 (M 0)) ∧ (x = bst (sl M 572) k.toNat) ∧ (-1 ≤ x ∧ x < 32)) (mu := fun (x : Int) (k : Int) => (p2 (M 0) - k).toNat) (ws := fun (x : Int) (k : Int) => [zO m0 6 [.ref m1, .ref m2, .int (iI st), .ref m3, .int (iI iss), .ref m4, .int (iI ty), .ref m5, .ref m6, .ref m7, .ref m8], zA cy m1 780 M]) (lv := fun (x : Int) (k : Int) => [(0, .ref m0), (1, .int (iI x)), (2, .int (iI k))]) (-1) 0 C ⟨(by omega), rfl, (by omega)⟩ wd (lv_sub hl [2, 1, 0] rfl) ?_
  intro x k hP4 ih4 H locs ls wd hl
  obtain ⟨h4_0, h4_1, h4_2⟩ := hP4
  try dsimp only at h4_0 h4_1 h4_2
  have wd : Wd D (zT cy cs) _ s.heap s [zO m0 6 [.ref m1, .ref m2, .int (iI st), .ref m3, .int (iI iss), .ref m4, .int (iI ty), .ref m5, .ref m6, .ref m7, .ref m8], zA cy m1 780 M] H locs := wd
  have hl : lv_has ls 4 [(0, .ref m0), (1, .int (iI x)), (2, .int (iI k))] := hl
  have hst : bst (sl M 572) (k + 1).toNat = if 0 ≤ M (572 + k) ∧ (bst (sl M 572) k.toNat < 0 ∨ M (572 + k) < M (572 + bst (sl M 572) k.toNat)) then k else bst (sl M 572) k.toNat := by rw [show (k + 1).toNat = k.toNat + 1 by omega, bst, Int.toNat_of_nonneg h4_0.1]; rfl
  rw [← h4_1] at hst
  refine lv_iload_n C.1 C.2.1 dX6_bestState_4 rfl (lv_at hl 2 rfl) ?_
  refine lv_aload_n C.1 C.2.1 dX6_bestState_5 rfl (lv_at hl 0 rfl) ?_
  refine z_cvi C wd hA (As := []) (rest := [.int (iI k)]) (ws2 := [zO m0 6 [.ref m1, .ref m2, .int (iI st), .ref m3, .int (iI iss), .ref m4, .int (iI ty), .ref m5, .ref m6, .ref m7, .ref m8], zA cy m1 780 M]) (c_X6_registers l D cy cs m0 m1 m2 m3 m4 m5 m6 m7 m8 st iss ty M (by omega)) (cwV 0 C.2.2.2.2 gX6_bestState_X6_registers rfl rfl rfl (by decide +kernel) ⟨Nat.le_of_ble_eq_true rfl, Nat.le_of_ble_eq_true rfl⟩) [0, 1] rfl rfl rfl ⟨rfl, [], [], 2, rfl, rfl, rfl, by decide +kernel⟩ rfl rfl rfl rfl (Nat.le_of_ble_eq_true rfl) hl.1 dX6_bestState_6 ⟨Nat.zero_le _, Nat.zero_le _⟩ (fun H locs wd => ?_)
  refine z_icmp_ge C (tgt := 74) dX6_bestState_9 (by decide) (by omega) (fun c_1 => ?_) (fun c_1 => ?_)
  · skip
    refine lv_iload_n C.1 C.2.1 dX6_bestState_74 rfl (lv_at hl 1 rfl) ?_
    exact z_iret C hr hlk wd (by rw [h4_1, show k = p2 (M 0) by omega]) dX6_bestState_75
  · skip
    refine z_join1 (nL := 4) (D := D) (T := zT cy cs) (A := va_A [zO m0 6 [.ref m1, .ref m2, .int (iI st), .ref m3, .int (iI iss), .ref m4, .int (iI ty), .ref m5, .ref m6, .ref m7, .ref m8], zA cy m1 780 M] s.heap.size) (H0 := s.heap) (P := fun (u : Int) => ((u = 1 ∧ 0 ≤ M (572 + k) ∧ (x < 0 ∨ M (572 + k) < M (572 + x))) ∨ (u = 0 ∧ ¬ (0 ≤ M (572 + k) ∧ (x < 0 ∨ M (572 + k) < M (572 + x)))))) (ws := fun (u : Int) => [zO m0 6 [.ref m1, .ref m2, .int (iI st), .ref m3, .int (iI iss), .ref m4, .int (iI ty), .ref m5, .ref m6, .ref m7, .ref m8], zA cy m1 780 M]) (lv := fun (u : Int) => [(0, .ref m0), (1, .int (iI x)), (2, .int (iI k))]) (stj := fun (u : Int) => [.int (iI u)]) 57 ?_ (fun jn57 => ?_)
    · skip
      intro u hP57 H locs ls wd hl
      have h57_0 := hP57
      try dsimp only at h57_0
      have wd : Wd D (zT cy cs) _ s.heap s [zO m0 6 [.ref m1, .ref m2, .int (iI st), .ref m3, .int (iI iss), .ref m4, .int (iI ty), .ref m5, .ref m6, .ref m7, .ref m8], zA cy m1 780 M] H locs := wd
      have hl : lv_has ls 4 [(0, .ref m0), (1, .int (iI x)), (2, .int (iI k))] := hl
      refine lv_istore_n (lv' := [(3, .int (iI u)), (0, .ref m0), (1, .int (iI x)), (2, .int (iI k))]) C.1 C.2.1 dX6_bestState_57 rfl hl (by decide) rfl (fun ls hl => ?_)
      refine lv_iload_n C.1 C.2.1 dX6_bestState_58 rfl (lv_at hl 0 rfl) ?_
      refine z_if_eq C (tgt := 66) dX6_bestState_59 (by decide) (by omega) (fun c_2 => ?_) (fun c_2 => ?_)
      · skip
        refine lv_iload_n C.1 C.2.1 dX6_bestState_66 rfl (lv_at hl 2 rfl) ?_
        refine lv_istore_n (lv' := [(1, .int (iI x)), (3, .int (iI u)), (0, .ref m0), (2, .int (iI k))]) C.1 C.2.1 dX6_bestState_67 rfl hl (by decide) rfl (fun ls hl => ?_)
        refine z_iinc C (lv' := [(2, .int (iI (k + 1))), (1, .int (iI x)), (3, .int (iI u)), (0, .ref m0)]) hl 3 dX6_bestState_68 rfl (by decide) rfl (fun ls hl => ?_)
        refine z_goto C (tgt := 4) dX6_bestState_71 (by decide) ?_
        exact ih4 x (k + 1) ⟨(by omega), (by rw [hst]; first | rw [if_pos (by omega)] | rw [if_neg (by omega)]), (by omega)⟩ (by omega) H locs _ wd (lv_sub hl [3, 1, 0] rfl)
      · skip
        refine lv_iload_n C.1 C.2.1 dX6_bestState_62 rfl (lv_at hl 3 rfl) ?_
        refine z_goto C (tgt := 67) dX6_bestState_63 (by decide) ?_
        refine lv_istore_n (lv' := [(1, .int (iI k)), (3, .int (iI u)), (0, .ref m0), (2, .int (iI k))]) C.1 C.2.1 dX6_bestState_67 rfl hl (by decide) rfl (fun ls hl => ?_)
        refine z_iinc C (lv' := [(2, .int (iI (k + 1))), (1, .int (iI k)), (3, .int (iI u)), (0, .ref m0)]) hl 3 dX6_bestState_68 rfl (by decide) rfl (fun ls hl => ?_)
        refine z_goto C (tgt := 4) dX6_bestState_71 (by decide) ?_
        exact ih4 k (k + 1) ⟨(by omega), (by rw [hst]; first | rw [if_pos (by omega)] | rw [if_neg (by omega)]), (by omega)⟩ (by omega) H locs _ wd (lv_sub hl [3, 1, 0] rfl)
    have hfk := hme k h4_0.1 (by omega)
    refine lv_aload_n C.1 C.2.1 dX6_bestState_12 rfl (lv_at hl 0 rfl) ?_
    refine z_get C wd (Cn := RX6) (TT := TX6) (N := 11) (ci := 6) iX6 0 rfl rfl 0 (by decide) L7 (fun _ h => h) rfl dX6_bestState_13 ?_
    refine z_sipush C dX6_bestState_16 (by decide +kernel) ?_
    refine lv_iload_n C.1 C.2.1 dX6_bestState_19 rfl (lv_at hl 2 rfl) ?_
    refine z_iadd C dX6_bestState_20 ?_
    refine z_iald C wd 1 rfl (by omega) (by decide) dX6_bestState_21 ?_
    refine z_if_lt C (tgt := 56) dX6_bestState_22 (by decide) (by omega) (fun c_3 => ?_) (fun c_3 => ?_)
    · skip
      refine z_iconst C dX6_bestState_56 ?_
      exact jn57 0 (by first | assumption | omega) H locs _ wd (lv_sub hl [0, 1, 2] rfl)
    · skip
      refine lv_iload_n C.1 C.2.1 dX6_bestState_25 rfl (lv_at hl 1 rfl) ?_
      refine z_if_lt C (tgt := 52) dX6_bestState_26 (by decide) (by omega) (fun c_4 => ?_) (fun c_4 => ?_)
      · skip
        refine z_iconst C dX6_bestState_52 ?_
        refine z_goto C (tgt := 57) dX6_bestState_53 (by decide) ?_
        exact jn57 1 (by first | assumption | omega) H locs _ wd (lv_sub hl [0, 1, 2] rfl)
      · skip
        have hfx := hme x (by omega) (by omega)
        refine lv_aload_n C.1 C.2.1 dX6_bestState_29 rfl (lv_at hl 0 rfl) ?_
        refine z_get C wd (Cn := RX6) (TT := TX6) (N := 11) (ci := 6) iX6 0 rfl rfl 0 (by decide) L7 (fun _ h => h) rfl dX6_bestState_30 ?_
        refine z_sipush C dX6_bestState_33 (by decide +kernel) ?_
        refine lv_iload_n C.1 C.2.1 dX6_bestState_36 rfl (lv_at hl 2 rfl) ?_
        refine z_iadd C dX6_bestState_37 ?_
        refine z_iald C wd 1 rfl (by omega) (by decide) dX6_bestState_38 ?_
        refine lv_aload_n C.1 C.2.1 dX6_bestState_39 rfl (lv_at hl 0 rfl) ?_
        refine z_get C wd (Cn := RX6) (TT := TX6) (N := 11) (ci := 6) iX6 0 rfl rfl 0 (by decide) L7 (fun _ h => h) rfl dX6_bestState_40 ?_
        refine z_sipush C dX6_bestState_43 (by decide +kernel) ?_
        refine lv_iload_n C.1 C.2.1 dX6_bestState_46 rfl (lv_at hl 1 rfl) ?_
        refine z_iadd C dX6_bestState_47 ?_
        refine z_iald C wd 1 rfl (by omega) (by decide) dX6_bestState_48 ?_
        refine z_icmp_ge C (tgt := 56) dX6_bestState_49 (by decide) (by omega) (fun c_5 => ?_) (fun c_5 => ?_)
        · skip
          refine z_iconst C dX6_bestState_56 ?_
          exact jn57 0 (by first | assumption | omega) H locs _ wd (lv_sub hl [0, 1, 2] rfl)
        · skip
          refine z_iconst C dX6_bestState_52 ?_
          refine z_goto C (tgt := 57) dX6_bestState_53 (by decide) ?_
          exact jn57 1 (by first | assumption | omega) H locs _ wd (lv_sub hl [0, 1, 2] rfl)
set_option maxRecDepth 100000 in
set_option maxHeartbeats 4000000 in
theorem c_X6_release (l : Launch) (D : va_G) (cy cs : ClassId) (m0 m1 m2 m3 m4 m5 m6 m7 m8 : Nat) (st iss ty : Int) (M : Int → Int) (s0 : Int) (hs : 0 ≤ s0 ∧ s0 < 32) (h10 : 0 ≤ M 10 ∧ M 10 < 80) (hw : 0 ≤ M (684 + 3 * s0 + M 10 / 30) ∧ M (684 + 3 * s0 + M 10 / 30) < 1073741824) : zCv l D (zT cy cs) yX6_release wsX6_release ({ frames := 1, cells := 0, slots := 0, locals := 22 } : Room) [.ref m0, .int (iI s0)] [zO m0 6 [.ref m1, .ref m2, .int (iI st), .ref m3, .int (iI iss), .ref m4, .int (iI ty), .ref m5, .ref m6, .ref m7, .ref m8], zA cy m1 780 M] [zO m0 6 [.ref m1, .ref m2, .int (iI st), .ref m3, .int (iI iss), .ref m4, .int (iI ty), .ref m5, .ref m6, .ref m7, .ref m8], zA cy m1 780 (rl1 M s0)] := by
  intro sz
  refine zM_mk (cc := cX6_release) (maxL := 2) (ret := none) (own := RX6) (Qc := fun sz => va_Qv (fun (_ : Unit) => True) (fun _ t => zQ D (zT cy cs) (va_A [zO m0 6 [.ref m1, .ref m2, .int (iI st), .ref m3, .int (iI iss), .ref m4, .int (iI ty), .ref m5, .ref m6, .ref m7, .ref m8], zA cy m1 780 M] sz) [zO m0 6 [.ref m1, .ref m2, .int (iI st), .ref m3, .int (iI iss), .ref m4, .int (iI ty), .ref m5, .ref m6, .ref m7, .ref m8], zA cy m1 780 (rl1 M s0)] t) (va_A [zO m0 6 [.ref m1, .ref m2, .int (iI st), .ref m3, .int (iI iss), .ref m4, .int (iI ty), .ref m5, .ref m6, .ref m7, .ref m8], zA cy m1 780 M] sz)) (by decide) rfl rfl (Nat.le_of_ble_eq_true rfl) rfl sz ?_
  intro p e s m args below meth c ls C hr hlk hnm hl hsz hA wd
  subst hsz
  have hl : lv_has ls 2 [(0, .ref m0), (1, .int (iI s0))] := hl
  have iX6 : ∀ w ∈ u_ws RX6 TX6 11, w ∈ wsX6_release := by decide +kernel
  have L7 := C.2.2.2.2 (.fieldLink RX6 7 "LikelyWalksModel" "now" "[I") (by decide +kernel)
  refine lv_aload_n C.1 C.2.1 dX6_release_0 rfl (lv_at hl 0 rfl) ?_
  refine z_get C wd (Cn := RX6) (TT := TX6) (N := 11) (ci := 6) iX6 0 rfl rfl 0 (by decide) L7 (fun _ h => h) rfl dX6_release_1 ?_
  refine z_sipush C dX6_release_4 (by decide +kernel) ?_
  refine lv_aload_n C.1 C.2.1 dX6_release_7 rfl (lv_at hl 0 rfl) ?_
  refine z_get C wd (Cn := RX6) (TT := TX6) (N := 11) (ci := 6) iX6 0 rfl rfl 0 (by decide) L7 (fun _ h => h) rfl dX6_release_8 ?_
  refine z_bipush C dX6_release_11 (by decide +kernel) ?_
  refine z_iald C wd 1 rfl (by omega) (by decide) dX6_release_13 ?_
  refine z_iadd C dX6_release_14 ?_
  refine lv_aload_n C.1 C.2.1 dX6_release_15 rfl (lv_at hl 0 rfl) ?_
  refine lv_iload_n C.1 C.2.1 dX6_release_16 rfl (lv_at hl 1 rfl) ?_
  refine lv_aload_n C.1 C.2.1 dX6_release_17 rfl (lv_at hl 0 rfl) ?_
  refine z_get C wd (Cn := RX6) (TT := TX6) (N := 11) (ci := 6) iX6 0 rfl rfl 0 (by decide) L7 (fun _ h => h) rfl dX6_release_18 ?_
  refine z_bipush C dX6_release_21 (by decide +kernel) ?_
  refine z_iald C wd 1 rfl (by omega) (by decide) dX6_release_23 ?_
  refine z_cvi C wd hA (As := [.int (iI s0), .int (iI (M 10))]) (rest := [.int (iI (604 + (M 10))), .ref m1]) (ws2 := [zO m0 6 [.ref m1, .ref m2, .int (iI st), .ref m3, .int (iI iss), .ref m4, .int (iI ty), .ref m5, .ref m6, .ref m7, .ref m8], zA cy m1 780 M]) (c_X6_walkBit l D cy cs m0 m1 m2 m3 m4 m5 m6 m7 m8 st iss ty M s0 (M 10) (by omega) (by omega) (by omega)) (cwV 2 C.2.2.2.2 gX6_release_X6_walkBit rfl rfl rfl (by decide +kernel) ⟨Nat.le_of_ble_eq_true rfl, Nat.le_of_ble_eq_true rfl⟩) [0, 1] rfl rfl rfl ⟨rfl, [], [], 2, rfl, rfl, rfl, by decide +kernel⟩ rfl rfl rfl rfl (Nat.le_of_ble_eq_true rfl) hl.1 dX6_release_24 ⟨Nat.zero_le _, Nat.zero_le _⟩ (fun H locs wd => ?_)
  refine z_iast C wd (ws2 := [zO m0 6 [.ref m1, .ref m2, .int (iI st), .ref m3, .int (iI iss), .ref m4, .int (iI ty), .ref m5, .ref m6, .ref m7, .ref m8], zA cy m1 780 (uZ M (604 + (M 10)) (wkB M s0 (M 10)))]) 1 rfl (by omega) (by decide) rfl dX6_release_27 (fun H locs wd => ?_)
  refine lv_aload_n C.1 C.2.1 dX6_release_28 rfl (lv_at hl 0 rfl) ?_
  refine z_get C wd (Cn := RX6) (TT := TX6) (N := 11) (ci := 6) iX6 0 rfl rfl 0 (by decide) L7 (fun _ h => h) rfl dX6_release_29 ?_
  refine z_bipush C dX6_release_32 (by decide +kernel) ?_
  refine lv_dup2_11 C.1 C.2.1 dX6_release_34 rfl rfl ?_
  refine z_iald C wd 1 rfl (by omega) (by decide) dX6_release_35 ?_
  refine z_top (b := M 10) (uZ_k _ _ _ _ (by omega)) ?_
  refine z_iconst C dX6_release_36 ?_
  refine z_iadd C dX6_release_37 ?_
  refine z_iast C wd (ws2 := [zO m0 6 [.ref m1, .ref m2, .int (iI st), .ref m3, .int (iI iss), .ref m4, .int (iI ty), .ref m5, .ref m6, .ref m7, .ref m8], zA cy m1 780 (uZ (uZ M (604 + (M 10)) (wkB M s0 (M 10))) 10 ((M 10) + 1))]) 1 rfl (by omega) (by decide) rfl dX6_release_38 (fun H locs wd => ?_)
  have wd := z_cell wd (ws2 := [zO m0 6 [.ref m1, .ref m2, .int (iI st), .ref m3, .int (iI iss), .ref m4, .int (iI ty), .ref m5, .ref m6, .ref m7, .ref m8], zA cy m1 780 (rl1 M s0)]) 1 rfl (fun _ _ _ => rfl) rfl
  exact z_vret C hr hlk wd dX6_release_39
set_option maxRecDepth 100000 in
set_option maxHeartbeats 4000000 in
theorem c_X6_price (l : Launch) (D : va_G) (cy cs : ClassId) (m0 m1 m2 m3 m4 m5 m6 m7 m8 : Nat) (st iss ty : Int) (M : Int → Int) (v : Int) (hd : Int → Int) (ho : 2 ≤ M 1 ∧ M 1 ≤ 3) (ht : tpOk (sl M 2)) (hv : 0 ≤ v ∧ v < 64) (hhd : ∀ k : Int, 0 ≤ k → k < 3 → 0 ≤ hd k ∧ hd k ≤ 3) : zCi l D (zT cy cs) yX6_price wsX6_price ({ frames := 1, cells := 0, slots := 0, locals := 24 } : Room) [.ref m0, .int (iI v)] [zO m0 6 [.ref m1, .ref m2, .int (iI st), .ref m3, .int (iI iss), .ref m4, .int (iI ty), .ref m5, .ref m6, .ref m7, .ref m8], zA cy m1 780 M, zA cy m5 3 hd] (sm (pr1 (sl M 2) hd 0 v) (M 1).toNat) [zO m0 6 [.ref m1, .ref m2, .int (iI st), .ref m3, .int (iI iss), .ref m4, .int (iI ty), .ref m5, .ref m6, .ref m7, .ref m8], zA cy m1 780 M, zA cy m5 3 hd] := by
  intro sz
  refine zM_mk (cc := cX6_price) (maxL := 4) (ret := (some .int)) (own := RX6) (Qc := fun sz => va_Qi (fun r (_ : Unit) => r = iI (sm (pr1 (sl M 2) hd 0 v) (M 1).toNat)) (fun _ t => zQ D (zT cy cs) (va_A [zO m0 6 [.ref m1, .ref m2, .int (iI st), .ref m3, .int (iI iss), .ref m4, .int (iI ty), .ref m5, .ref m6, .ref m7, .ref m8], zA cy m1 780 M, zA cy m5 3 hd] sz) [zO m0 6 [.ref m1, .ref m2, .int (iI st), .ref m3, .int (iI iss), .ref m4, .int (iI ty), .ref m5, .ref m6, .ref m7, .ref m8], zA cy m1 780 M, zA cy m5 3 hd] t) (va_A [zO m0 6 [.ref m1, .ref m2, .int (iI st), .ref m3, .int (iI iss), .ref m4, .int (iI ty), .ref m5, .ref m6, .ref m7, .ref m8], zA cy m1 780 M, zA cy m5 3 hd] sz)) (by decide) rfl rfl (Nat.le_of_ble_eq_true rfl) rfl sz ?_
  intro p e s m args below meth c ls C hr hlk hnm hl hsz hA wd
  subst hsz
  have hl : lv_has ls 4 [(0, .ref m0), (1, .int (iI v))] := hl
  have iX6 : ∀ w ∈ u_ws RX6 TX6 11, w ∈ wsX6_price := by decide +kernel
  have L7 := C.2.2.2.2 (.fieldLink RX6 7 "LikelyWalksModel" "now" "[I") (by decide +kernel)
  have L22 := C.2.2.2.2 (.fieldLink RX6 22 "LikelyWalksModel" "heard" "[I") (by decide +kernel)
  refine z_iconst C dX6_price_0 ?_
  refine lv_istore_n (lv' := [(2, .int (iI 0)), (0, .ref m0), (1, .int (iI v))]) C.1 C.2.1 dX6_price_1 rfl hl (by decide) rfl (fun ls hl => ?_)
  refine z_iconst C dX6_price_2 ?_
  refine lv_istore_n (lv' := [(3, .int (iI 0)), (2, .int (iI 0)), (0, .ref m0), (1, .int (iI v))]) C.1 C.2.1 dX6_price_3 rfl hl (by decide) rfl (fun ls hl => ?_)
  refine z_loop2 (P := fun (x : Int) (k : Int) => (0 ≤ k ∧ k ≤ M 1) ∧ (x = sm (pr1 (sl M 2) hd 0 v) k.toNat)) (mu := fun (x : Int) (k : Int) => (M 1 - k).toNat) (ws := fun (x : Int) (k : Int) => [zO m0 6 [.ref m1, .ref m2, .int (iI st), .ref m3, .int (iI iss), .ref m4, .int (iI ty), .ref m5, .ref m6, .ref m7, .ref m8], zA cy m1 780 M, zA cy m5 3 hd]) (lv := fun (x : Int) (k : Int) => [(0, .ref m0), (1, .int (iI v)), (2, .int (iI x)), (3, .int (iI k))]) 0 0 C ⟨(by omega), rfl⟩ wd (lv_sub hl [2, 3, 1, 0] rfl) ?_
  intro x k hP4 ih4 H locs ls wd hl
  obtain ⟨h4_0, h4_1⟩ := hP4
  try dsimp only at h4_0 h4_1
  have wd : Wd D (zT cy cs) _ s.heap s [zO m0 6 [.ref m1, .ref m2, .int (iI st), .ref m3, .int (iI iss), .ref m4, .int (iI ty), .ref m5, .ref m6, .ref m7, .ref m8], zA cy m1 780 M, zA cy m5 3 hd] H locs := wd
  have hl : lv_has ls 4 [(0, .ref m0), (1, .int (iI v)), (2, .int (iI x)), (3, .int (iI k))] := hl
  refine lv_iload_n C.1 C.2.1 dX6_price_4 rfl (lv_at hl 3 rfl) ?_
  refine lv_aload_n C.1 C.2.1 dX6_price_5 rfl (lv_at hl 0 rfl) ?_
  refine z_get C wd (Cn := RX6) (TT := TX6) (N := 11) (ci := 6) iX6 0 rfl rfl 0 (by decide) L7 (fun _ h => h) rfl dX6_price_6 ?_
  refine z_iconst C dX6_price_9 ?_
  refine z_iald C wd 1 rfl (by omega) (by decide) dX6_price_10 ?_
  refine z_icmp_ge C (tgt := 53) dX6_price_11 (by decide) (by omega) (fun c_1 => ?_) (fun c_1 => ?_)
  · skip
    refine lv_iload_n C.1 C.2.1 dX6_price_53 rfl (lv_at hl 2 rfl) ?_
    exact z_iret C hr hlk wd (by rw [h4_1, show k = M 1 by omega]) dX6_price_54
  · skip
    have htk : 0 ≤ M (2 + k) ∧ M (2 + k) < 64 := ht k h4_0.1 (by omega)
    have hhk := hhd k h4_0.1 (by omega)
    have hsy := sy_le (M (2 + k)) v
    have hpr : pr1 (sl M 2) hd 0 v k = if hd k = 2 ∨ hd k = sy (M (2 + k)) v then 0 else 1 := by unfold pr1; rw [Int.zero_add]; rfl
    refine lv_iload_n C.1 C.2.1 dX6_price_14 rfl (lv_at hl 2 rfl) ?_
    refine lv_aload_n C.1 C.2.1 dX6_price_15 rfl (lv_at hl 0 rfl) ?_
    refine z_get C wd (Cn := RX6) (TT := TX6) (N := 11) (ci := 6) iX6 0 rfl rfl 7 (by decide) L22 (fun _ h => h) rfl dX6_price_16 ?_
    refine lv_iload_n C.1 C.2.1 dX6_price_19 rfl (lv_at hl 3 rfl) ?_
    refine z_iald C wd 2 rfl (by omega) (by decide) dX6_price_20 ?_
    refine z_iconst C dX6_price_21 ?_
    refine z_icmp_eq C (tgt := 44) dX6_price_22 (by decide) (by omega) (fun c_2 => ?_) (fun c_2 => ?_)
    · skip
      refine z_iconst C dX6_price_44 ?_
      refine z_iadd C dX6_price_45 ?_
      refine lv_istore_n (lv' := [(2, .int (iI (x + 0))), (0, .ref m0), (1, .int (iI v)), (3, .int (iI k))]) C.1 C.2.1 dX6_price_46 rfl hl (by decide) rfl (fun ls hl => ?_)
      refine z_iinc C (lv' := [(3, .int (iI (k + 1))), (2, .int (iI (x + 0))), (0, .ref m0), (1, .int (iI v))]) hl 3 dX6_price_47 rfl (by decide) rfl (fun ls hl => ?_)
      refine z_goto C (tgt := 4) dX6_price_50 (by decide) ?_
      exact ih4 (x + 0) (k + 1) ⟨(by omega), (sm_one h4_0.1 h4_1 (by rw [hpr]; first | exact if_pos (by omega) | exact if_neg (by omega)))⟩ (by omega) H locs _ wd (lv_sub hl [2, 3, 1, 0] rfl)
    · skip
      refine lv_aload_n C.1 C.2.1 dX6_price_25 rfl (lv_at hl 0 rfl) ?_
      refine z_get C wd (Cn := RX6) (TT := TX6) (N := 11) (ci := 6) iX6 0 rfl rfl 7 (by decide) L22 (fun _ h => h) rfl dX6_price_26 ?_
      refine lv_iload_n C.1 C.2.1 dX6_price_29 rfl (lv_at hl 3 rfl) ?_
      refine z_iald C wd 2 rfl (by omega) (by decide) dX6_price_30 ?_
      refine lv_aload_n C.1 C.2.1 dX6_price_31 rfl (lv_at hl 0 rfl) ?_
      refine lv_iload_n C.1 C.2.1 dX6_price_32 rfl (lv_at hl 3 rfl) ?_
      refine lv_iload_n C.1 C.2.1 dX6_price_33 rfl (lv_at hl 1 rfl) ?_
      refine z_cvi C wd hA (As := [.int (iI k), .int (iI v)]) (rest := [.int (iI (hd k)), .int (iI x)]) (ws2 := [zO m0 6 [.ref m1, .ref m2, .int (iI st), .ref m3, .int (iI iss), .ref m4, .int (iI ty), .ref m5, .ref m6, .ref m7, .ref m8], zA cy m1 780 M, zA cy m5 3 hd]) (c_X6_symbol l D cy cs m0 m1 m2 m3 m4 m5 m6 m7 m8 st iss ty M k v (by omega) (by omega) (by omega)) (cwV 2 C.2.2.2.2 gX6_price_X6_symbol rfl rfl rfl (by decide +kernel) ⟨Nat.le_of_ble_eq_true rfl, Nat.le_of_ble_eq_true rfl⟩) [0, 1] rfl rfl rfl ⟨rfl, [2], [zA cy m5 3 hd], 3, rfl, rfl, rfl, by decide +kernel⟩ rfl rfl rfl rfl (Nat.le_of_ble_eq_true rfl) hl.1 dX6_price_34 ⟨Nat.zero_le _, Nat.zero_le _⟩ (fun H locs wd => ?_)
      refine z_icmp_eq C (tgt := 44) dX6_price_37 (by decide) (by omega) (fun c_3 => ?_) (fun c_3 => ?_)
      · skip
        refine z_iconst C dX6_price_44 ?_
        refine z_iadd C dX6_price_45 ?_
        refine lv_istore_n (lv' := [(2, .int (iI (x + 0))), (0, .ref m0), (1, .int (iI v)), (3, .int (iI k))]) C.1 C.2.1 dX6_price_46 rfl hl (by decide) rfl (fun ls hl => ?_)
        refine z_iinc C (lv' := [(3, .int (iI (k + 1))), (2, .int (iI (x + 0))), (0, .ref m0), (1, .int (iI v))]) hl 3 dX6_price_47 rfl (by decide) rfl (fun ls hl => ?_)
        refine z_goto C (tgt := 4) dX6_price_50 (by decide) ?_
        exact ih4 (x + 0) (k + 1) ⟨(by omega), (sm_one h4_0.1 h4_1 (by rw [hpr]; first | exact if_pos (by omega) | exact if_neg (by omega)))⟩ (by omega) H locs _ wd (lv_sub hl [2, 3, 1, 0] rfl)
      · skip
        refine z_iconst C dX6_price_40 ?_
        refine z_goto C (tgt := 45) dX6_price_41 (by decide) ?_
        refine z_iadd C dX6_price_45 ?_
        refine lv_istore_n (lv' := [(2, .int (iI (x + 1))), (0, .ref m0), (1, .int (iI v)), (3, .int (iI k))]) C.1 C.2.1 dX6_price_46 rfl hl (by decide) rfl (fun ls hl => ?_)
        refine z_iinc C (lv' := [(3, .int (iI (k + 1))), (2, .int (iI (x + 1))), (0, .ref m0), (1, .int (iI v))]) hl 3 dX6_price_47 rfl (by decide) rfl (fun ls hl => ?_)
        refine z_goto C (tgt := 4) dX6_price_50 (by decide) ?_
        exact ih4 (x + 1) (k + 1) ⟨(by omega), (sm_one h4_0.1 h4_1 (by rw [hpr]; first | exact if_pos (by omega) | exact if_neg (by omega)))⟩ (by omega) H locs _ wd (lv_sub hl [2, 3, 1, 0] rfl)
