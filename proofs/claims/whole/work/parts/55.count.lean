set_option maxRecDepth 100000 in
set_option maxHeartbeats 4000000 in
theorem c_X5_count (l : Launch) (D : va_G) (cy cs : ClassId) (w0 w1 w2 t0 d0 d0k a0 a1 s0 s1 s2 s3 r0 r1 r2 r3 r4 : Nat) (iK n L : Int) (M : Int → Int) (t1 : Nat) (ty x : Int) (hm : 1 ≤ M 0 ∧ M 0 ≤ 5) (ho : 2 ≤ M 1 ∧ M 1 ≤ 3) (hS : 0 ≤ M 9 ∧ M 9 ≤ 80) (hme : mtOk (sl M 572) (M 9)) (hln : 0 ≤ M 7 * M 1 ∧ M 7 * M 1 ≤ 240) (hli : ∀ j : Int, 0 ≤ j → j < 240 → 0 ≤ sl M 92 j ∧ sl M 92 j ≤ 2) (hwa : ∀ j : Int, 0 ≤ j → j < 240 → 0 ≤ sl M 332 j ∧ sl M 332 j ≤ 1) (hx : -2147483648 ≤ x ∧ x < 2147483648) (h11 : M 11 = 0 ∨ M 11 = 1) : zCi l D (zT cy cs) yX5_count wsX5_count ({ frames := 3, cells := 0, slots := 0, locals := 66 } : Room) [.ref w0, .int (iI x)] [zO w0 5 [.ref d0, .ref d0k, .int (iI iK), .ref w1, .int (iI n), .ref t0, .ref w2], zO d0 3 [.int (iI (M 5)), .ref a0, .ref s0, .ref r0], zO a0 0 [.int (iI (M 0)), .int (iI (M 1)), .ref a1], zA cy a1 3 (sl M 2), zO s0 2 [.int (iI (M 6)), .int (iI (M 7)), .ref s1, .ref s2, .ref s3], zA cy s2 240 (sl M 92), zA cy s3 240 (sl M 332), zO r0 1 [.int (iI (M 9)), .int (iI L), .int (iI (M 10)), .int (iI (M 11)), .ref r1, .ref r2, .ref r3, .ref r4], zA cy r2 32 (sl M 572), zO t0 4 [.int (iI ty), .ref t1]] (rdCount M n ty x) [zO w0 5 [.ref d0, .ref d0k, .int (iI iK), .ref w1, .int (iI n), .ref t0, .ref w2], zO d0 3 [.int (iI (M 5)), .ref a0, .ref s0, .ref r0], zO a0 0 [.int (iI (M 0)), .int (iI (M 1)), .ref a1], zA cy a1 3 (sl M 2), zO s0 2 [.int (iI (M 6)), .int (iI (M 7)), .ref s1, .ref s2, .ref s3], zA cy s2 240 (sl M 92), zA cy s3 240 (sl M 332), zO r0 1 [.int (iI (M 9)), .int (iI L), .int (iI (M 10)), .int (iI (M 11)), .ref r1, .ref r2, .ref r3, .ref r4], zA cy r2 32 (sl M 572), zO t0 4 [.int (iI ty), .ref t1]] := by
  intro sz
  refine zM_mk (cc := cX5_count) (maxL := 2) (ret := (some .int)) (own := RX5) (Qc := fun sz => va_Qi (fun r (_ : Unit) => r = iI (rdCount M n ty x)) (fun _ t9 => zQ D (zT cy cs) (va_A [zO w0 5 [.ref d0, .ref d0k, .int (iI iK), .ref w1, .int (iI n), .ref t0, .ref w2], zO d0 3 [.int (iI (M 5)), .ref a0, .ref s0, .ref r0], zO a0 0 [.int (iI (M 0)), .int (iI (M 1)), .ref a1], zA cy a1 3 (sl M 2), zO s0 2 [.int (iI (M 6)), .int (iI (M 7)), .ref s1, .ref s2, .ref s3], zA cy s2 240 (sl M 92), zA cy s3 240 (sl M 332), zO r0 1 [.int (iI (M 9)), .int (iI L), .int (iI (M 10)), .int (iI (M 11)), .ref r1, .ref r2, .ref r3, .ref r4], zA cy r2 32 (sl M 572), zO t0 4 [.int (iI ty), .ref t1]] sz) [zO w0 5 [.ref d0, .ref d0k, .int (iI iK), .ref w1, .int (iI n), .ref t0, .ref w2], zO d0 3 [.int (iI (M 5)), .ref a0, .ref s0, .ref r0], zO a0 0 [.int (iI (M 0)), .int (iI (M 1)), .ref a1], zA cy a1 3 (sl M 2), zO s0 2 [.int (iI (M 6)), .int (iI (M 7)), .ref s1, .ref s2, .ref s3], zA cy s2 240 (sl M 92), zA cy s3 240 (sl M 332), zO r0 1 [.int (iI (M 9)), .int (iI L), .int (iI (M 10)), .int (iI (M 11)), .ref r1, .ref r2, .ref r3, .ref r4], zA cy r2 32 (sl M 572), zO t0 4 [.int (iI ty), .ref t1]] t9) (va_A [zO w0 5 [.ref d0, .ref d0k, .int (iI iK), .ref w1, .int (iI n), .ref t0, .ref w2], zO d0 3 [.int (iI (M 5)), .ref a0, .ref s0, .ref r0], zO a0 0 [.int (iI (M 0)), .int (iI (M 1)), .ref a1], zA cy a1 3 (sl M 2), zO s0 2 [.int (iI (M 6)), .int (iI (M 7)), .ref s1, .ref s2, .ref s3], zA cy s2 240 (sl M 92), zA cy s3 240 (sl M 332), zO r0 1 [.int (iI (M 9)), .int (iI L), .int (iI (M 10)), .int (iI (M 11)), .ref r1, .ref r2, .ref r3, .ref r4], zA cy r2 32 (sl M 572), zO t0 4 [.int (iI ty), .ref t1]] sz)) (by decide) rfl rfl (Nat.le_of_ble_eq_true rfl) rfl sz ?_
  intro p e s m args below meth c ls C hr hlk hnm hl hsz hA wd
  subst hsz
  have hl : lv_has ls 2 [(0, .ref w0), (1, .int (iI x))] := hl
  have iX0 : ∀ w ∈ u_ws RX0 TX0 3, w ∈ wsX5_count := by decide +kernel
  have iX1 : ∀ w ∈ u_ws RX1 TX1 8, w ∈ wsX5_count := by decide +kernel
  have iX2 : ∀ w ∈ u_ws RX2 TX2 5, w ∈ wsX5_count := by decide +kernel
  have iX3 : ∀ w ∈ u_ws RX3 TX3 4, w ∈ wsX5_count := by decide +kernel
  have iX4 : ∀ w ∈ u_ws RX4 TX4 2, w ∈ wsX5_count := by decide +kernel
  have iX5 : ∀ w ∈ u_ws RX5 TX5 7, w ∈ wsX5_count := by decide +kernel
  have L12 := C.2.2.2.2 (.fieldLink RX5 12 "LikelyWalks" "now" "LLikelyWalks$State;") (by decide +kernel)
  have L27 := C.2.2.2.2 (.fieldLink RX5 27 "LikelyWalks" "pastCount" "I") (by decide +kernel)
  have L34 := C.2.2.2.2 (.fieldLink RX5 34 "LikelyWalks" "text" "LLikelyWalks$Text;") (by decide +kernel)
  have L45 := C.2.2.2.2 (.fieldLink RX5 45 "LikelyWalks$State" "code" "LLikelyWalks$Code;") (by decide +kernel)
  have L55 := C.2.2.2.2 (.fieldLink RX5 55 "LikelyWalks$State" "sender" "LLikelyWalks$Sender;") (by decide +kernel)
  have L64 := C.2.2.2.2 (.fieldLink RX5 64 "LikelyWalks$State" "reader" "LLikelyWalks$Reader;") (by decide +kernel)
  have L71 := C.2.2.2.2 (.fieldLink RX5 71 "LikelyWalks$Code" "outputs" "I") (by decide +kernel)
  have L74 := C.2.2.2.2 (.fieldLink RX5 74 "LikelyWalks$Reader" "steps" "I") (by decide +kernel)
  have L77 := C.2.2.2.2 (.fieldLink RX5 77 "LikelyWalks$State" "depth" "I") (by decide +kernel)
  have L84 := C.2.2.2.2 (.fieldLink RX5 84 "LikelyWalks$Sender" "bitCount" "I") (by decide +kernel)
  have L87 := C.2.2.2.2 (.fieldLink RX5 87 "LikelyWalks$Text" "length" "I") (by decide +kernel)
  have L97 := C.2.2.2.2 (.fieldLink RX5 97 "LikelyWalks$Code" "memory" "I") (by decide +kernel)
  have L110 := C.2.2.2.2 (.fieldLink RX5 110 "LikelyWalks$Reader" "isFinished" "Z") (by decide +kernel)
  have L120 := C.2.2.2.2 (.fieldLink RX5 120 "LikelyWalks$Reader" "releasedCount" "I") (by decide +kernel)
  have L123 := C.2.2.2.2 (.fieldLink RX5 123 "LikelyWalks$Reader" "metrics" "[I") (by decide +kernel)
  have L181 := C.2.2.2.2 (.fieldLink RX5 181 "LikelyWalks$Code" "taps" "[I") (by decide +kernel)
  have L188 := C.2.2.2.2 (.fieldLink RX5 188 "LikelyWalks$Sender" "register" "I") (by decide +kernel)
  have hp := p2_all hm.1 hm.2
  have hbs := bsc_le (sl M 572) (n := (p2 (M 0)).toNat) (by omega)
  refine lv_iload_n C.1 C.2.1 dX5_count_0 rfl (lv_at hl 1 rfl) ?_
  rcases Int.lt_or_le x 0 with c_1 | c_1
  · skip
    refine lv_tableOut (tgt := 325) C.1 C.2.1 dX5_count_1 (Or.inl (by rw [iI_toInt (by omega) (by omega)]; exact c_1)) (by decide) ?_
    refine z_bipush C dX5_count_325 (by decide +kernel) ?_
    exact z_iret C hr hlk wd (by unfold rdCount; (repeat (first | rw [if_pos (by omega)] | rw [if_neg (by omega)])); first | done | rfl | omega) dX5_count_327
  rcases Int.lt_or_le 18 x with c_1 | c_1b
  · skip
    refine lv_tableOut (tgt := 325) C.1 C.2.1 dX5_count_1 (Or.inr (by rw [iI_toInt (by omega) (by omega)]; exact c_1)) (by decide) ?_
    refine z_bipush C dX5_count_325 (by decide +kernel) ?_
    exact z_iret C hr hlk wd (by unfold rdCount; (repeat (first | rw [if_pos (by omega)] | rw [if_neg (by omega)])); first | done | rfl | omega) dX5_count_327
  rcases (show x = 0 ∨ x = 1 ∨ x = 2 ∨ x = 3 ∨ x = 4 ∨ x = 5 ∨ x = 6 ∨ x = 7 ∨ x = 8 ∨ x = 9 ∨ x = 10 ∨ x = 11 ∨ x = 12 ∨ x = 13 ∨ x = 14 ∨ x = 15 ∨ x = 16 ∨ x = 17 ∨ x = 18 by omega) with c_1c | c_1c | c_1c | c_1c | c_1c | c_1c | c_1c | c_1c | c_1c | c_1c | c_1c | c_1c | c_1c | c_1c | c_1c | c_1c | c_1c | c_1c | c_1c
  · skip
    refine lv_tableIn (tgt := 92) (off := 91) C.1 C.2.1 dX5_count_1 (by rw [iI_toInt (by omega) (by omega)]; omega) (by rw [iI_toInt (by omega) (by omega)]; omega) (by rw [iI_toInt (by omega) (by omega), c_1c]; rfl) (by decide) ?_
    refine lv_aload_n C.1 C.2.1 dX5_count_92 rfl (lv_at hl 0 rfl) ?_
    refine z_get C wd (Cn := RX5) (TT := TX5) (N := 7) (ci := 5) iX5 0 rfl rfl 0 (by decide) L12 (fun _ h => h) rfl dX5_count_93 ?_
    refine z_get C wd (Cn := RX3) (TT := TX3) (N := 4) (ci := 3) iX3 1 rfl rfl 1 (by decide) L45 (fun _ h => h) rfl dX5_count_96 ?_
    refine z_get C wd (Cn := RX0) (TT := TX0) (N := 3) (ci := 0) iX0 2 rfl rfl 0 (by decide) L97 (fun _ h => h) rfl dX5_count_99 ?_
    exact z_iret C hr hlk wd (by unfold rdCount; (repeat (first | rw [if_pos (by omega)] | rw [if_neg (by omega)])); first | done | rfl | omega) dX5_count_102
  · skip
    refine lv_tableIn (tgt := 103) (off := 102) C.1 C.2.1 dX5_count_1 (by rw [iI_toInt (by omega) (by omega)]; omega) (by rw [iI_toInt (by omega) (by omega)]; omega) (by rw [iI_toInt (by omega) (by omega), c_1c]; rfl) (by decide) ?_
    refine lv_aload_n C.1 C.2.1 dX5_count_103 rfl (lv_at hl 0 rfl) ?_
    refine z_get C wd (Cn := RX5) (TT := TX5) (N := 7) (ci := 5) iX5 0 rfl rfl 0 (by decide) L12 (fun _ h => h) rfl dX5_count_104 ?_
    refine z_get C wd (Cn := RX3) (TT := TX3) (N := 4) (ci := 3) iX3 1 rfl rfl 1 (by decide) L45 (fun _ h => h) rfl dX5_count_107 ?_
    refine z_get C wd (Cn := RX0) (TT := TX0) (N := 3) (ci := 0) iX0 2 rfl rfl 1 (by decide) L71 (fun _ h => h) rfl dX5_count_110 ?_
    exact z_iret C hr hlk wd (by unfold rdCount; (repeat (first | rw [if_pos (by omega)] | rw [if_neg (by omega)])); first | done | rfl | omega) dX5_count_113
  · skip
    refine lv_tableIn (tgt := 114) (off := 113) C.1 C.2.1 dX5_count_1 (by rw [iI_toInt (by omega) (by omega)]; omega) (by rw [iI_toInt (by omega) (by omega)]; omega) (by rw [iI_toInt (by omega) (by omega), c_1c]; rfl) (by decide) ?_
    refine lv_aload_n C.1 C.2.1 dX5_count_114 rfl (lv_at hl 0 rfl) ?_
    refine z_get C wd (Cn := RX5) (TT := TX5) (N := 7) (ci := 5) iX5 0 rfl rfl 0 (by decide) L12 (fun _ h => h) rfl dX5_count_115 ?_
    refine z_get C wd (Cn := RX3) (TT := TX3) (N := 4) (ci := 3) iX3 1 rfl rfl 1 (by decide) L45 (fun _ h => h) rfl dX5_count_118 ?_
    refine z_get C wd (Cn := RX0) (TT := TX0) (N := 3) (ci := 0) iX0 2 rfl rfl 2 (by decide) L181 (fun _ h => h) rfl dX5_count_121 ?_
    refine lv_iload_n C.1 C.2.1 dX5_count_124 rfl (lv_at hl 1 rfl) ?_
    refine z_iconst C dX5_count_125 ?_
    refine z_isub C dX5_count_126 ?_
    refine z_iald C wd 3 rfl (by omega) (by decide) dX5_count_127 ?_
    exact z_iret C hr hlk wd (by unfold rdCount; rcases (show x = 2 ∨ x = 3 by omega) with rfl | rfl <;> rfl) dX5_count_128
  · skip
    refine lv_tableIn (tgt := 114) (off := 113) C.1 C.2.1 dX5_count_1 (by rw [iI_toInt (by omega) (by omega)]; omega) (by rw [iI_toInt (by omega) (by omega)]; omega) (by rw [iI_toInt (by omega) (by omega), c_1c]; rfl) (by decide) ?_
    refine lv_aload_n C.1 C.2.1 dX5_count_114 rfl (lv_at hl 0 rfl) ?_
    refine z_get C wd (Cn := RX5) (TT := TX5) (N := 7) (ci := 5) iX5 0 rfl rfl 0 (by decide) L12 (fun _ h => h) rfl dX5_count_115 ?_
    refine z_get C wd (Cn := RX3) (TT := TX3) (N := 4) (ci := 3) iX3 1 rfl rfl 1 (by decide) L45 (fun _ h => h) rfl dX5_count_118 ?_
    refine z_get C wd (Cn := RX0) (TT := TX0) (N := 3) (ci := 0) iX0 2 rfl rfl 2 (by decide) L181 (fun _ h => h) rfl dX5_count_121 ?_
    refine lv_iload_n C.1 C.2.1 dX5_count_124 rfl (lv_at hl 1 rfl) ?_
    refine z_iconst C dX5_count_125 ?_
    refine z_isub C dX5_count_126 ?_
    refine z_iald C wd 3 rfl (by omega) (by decide) dX5_count_127 ?_
    exact z_iret C hr hlk wd (by unfold rdCount; rcases (show x = 2 ∨ x = 3 by omega) with rfl | rfl <;> rfl) dX5_count_128
  · skip
    refine lv_tableIn (tgt := 129) (off := 128) C.1 C.2.1 dX5_count_1 (by rw [iI_toInt (by omega) (by omega)]; omega) (by rw [iI_toInt (by omega) (by omega)]; omega) (by rw [iI_toInt (by omega) (by omega), c_1c]; rfl) (by decide) ?_
    refine lv_aload_n C.1 C.2.1 dX5_count_129 rfl (lv_at hl 0 rfl) ?_
    refine z_get C wd (Cn := RX5) (TT := TX5) (N := 7) (ci := 5) iX5 0 rfl rfl 0 (by decide) L12 (fun _ h => h) rfl dX5_count_130 ?_
    refine z_get C wd (Cn := RX3) (TT := TX3) (N := 4) (ci := 3) iX3 1 rfl rfl 1 (by decide) L45 (fun _ h => h) rfl dX5_count_133 ?_
    refine z_get C wd (Cn := RX0) (TT := TX0) (N := 3) (ci := 0) iX0 2 rfl rfl 1 (by decide) L71 (fun _ h => h) rfl dX5_count_136 ?_
    refine z_iconst C dX5_count_139 ?_
    refine z_icmp_ge C (tgt := 148) dX5_count_140 (by decide) (by omega) (fun c_2 => ?_) (fun c_2 => ?_)
    · skip
      refine lv_aload_n C.1 C.2.1 dX5_count_148 rfl (lv_at hl 0 rfl) ?_
      refine z_get C wd (Cn := RX5) (TT := TX5) (N := 7) (ci := 5) iX5 0 rfl rfl 0 (by decide) L12 (fun _ h => h) rfl dX5_count_149 ?_
      refine z_get C wd (Cn := RX3) (TT := TX3) (N := 4) (ci := 3) iX3 1 rfl rfl 1 (by decide) L45 (fun _ h => h) rfl dX5_count_152 ?_
      refine z_get C wd (Cn := RX0) (TT := TX0) (N := 3) (ci := 0) iX0 2 rfl rfl 2 (by decide) L181 (fun _ h => h) rfl dX5_count_155 ?_
      refine z_iconst C dX5_count_158 ?_
      refine z_iald C wd 3 rfl (by omega) (by decide) dX5_count_159 ?_
      exact z_iret C hr hlk wd (by unfold rdCount; (repeat (first | rw [if_pos (by omega)] | rw [if_neg (by omega)])); first | done | rfl | omega) dX5_count_160
    · skip
      refine z_bipush C dX5_count_143 (by decide +kernel) ?_
      refine z_goto C (tgt := 160) dX5_count_145 (by decide) ?_
      exact z_iret C hr hlk wd (by unfold rdCount; (repeat (first | rw [if_pos (by omega)] | rw [if_neg (by omega)])); first | done | rfl | omega) dX5_count_160
  · skip
    refine lv_tableIn (tgt := 161) (off := 160) C.1 C.2.1 dX5_count_1 (by rw [iI_toInt (by omega) (by omega)]; omega) (by rw [iI_toInt (by omega) (by omega)]; omega) (by rw [iI_toInt (by omega) (by omega), c_1c]; rfl) (by decide) ?_
    refine lv_aload_n C.1 C.2.1 dX5_count_161 rfl (lv_at hl 0 rfl) ?_
    refine z_get C wd (Cn := RX5) (TT := TX5) (N := 7) (ci := 5) iX5 0 rfl rfl 0 (by decide) L12 (fun _ h => h) rfl dX5_count_162 ?_
    refine z_get C wd (Cn := RX3) (TT := TX3) (N := 4) (ci := 3) iX3 1 rfl rfl 0 (by decide) L77 (fun _ h => h) rfl dX5_count_165 ?_
    exact z_iret C hr hlk wd (by unfold rdCount; (repeat (first | rw [if_pos (by omega)] | rw [if_neg (by omega)])); first | done | rfl | omega) dX5_count_168
  · skip
    refine lv_tableIn (tgt := 169) (off := 168) C.1 C.2.1 dX5_count_1 (by rw [iI_toInt (by omega) (by omega)]; omega) (by rw [iI_toInt (by omega) (by omega)]; omega) (by rw [iI_toInt (by omega) (by omega), c_1c]; rfl) (by decide) ?_
    refine lv_aload_n C.1 C.2.1 dX5_count_169 rfl (lv_at hl 0 rfl) ?_
    refine z_get C wd (Cn := RX5) (TT := TX5) (N := 7) (ci := 5) iX5 0 rfl rfl 0 (by decide) L12 (fun _ h => h) rfl dX5_count_170 ?_
    refine z_get C wd (Cn := RX3) (TT := TX3) (N := 4) (ci := 3) iX3 1 rfl rfl 2 (by decide) L55 (fun _ h => h) rfl dX5_count_173 ?_
    refine z_get C wd (Cn := RX2) (TT := TX2) (N := 5) (ci := 2) iX2 4 rfl rfl 1 (by decide) L84 (fun _ h => h) rfl dX5_count_176 ?_
    exact z_iret C hr hlk wd (by unfold rdCount; (repeat (first | rw [if_pos (by omega)] | rw [if_neg (by omega)])); first | done | rfl | omega) dX5_count_179
  · skip
    refine lv_tableIn (tgt := 180) (off := 179) C.1 C.2.1 dX5_count_1 (by rw [iI_toInt (by omega) (by omega)]; omega) (by rw [iI_toInt (by omega) (by omega)]; omega) (by rw [iI_toInt (by omega) (by omega), c_1c]; rfl) (by decide) ?_
    refine lv_aload_n C.1 C.2.1 dX5_count_180 rfl (lv_at hl 0 rfl) ?_
    refine z_cvi C wd hA (As := []) (rest := []) (ws2 := [zO w0 5 [.ref d0, .ref d0k, .int (iI iK), .ref w1, .int (iI n), .ref t0, .ref w2], zO d0 3 [.int (iI (M 5)), .ref a0, .ref s0, .ref r0], zO a0 0 [.int (iI (M 0)), .int (iI (M 1)), .ref a1], zA cy a1 3 (sl M 2), zO s0 2 [.int (iI (M 6)), .int (iI (M 7)), .ref s1, .ref s2, .ref s3], zA cy s2 240 (sl M 92), zA cy s3 240 (sl M 332), zO r0 1 [.int (iI (M 9)), .int (iI L), .int (iI (M 10)), .int (iI (M 11)), .ref r1, .ref r2, .ref r3, .ref r4], zA cy r2 32 (sl M 572), zO t0 4 [.int (iI ty), .ref t1]]) (c_X5_lineLength l D cy cs w0 w1 w2 t0 d0 d0k a0 a1 s0 s1 s2 s3 r0 0 0 0 0 iK n 0 M ) (cwV 0 C.2.2.2.2 gX5_count_X5_lineLength rfl rfl rfl (by decide +kernel) ⟨Nat.le_of_ble_eq_true rfl, Nat.le_of_ble_eq_true rfl⟩) [0, 1, 2, 4] rfl rfl rfl ⟨rfl, [3, 5, 6, 7, 8, 9], [zA cy a1 3 (sl M 2), zA cy s2 240 (sl M 92), zA cy s3 240 (sl M 332), zO r0 1 [.int (iI (M 9)), .int (iI L), .int (iI (M 10)), .int (iI (M 11)), .ref r1, .ref r2, .ref r3, .ref r4], zA cy r2 32 (sl M 572), zO t0 4 [.int (iI ty), .ref t1]], 10, rfl, rfl, rfl, by decide +kernel⟩ rfl rfl rfl rfl (Nat.le_of_ble_eq_true rfl) hl.1 dX5_count_181 ⟨Nat.zero_le _, Nat.zero_le _⟩ (fun H locs wd => ?_)
    exact z_iret C hr hlk wd (by unfold rdCount; (repeat (first | rw [if_pos (by omega)] | rw [if_neg (by omega)])); first | done | rfl | omega) dX5_count_184
  · skip
    refine lv_tableIn (tgt := 185) (off := 184) C.1 C.2.1 dX5_count_1 (by rw [iI_toInt (by omega) (by omega)]; omega) (by rw [iI_toInt (by omega) (by omega)]; omega) (by rw [iI_toInt (by omega) (by omega), c_1c]; rfl) (by decide) ?_
    refine lv_aload_n C.1 C.2.1 dX5_count_185 rfl (lv_at hl 0 rfl) ?_
    refine z_get C wd (Cn := RX5) (TT := TX5) (N := 7) (ci := 5) iX5 0 rfl rfl 0 (by decide) L12 (fun _ h => h) rfl dX5_count_186 ?_
    refine z_get C wd (Cn := RX3) (TT := TX3) (N := 4) (ci := 3) iX3 1 rfl rfl 2 (by decide) L55 (fun _ h => h) rfl dX5_count_189 ?_
    refine z_get C wd (Cn := RX2) (TT := TX2) (N := 5) (ci := 2) iX2 4 rfl rfl 0 (by decide) L188 (fun _ h => h) rfl dX5_count_192 ?_
    exact z_iret C hr hlk wd (by unfold rdCount; (repeat (first | rw [if_pos (by omega)] | rw [if_neg (by omega)])); first | done | rfl | omega) dX5_count_195
  · skip
    refine lv_tableIn (tgt := 196) (off := 195) C.1 C.2.1 dX5_count_1 (by rw [iI_toInt (by omega) (by omega)]; omega) (by rw [iI_toInt (by omega) (by omega)]; omega) (by rw [iI_toInt (by omega) (by omega), c_1c]; rfl) (by decide) ?_
    refine lv_aload_n C.1 C.2.1 dX5_count_196 rfl (lv_at hl 0 rfl) ?_
    refine z_cvi C wd hA (As := []) (rest := []) (ws2 := [zO w0 5 [.ref d0, .ref d0k, .int (iI iK), .ref w1, .int (iI n), .ref t0, .ref w2], zO d0 3 [.int (iI (M 5)), .ref a0, .ref s0, .ref r0], zO a0 0 [.int (iI (M 0)), .int (iI (M 1)), .ref a1], zA cy a1 3 (sl M 2), zO s0 2 [.int (iI (M 6)), .int (iI (M 7)), .ref s1, .ref s2, .ref s3], zA cy s2 240 (sl M 92), zA cy s3 240 (sl M 332), zO r0 1 [.int (iI (M 9)), .int (iI L), .int (iI (M 10)), .int (iI (M 11)), .ref r1, .ref r2, .ref r3, .ref r4], zA cy r2 32 (sl M 572), zO t0 4 [.int (iI ty), .ref t1]]) (c_X5_erasedSymbols l D cy cs w0 w1 w2 t0 d0 d0k a0 a1 s0 s1 s2 s3 r0 0 0 0 0 iK n 0 M (by omega) (by omega)) (cwV 0 C.2.2.2.2 gX5_count_X5_erasedSymbols rfl rfl rfl (by decide +kernel) ⟨Nat.le_of_ble_eq_true rfl, Nat.le_of_ble_eq_true rfl⟩) [0, 1, 2, 4, 5] rfl rfl rfl ⟨rfl, [3, 6, 7, 8, 9], [zA cy a1 3 (sl M 2), zA cy s3 240 (sl M 332), zO r0 1 [.int (iI (M 9)), .int (iI L), .int (iI (M 10)), .int (iI (M 11)), .ref r1, .ref r2, .ref r3, .ref r4], zA cy r2 32 (sl M 572), zO t0 4 [.int (iI ty), .ref t1]], 10, rfl, rfl, rfl, by decide +kernel⟩ rfl rfl rfl rfl (Nat.le_of_ble_eq_true rfl) hl.1 dX5_count_197 ⟨Nat.zero_le _, Nat.zero_le _⟩ (fun H locs wd => ?_)
    exact z_iret C hr hlk wd (by unfold rdCount; (repeat (first | rw [if_pos (by omega)] | rw [if_neg (by omega)])); first | done | rfl | omega) dX5_count_200
  · skip
    refine lv_tableIn (tgt := 201) (off := 200) C.1 C.2.1 dX5_count_1 (by rw [iI_toInt (by omega) (by omega)]; omega) (by rw [iI_toInt (by omega) (by omega)]; omega) (by rw [iI_toInt (by omega) (by omega), c_1c]; rfl) (by decide) ?_
    refine lv_aload_n C.1 C.2.1 dX5_count_201 rfl (lv_at hl 0 rfl) ?_
    refine z_cvi C wd hA (As := []) (rest := []) (ws2 := [zO w0 5 [.ref d0, .ref d0k, .int (iI iK), .ref w1, .int (iI n), .ref t0, .ref w2], zO d0 3 [.int (iI (M 5)), .ref a0, .ref s0, .ref r0], zO a0 0 [.int (iI (M 0)), .int (iI (M 1)), .ref a1], zA cy a1 3 (sl M 2), zO s0 2 [.int (iI (M 6)), .int (iI (M 7)), .ref s1, .ref s2, .ref s3], zA cy s2 240 (sl M 92), zA cy s3 240 (sl M 332), zO r0 1 [.int (iI (M 9)), .int (iI L), .int (iI (M 10)), .int (iI (M 11)), .ref r1, .ref r2, .ref r3, .ref r4], zA cy r2 32 (sl M 572), zO t0 4 [.int (iI ty), .ref t1]]) (c_X5_flippedSymbols l D cy cs w0 w1 w2 t0 d0 d0k a0 a1 s0 s1 s2 s3 r0 0 0 0 0 iK n 0 M (by omega) (by omega) (by omega)) (cwV 0 C.2.2.2.2 gX5_count_X5_flippedSymbols rfl rfl rfl (by decide +kernel) ⟨Nat.le_of_ble_eq_true rfl, Nat.le_of_ble_eq_true rfl⟩) [0, 1, 2, 4, 5, 6] rfl rfl rfl ⟨rfl, [3, 7, 8, 9], [zA cy a1 3 (sl M 2), zO r0 1 [.int (iI (M 9)), .int (iI L), .int (iI (M 10)), .int (iI (M 11)), .ref r1, .ref r2, .ref r3, .ref r4], zA cy r2 32 (sl M 572), zO t0 4 [.int (iI ty), .ref t1]], 10, rfl, rfl, rfl, by decide +kernel⟩ rfl rfl rfl rfl (Nat.le_of_ble_eq_true rfl) hl.1 dX5_count_202 ⟨Nat.zero_le _, Nat.zero_le _⟩ (fun H locs wd => ?_)
    exact z_iret C hr hlk wd (by unfold rdCount; (repeat (first | rw [if_pos (by omega)] | rw [if_neg (by omega)])); first | done | rfl | omega) dX5_count_205
  · skip
    refine lv_tableIn (tgt := 206) (off := 205) C.1 C.2.1 dX5_count_1 (by rw [iI_toInt (by omega) (by omega)]; omega) (by rw [iI_toInt (by omega) (by omega)]; omega) (by rw [iI_toInt (by omega) (by omega), c_1c]; rfl) (by decide) ?_
    refine lv_aload_n C.1 C.2.1 dX5_count_206 rfl (lv_at hl 0 rfl) ?_
    refine z_get C wd (Cn := RX5) (TT := TX5) (N := 7) (ci := 5) iX5 0 rfl rfl 0 (by decide) L12 (fun _ h => h) rfl dX5_count_207 ?_
    refine z_get C wd (Cn := RX3) (TT := TX3) (N := 4) (ci := 3) iX3 1 rfl rfl 3 (by decide) L64 (fun _ h => h) rfl dX5_count_210 ?_
    refine z_get C wd (Cn := RX1) (TT := TX1) (N := 8) (ci := 1) iX1 7 rfl rfl 0 (by decide) L74 (fun _ h => h) rfl dX5_count_213 ?_
    exact z_iret C hr hlk wd (by unfold rdCount; (repeat (first | rw [if_pos (by omega)] | rw [if_neg (by omega)])); first | done | rfl | omega) dX5_count_216
  · skip
    refine lv_tableIn (tgt := 217) (off := 216) C.1 C.2.1 dX5_count_1 (by rw [iI_toInt (by omega) (by omega)]; omega) (by rw [iI_toInt (by omega) (by omega)]; omega) (by rw [iI_toInt (by omega) (by omega), c_1c]; rfl) (by decide) ?_
    refine lv_aload_n C.1 C.2.1 dX5_count_217 rfl (lv_at hl 0 rfl) ?_
    refine z_get C wd (Cn := RX5) (TT := TX5) (N := 7) (ci := 5) iX5 0 rfl rfl 0 (by decide) L12 (fun _ h => h) rfl dX5_count_218 ?_
    refine z_get C wd (Cn := RX3) (TT := TX3) (N := 4) (ci := 3) iX3 1 rfl rfl 3 (by decide) L64 (fun _ h => h) rfl dX5_count_221 ?_
    refine z_get C wd (Cn := RX1) (TT := TX1) (N := 8) (ci := 1) iX1 7 rfl rfl 2 (by decide) L120 (fun _ h => h) rfl dX5_count_224 ?_
    exact z_iret C hr hlk wd (by unfold rdCount; (repeat (first | rw [if_pos (by omega)] | rw [if_neg (by omega)])); first | done | rfl | omega) dX5_count_227
  · skip
    refine lv_tableIn (tgt := 228) (off := 227) C.1 C.2.1 dX5_count_1 (by rw [iI_toInt (by omega) (by omega)]; omega) (by rw [iI_toInt (by omega) (by omega)]; omega) (by rw [iI_toInt (by omega) (by omega), c_1c]; rfl) (by decide) ?_
    refine lv_aload_n C.1 C.2.1 dX5_count_228 rfl (lv_at hl 0 rfl) ?_
    refine z_get C wd (Cn := RX5) (TT := TX5) (N := 7) (ci := 5) iX5 0 rfl rfl 0 (by decide) L12 (fun _ h => h) rfl dX5_count_229 ?_
    refine z_get C wd (Cn := RX3) (TT := TX3) (N := 4) (ci := 3) iX3 1 rfl rfl 3 (by decide) L64 (fun _ h => h) rfl dX5_count_232 ?_
    refine lv_aload_n C.1 C.2.1 dX5_count_235 rfl (lv_at hl 0 rfl) ?_
    refine z_get C wd (Cn := RX5) (TT := TX5) (N := 7) (ci := 5) iX5 0 rfl rfl 0 (by decide) L12 (fun _ h => h) rfl dX5_count_236 ?_
    refine z_get C wd (Cn := RX3) (TT := TX3) (N := 4) (ci := 3) iX3 1 rfl rfl 1 (by decide) L45 (fun _ h => h) rfl dX5_count_239 ?_
    refine z_cvi C wd hA (As := [.ref a0]) (rest := []) (ws2 := [zO w0 5 [.ref d0, .ref d0k, .int (iI iK), .ref w1, .int (iI n), .ref t0, .ref w2], zO d0 3 [.int (iI (M 5)), .ref a0, .ref s0, .ref r0], zO a0 0 [.int (iI (M 0)), .int (iI (M 1)), .ref a1], zA cy a1 3 (sl M 2), zO s0 2 [.int (iI (M 6)), .int (iI (M 7)), .ref s1, .ref s2, .ref s3], zA cy s2 240 (sl M 92), zA cy s3 240 (sl M 332), zO r0 1 [.int (iI (M 9)), .int (iI L), .int (iI (M 10)), .int (iI (M 11)), .ref r1, .ref r2, .ref r3, .ref r4], zA cy r2 32 (sl M 572), zO t0 4 [.int (iI ty), .ref t1]]) (c_X1_bestState l D cy cs r0 r1 r2 r3 r4 a0 a1 (M 9) L (M 10) (M 11) (M 0) (M 1) (sl M 572) (by omega) (by omega) hme) (cwV 1 C.2.2.2.2 gX5_count_X1_bestState rfl rfl rfl (by decide +kernel) ⟨Nat.le_of_ble_eq_true rfl, Nat.le_of_ble_eq_true rfl⟩) [7, 8, 2] rfl rfl rfl ⟨rfl, [0, 1, 3, 4, 5, 6, 9], [zO w0 5 [.ref d0, .ref d0k, .int (iI iK), .ref w1, .int (iI n), .ref t0, .ref w2], zO d0 3 [.int (iI (M 5)), .ref a0, .ref s0, .ref r0], zA cy a1 3 (sl M 2), zO s0 2 [.int (iI (M 6)), .int (iI (M 7)), .ref s1, .ref s2, .ref s3], zA cy s2 240 (sl M 92), zA cy s3 240 (sl M 332), zO t0 4 [.int (iI ty), .ref t1]], 10, rfl, rfl, rfl, by decide +kernel⟩ rfl rfl rfl rfl (Nat.le_of_ble_eq_true rfl) hl.1 dX5_count_242 ⟨Nat.zero_le _, Nat.zero_le _⟩ (fun H locs wd => ?_)
    have wd := z_fld wd (ws2 := [zO w0 5 [.ref d0, .ref d0k, .int (iI iK), .ref w1, .int (iI n), .ref t0, .ref w2], zO d0 3 [.int (iI (M 5)), .ref a0, .ref s0, .ref r0], zO a0 0 [.int (iI (M 0)), .int (iI (M 1)), .ref a1], zA cy a1 3 (sl M 2), zO s0 2 [.int (iI (M 6)), .int (iI (M 7)), .ref s1, .ref s2, .ref s3], zA cy s2 240 (sl M 92), zA cy s3 240 (sl M 332), zO r0 1 [.int (iI (M 9)), .int (iI L), .int (iI (M 10)), .int (iI (M 11)), .ref r1, .ref r2, .ref r3, .ref r4], zA cy r2 32 (sl M 572), zO t0 4 [.int (iI ty), .ref t1]]) 2 rfl (congrArg (fun z0 => zO a0 0 [.int (iI z0), .int (iI (M 1)), .ref a1]) (show ((M 0) : Int) = M 0 from (by omega))) rfl
    have wd := z_fld wd (ws2 := [zO w0 5 [.ref d0, .ref d0k, .int (iI iK), .ref w1, .int (iI n), .ref t0, .ref w2], zO d0 3 [.int (iI (M 5)), .ref a0, .ref s0, .ref r0], zO a0 0 [.int (iI (M 0)), .int (iI (M 1)), .ref a1], zA cy a1 3 (sl M 2), zO s0 2 [.int (iI (M 6)), .int (iI (M 7)), .ref s1, .ref s2, .ref s3], zA cy s2 240 (sl M 92), zA cy s3 240 (sl M 332), zO r0 1 [.int (iI (M 9)), .int (iI L), .int (iI (M 10)), .int (iI (M 11)), .ref r1, .ref r2, .ref r3, .ref r4], zA cy r2 32 (sl M 572), zO t0 4 [.int (iI ty), .ref t1]]) 2 rfl (congrArg (fun z0 => zO a0 0 [.int (iI (M 0)), .int (iI z0), .ref a1]) (show ((M 1) : Int) = M 1 from (by omega))) rfl
    have wd := z_fld wd (ws2 := [zO w0 5 [.ref d0, .ref d0k, .int (iI iK), .ref w1, .int (iI n), .ref t0, .ref w2], zO d0 3 [.int (iI (M 5)), .ref a0, .ref s0, .ref r0], zO a0 0 [.int (iI (M 0)), .int (iI (M 1)), .ref a1], zA cy a1 3 (sl M 2), zO s0 2 [.int (iI (M 6)), .int (iI (M 7)), .ref s1, .ref s2, .ref s3], zA cy s2 240 (sl M 92), zA cy s3 240 (sl M 332), zO r0 1 [.int (iI (M 9)), .int (iI L), .int (iI (M 10)), .int (iI (M 11)), .ref r1, .ref r2, .ref r3, .ref r4], zA cy r2 32 (sl M 572), zO t0 4 [.int (iI ty), .ref t1]]) 7 rfl (congrArg (fun z0 => zO r0 1 [.int (iI z0), .int (iI L), .int (iI (M 10)), .int (iI (M 11)), .ref r1, .ref r2, .ref r3, .ref r4]) (show ((M 9) : Int) = M 9 from (by omega))) rfl
    have wd := z_fld wd (ws2 := [zO w0 5 [.ref d0, .ref d0k, .int (iI iK), .ref w1, .int (iI n), .ref t0, .ref w2], zO d0 3 [.int (iI (M 5)), .ref a0, .ref s0, .ref r0], zO a0 0 [.int (iI (M 0)), .int (iI (M 1)), .ref a1], zA cy a1 3 (sl M 2), zO s0 2 [.int (iI (M 6)), .int (iI (M 7)), .ref s1, .ref s2, .ref s3], zA cy s2 240 (sl M 92), zA cy s3 240 (sl M 332), zO r0 1 [.int (iI (M 9)), .int (iI L), .int (iI (M 10)), .int (iI (M 11)), .ref r1, .ref r2, .ref r3, .ref r4], zA cy r2 32 (sl M 572), zO t0 4 [.int (iI ty), .ref t1]]) 7 rfl (congrArg (fun z0 => zO r0 1 [.int (iI (M 9)), .int (iI L), .int (iI z0), .int (iI (M 11)), .ref r1, .ref r2, .ref r3, .ref r4]) (show ((M 10) : Int) = M 10 from (by omega))) rfl
    have wd := z_fld wd (ws2 := [zO w0 5 [.ref d0, .ref d0k, .int (iI iK), .ref w1, .int (iI n), .ref t0, .ref w2], zO d0 3 [.int (iI (M 5)), .ref a0, .ref s0, .ref r0], zO a0 0 [.int (iI (M 0)), .int (iI (M 1)), .ref a1], zA cy a1 3 (sl M 2), zO s0 2 [.int (iI (M 6)), .int (iI (M 7)), .ref s1, .ref s2, .ref s3], zA cy s2 240 (sl M 92), zA cy s3 240 (sl M 332), zO r0 1 [.int (iI (M 9)), .int (iI L), .int (iI (M 10)), .int (iI (M 11)), .ref r1, .ref r2, .ref r3, .ref r4], zA cy r2 32 (sl M 572), zO t0 4 [.int (iI ty), .ref t1]]) 7 rfl (congrArg (fun z0 => zO r0 1 [.int (iI (M 9)), .int (iI L), .int (iI (M 10)), .int (iI z0), .ref r1, .ref r2, .ref r3, .ref r4]) (show ((M 11) : Int) = M 11 from (by omega))) rfl
    have wd := z_cell wd (ws2 := [zO w0 5 [.ref d0, .ref d0k, .int (iI iK), .ref w1, .int (iI n), .ref t0, .ref w2], zO d0 3 [.int (iI (M 5)), .ref a0, .ref s0, .ref r0], zO a0 0 [.int (iI (M 0)), .int (iI (M 1)), .ref a1], zA cy a1 3 (sl M 2), zO s0 2 [.int (iI (M 6)), .int (iI (M 7)), .ref s1, .ref s2, .ref s3], zA cy s2 240 (sl M 92), zA cy s3 240 (sl M 332), zO r0 1 [.int (iI (M 9)), .int (iI L), .int (iI (M 10)), .int (iI (M 11)), .ref r1, .ref r2, .ref r3, .ref r4], zA cy r2 32 (sl M 572), zO t0 4 [.int (iI ty), .ref t1]]) 8 rfl (by intro k hk0 hk1; first | rfl | omega) rfl
    exact z_iret C hr hlk wd (by unfold rdCount; (repeat (first | rw [if_pos (by omega)] | rw [if_neg (by omega)])); first | done | rfl | omega) dX5_count_245
  · skip
    refine lv_tableIn (tgt := 246) (off := 245) C.1 C.2.1 dX5_count_1 (by rw [iI_toInt (by omega) (by omega)]; omega) (by rw [iI_toInt (by omega) (by omega)]; omega) (by rw [iI_toInt (by omega) (by omega), c_1c]; rfl) (by decide) ?_
    refine lv_aload_n C.1 C.2.1 dX5_count_246 rfl (lv_at hl 0 rfl) ?_
    refine z_get C wd (Cn := RX5) (TT := TX5) (N := 7) (ci := 5) iX5 0 rfl rfl 0 (by decide) L12 (fun _ h => h) rfl dX5_count_247 ?_
    refine z_get C wd (Cn := RX3) (TT := TX3) (N := 4) (ci := 3) iX3 1 rfl rfl 3 (by decide) L64 (fun _ h => h) rfl dX5_count_250 ?_
    refine z_get C wd (Cn := RX1) (TT := TX1) (N := 8) (ci := 1) iX1 7 rfl rfl 5 (by decide) L123 (fun _ h => h) rfl dX5_count_253 ?_
    refine lv_aload_n C.1 C.2.1 dX5_count_256 rfl (lv_at hl 0 rfl) ?_
    refine z_get C wd (Cn := RX5) (TT := TX5) (N := 7) (ci := 5) iX5 0 rfl rfl 0 (by decide) L12 (fun _ h => h) rfl dX5_count_257 ?_
    refine z_get C wd (Cn := RX3) (TT := TX3) (N := 4) (ci := 3) iX3 1 rfl rfl 3 (by decide) L64 (fun _ h => h) rfl dX5_count_260 ?_
    refine lv_aload_n C.1 C.2.1 dX5_count_263 rfl (lv_at hl 0 rfl) ?_
    refine z_get C wd (Cn := RX5) (TT := TX5) (N := 7) (ci := 5) iX5 0 rfl rfl 0 (by decide) L12 (fun _ h => h) rfl dX5_count_264 ?_
    refine z_get C wd (Cn := RX3) (TT := TX3) (N := 4) (ci := 3) iX3 1 rfl rfl 1 (by decide) L45 (fun _ h => h) rfl dX5_count_267 ?_
    refine z_cvi C wd hA (As := [.ref a0]) (rest := [.ref r2]) (ws2 := [zO w0 5 [.ref d0, .ref d0k, .int (iI iK), .ref w1, .int (iI n), .ref t0, .ref w2], zO d0 3 [.int (iI (M 5)), .ref a0, .ref s0, .ref r0], zO a0 0 [.int (iI (M 0)), .int (iI (M 1)), .ref a1], zA cy a1 3 (sl M 2), zO s0 2 [.int (iI (M 6)), .int (iI (M 7)), .ref s1, .ref s2, .ref s3], zA cy s2 240 (sl M 92), zA cy s3 240 (sl M 332), zO r0 1 [.int (iI (M 9)), .int (iI L), .int (iI (M 10)), .int (iI (M 11)), .ref r1, .ref r2, .ref r3, .ref r4], zA cy r2 32 (sl M 572), zO t0 4 [.int (iI ty), .ref t1]]) (c_X1_bestState l D cy cs r0 r1 r2 r3 r4 a0 a1 (M 9) L (M 10) (M 11) (M 0) (M 1) (sl M 572) (by omega) (by omega) hme) (cwV 1 C.2.2.2.2 gX5_count_X1_bestState rfl rfl rfl (by decide +kernel) ⟨Nat.le_of_ble_eq_true rfl, Nat.le_of_ble_eq_true rfl⟩) [7, 8, 2] rfl rfl rfl ⟨rfl, [0, 1, 3, 4, 5, 6, 9], [zO w0 5 [.ref d0, .ref d0k, .int (iI iK), .ref w1, .int (iI n), .ref t0, .ref w2], zO d0 3 [.int (iI (M 5)), .ref a0, .ref s0, .ref r0], zA cy a1 3 (sl M 2), zO s0 2 [.int (iI (M 6)), .int (iI (M 7)), .ref s1, .ref s2, .ref s3], zA cy s2 240 (sl M 92), zA cy s3 240 (sl M 332), zO t0 4 [.int (iI ty), .ref t1]], 10, rfl, rfl, rfl, by decide +kernel⟩ rfl rfl rfl rfl (Nat.le_of_ble_eq_true rfl) hl.1 dX5_count_270 ⟨Nat.zero_le _, Nat.zero_le _⟩ (fun H locs wd => ?_)
    refine z_iald C wd 8 rfl (by omega) (by decide) dX5_count_273 ?_
    have wd := z_fld wd (ws2 := [zO w0 5 [.ref d0, .ref d0k, .int (iI iK), .ref w1, .int (iI n), .ref t0, .ref w2], zO d0 3 [.int (iI (M 5)), .ref a0, .ref s0, .ref r0], zO a0 0 [.int (iI (M 0)), .int (iI (M 1)), .ref a1], zA cy a1 3 (sl M 2), zO s0 2 [.int (iI (M 6)), .int (iI (M 7)), .ref s1, .ref s2, .ref s3], zA cy s2 240 (sl M 92), zA cy s3 240 (sl M 332), zO r0 1 [.int (iI (M 9)), .int (iI L), .int (iI (M 10)), .int (iI (M 11)), .ref r1, .ref r2, .ref r3, .ref r4], zA cy r2 32 (sl M 572), zO t0 4 [.int (iI ty), .ref t1]]) 2 rfl (congrArg (fun z0 => zO a0 0 [.int (iI z0), .int (iI (M 1)), .ref a1]) (show ((M 0) : Int) = M 0 from (by omega))) rfl
    have wd := z_fld wd (ws2 := [zO w0 5 [.ref d0, .ref d0k, .int (iI iK), .ref w1, .int (iI n), .ref t0, .ref w2], zO d0 3 [.int (iI (M 5)), .ref a0, .ref s0, .ref r0], zO a0 0 [.int (iI (M 0)), .int (iI (M 1)), .ref a1], zA cy a1 3 (sl M 2), zO s0 2 [.int (iI (M 6)), .int (iI (M 7)), .ref s1, .ref s2, .ref s3], zA cy s2 240 (sl M 92), zA cy s3 240 (sl M 332), zO r0 1 [.int (iI (M 9)), .int (iI L), .int (iI (M 10)), .int (iI (M 11)), .ref r1, .ref r2, .ref r3, .ref r4], zA cy r2 32 (sl M 572), zO t0 4 [.int (iI ty), .ref t1]]) 2 rfl (congrArg (fun z0 => zO a0 0 [.int (iI (M 0)), .int (iI z0), .ref a1]) (show ((M 1) : Int) = M 1 from (by omega))) rfl
    have wd := z_fld wd (ws2 := [zO w0 5 [.ref d0, .ref d0k, .int (iI iK), .ref w1, .int (iI n), .ref t0, .ref w2], zO d0 3 [.int (iI (M 5)), .ref a0, .ref s0, .ref r0], zO a0 0 [.int (iI (M 0)), .int (iI (M 1)), .ref a1], zA cy a1 3 (sl M 2), zO s0 2 [.int (iI (M 6)), .int (iI (M 7)), .ref s1, .ref s2, .ref s3], zA cy s2 240 (sl M 92), zA cy s3 240 (sl M 332), zO r0 1 [.int (iI (M 9)), .int (iI L), .int (iI (M 10)), .int (iI (M 11)), .ref r1, .ref r2, .ref r3, .ref r4], zA cy r2 32 (sl M 572), zO t0 4 [.int (iI ty), .ref t1]]) 7 rfl (congrArg (fun z0 => zO r0 1 [.int (iI z0), .int (iI L), .int (iI (M 10)), .int (iI (M 11)), .ref r1, .ref r2, .ref r3, .ref r4]) (show ((M 9) : Int) = M 9 from (by omega))) rfl
    have wd := z_fld wd (ws2 := [zO w0 5 [.ref d0, .ref d0k, .int (iI iK), .ref w1, .int (iI n), .ref t0, .ref w2], zO d0 3 [.int (iI (M 5)), .ref a0, .ref s0, .ref r0], zO a0 0 [.int (iI (M 0)), .int (iI (M 1)), .ref a1], zA cy a1 3 (sl M 2), zO s0 2 [.int (iI (M 6)), .int (iI (M 7)), .ref s1, .ref s2, .ref s3], zA cy s2 240 (sl M 92), zA cy s3 240 (sl M 332), zO r0 1 [.int (iI (M 9)), .int (iI L), .int (iI (M 10)), .int (iI (M 11)), .ref r1, .ref r2, .ref r3, .ref r4], zA cy r2 32 (sl M 572), zO t0 4 [.int (iI ty), .ref t1]]) 7 rfl (congrArg (fun z0 => zO r0 1 [.int (iI (M 9)), .int (iI L), .int (iI z0), .int (iI (M 11)), .ref r1, .ref r2, .ref r3, .ref r4]) (show ((M 10) : Int) = M 10 from (by omega))) rfl
    have wd := z_fld wd (ws2 := [zO w0 5 [.ref d0, .ref d0k, .int (iI iK), .ref w1, .int (iI n), .ref t0, .ref w2], zO d0 3 [.int (iI (M 5)), .ref a0, .ref s0, .ref r0], zO a0 0 [.int (iI (M 0)), .int (iI (M 1)), .ref a1], zA cy a1 3 (sl M 2), zO s0 2 [.int (iI (M 6)), .int (iI (M 7)), .ref s1, .ref s2, .ref s3], zA cy s2 240 (sl M 92), zA cy s3 240 (sl M 332), zO r0 1 [.int (iI (M 9)), .int (iI L), .int (iI (M 10)), .int (iI (M 11)), .ref r1, .ref r2, .ref r3, .ref r4], zA cy r2 32 (sl M 572), zO t0 4 [.int (iI ty), .ref t1]]) 7 rfl (congrArg (fun z0 => zO r0 1 [.int (iI (M 9)), .int (iI L), .int (iI (M 10)), .int (iI z0), .ref r1, .ref r2, .ref r3, .ref r4]) (show ((M 11) : Int) = M 11 from (by omega))) rfl
    have wd := z_cell wd (ws2 := [zO w0 5 [.ref d0, .ref d0k, .int (iI iK), .ref w1, .int (iI n), .ref t0, .ref w2], zO d0 3 [.int (iI (M 5)), .ref a0, .ref s0, .ref r0], zO a0 0 [.int (iI (M 0)), .int (iI (M 1)), .ref a1], zA cy a1 3 (sl M 2), zO s0 2 [.int (iI (M 6)), .int (iI (M 7)), .ref s1, .ref s2, .ref s3], zA cy s2 240 (sl M 92), zA cy s3 240 (sl M 332), zO r0 1 [.int (iI (M 9)), .int (iI L), .int (iI (M 10)), .int (iI (M 11)), .ref r1, .ref r2, .ref r3, .ref r4], zA cy r2 32 (sl M 572), zO t0 4 [.int (iI ty), .ref t1]]) 8 rfl (by intro k hk0 hk1; first | rfl | omega) rfl
    exact z_iret C hr hlk wd (by unfold rdCount; (repeat (first | rw [if_pos (by omega)] | rw [if_neg (by omega)])); first | done | rfl | omega) dX5_count_274
  · skip
    refine lv_tableIn (tgt := 275) (off := 274) C.1 C.2.1 dX5_count_1 (by rw [iI_toInt (by omega) (by omega)]; omega) (by rw [iI_toInt (by omega) (by omega)]; omega) (by rw [iI_toInt (by omega) (by omega), c_1c]; rfl) (by decide) ?_
    refine lv_aload_n C.1 C.2.1 dX5_count_275 rfl (lv_at hl 0 rfl) ?_
    refine z_get C wd (Cn := RX5) (TT := TX5) (N := 7) (ci := 5) iX5 0 rfl rfl 0 (by decide) L12 (fun _ h => h) rfl dX5_count_276 ?_
    refine z_get C wd (Cn := RX3) (TT := TX3) (N := 4) (ci := 3) iX3 1 rfl rfl 3 (by decide) L64 (fun _ h => h) rfl dX5_count_279 ?_
    refine lv_aload_n C.1 C.2.1 dX5_count_282 rfl (lv_at hl 0 rfl) ?_
    refine z_get C wd (Cn := RX5) (TT := TX5) (N := 7) (ci := 5) iX5 0 rfl rfl 0 (by decide) L12 (fun _ h => h) rfl dX5_count_283 ?_
    refine z_get C wd (Cn := RX3) (TT := TX3) (N := 4) (ci := 3) iX3 1 rfl rfl 1 (by decide) L45 (fun _ h => h) rfl dX5_count_286 ?_
    refine z_cvi C wd hA (As := [.ref a0]) (rest := []) (ws2 := [zO w0 5 [.ref d0, .ref d0k, .int (iI iK), .ref w1, .int (iI n), .ref t0, .ref w2], zO d0 3 [.int (iI (M 5)), .ref a0, .ref s0, .ref r0], zO a0 0 [.int (iI (M 0)), .int (iI (M 1)), .ref a1], zA cy a1 3 (sl M 2), zO s0 2 [.int (iI (M 6)), .int (iI (M 7)), .ref s1, .ref s2, .ref s3], zA cy s2 240 (sl M 92), zA cy s3 240 (sl M 332), zO r0 1 [.int (iI (M 9)), .int (iI L), .int (iI (M 10)), .int (iI (M 11)), .ref r1, .ref r2, .ref r3, .ref r4], zA cy r2 32 (sl M 572), zO t0 4 [.int (iI ty), .ref t1]]) (c_X1_reachedStates l D cy cs r0 r1 r2 r3 r4 a0 a1 (M 9) L (M 10) (M 11) (M 0) (M 1) (sl M 572) (by omega) (by omega) hme) (cwV 1 C.2.2.2.2 gX5_count_X1_reachedStates rfl rfl rfl (by decide +kernel) ⟨Nat.le_of_ble_eq_true rfl, Nat.le_of_ble_eq_true rfl⟩) [7, 8, 2] rfl rfl rfl ⟨rfl, [0, 1, 3, 4, 5, 6, 9], [zO w0 5 [.ref d0, .ref d0k, .int (iI iK), .ref w1, .int (iI n), .ref t0, .ref w2], zO d0 3 [.int (iI (M 5)), .ref a0, .ref s0, .ref r0], zA cy a1 3 (sl M 2), zO s0 2 [.int (iI (M 6)), .int (iI (M 7)), .ref s1, .ref s2, .ref s3], zA cy s2 240 (sl M 92), zA cy s3 240 (sl M 332), zO t0 4 [.int (iI ty), .ref t1]], 10, rfl, rfl, rfl, by decide +kernel⟩ rfl rfl rfl rfl (Nat.le_of_ble_eq_true rfl) hl.1 dX5_count_289 ⟨Nat.zero_le _, Nat.zero_le _⟩ (fun H locs wd => ?_)
    have wd := z_fld wd (ws2 := [zO w0 5 [.ref d0, .ref d0k, .int (iI iK), .ref w1, .int (iI n), .ref t0, .ref w2], zO d0 3 [.int (iI (M 5)), .ref a0, .ref s0, .ref r0], zO a0 0 [.int (iI (M 0)), .int (iI (M 1)), .ref a1], zA cy a1 3 (sl M 2), zO s0 2 [.int (iI (M 6)), .int (iI (M 7)), .ref s1, .ref s2, .ref s3], zA cy s2 240 (sl M 92), zA cy s3 240 (sl M 332), zO r0 1 [.int (iI (M 9)), .int (iI L), .int (iI (M 10)), .int (iI (M 11)), .ref r1, .ref r2, .ref r3, .ref r4], zA cy r2 32 (sl M 572), zO t0 4 [.int (iI ty), .ref t1]]) 2 rfl (congrArg (fun z0 => zO a0 0 [.int (iI z0), .int (iI (M 1)), .ref a1]) (show ((M 0) : Int) = M 0 from (by omega))) rfl
    have wd := z_fld wd (ws2 := [zO w0 5 [.ref d0, .ref d0k, .int (iI iK), .ref w1, .int (iI n), .ref t0, .ref w2], zO d0 3 [.int (iI (M 5)), .ref a0, .ref s0, .ref r0], zO a0 0 [.int (iI (M 0)), .int (iI (M 1)), .ref a1], zA cy a1 3 (sl M 2), zO s0 2 [.int (iI (M 6)), .int (iI (M 7)), .ref s1, .ref s2, .ref s3], zA cy s2 240 (sl M 92), zA cy s3 240 (sl M 332), zO r0 1 [.int (iI (M 9)), .int (iI L), .int (iI (M 10)), .int (iI (M 11)), .ref r1, .ref r2, .ref r3, .ref r4], zA cy r2 32 (sl M 572), zO t0 4 [.int (iI ty), .ref t1]]) 2 rfl (congrArg (fun z0 => zO a0 0 [.int (iI (M 0)), .int (iI z0), .ref a1]) (show ((M 1) : Int) = M 1 from (by omega))) rfl
    have wd := z_fld wd (ws2 := [zO w0 5 [.ref d0, .ref d0k, .int (iI iK), .ref w1, .int (iI n), .ref t0, .ref w2], zO d0 3 [.int (iI (M 5)), .ref a0, .ref s0, .ref r0], zO a0 0 [.int (iI (M 0)), .int (iI (M 1)), .ref a1], zA cy a1 3 (sl M 2), zO s0 2 [.int (iI (M 6)), .int (iI (M 7)), .ref s1, .ref s2, .ref s3], zA cy s2 240 (sl M 92), zA cy s3 240 (sl M 332), zO r0 1 [.int (iI (M 9)), .int (iI L), .int (iI (M 10)), .int (iI (M 11)), .ref r1, .ref r2, .ref r3, .ref r4], zA cy r2 32 (sl M 572), zO t0 4 [.int (iI ty), .ref t1]]) 7 rfl (congrArg (fun z0 => zO r0 1 [.int (iI z0), .int (iI L), .int (iI (M 10)), .int (iI (M 11)), .ref r1, .ref r2, .ref r3, .ref r4]) (show ((M 9) : Int) = M 9 from (by omega))) rfl
    have wd := z_fld wd (ws2 := [zO w0 5 [.ref d0, .ref d0k, .int (iI iK), .ref w1, .int (iI n), .ref t0, .ref w2], zO d0 3 [.int (iI (M 5)), .ref a0, .ref s0, .ref r0], zO a0 0 [.int (iI (M 0)), .int (iI (M 1)), .ref a1], zA cy a1 3 (sl M 2), zO s0 2 [.int (iI (M 6)), .int (iI (M 7)), .ref s1, .ref s2, .ref s3], zA cy s2 240 (sl M 92), zA cy s3 240 (sl M 332), zO r0 1 [.int (iI (M 9)), .int (iI L), .int (iI (M 10)), .int (iI (M 11)), .ref r1, .ref r2, .ref r3, .ref r4], zA cy r2 32 (sl M 572), zO t0 4 [.int (iI ty), .ref t1]]) 7 rfl (congrArg (fun z0 => zO r0 1 [.int (iI (M 9)), .int (iI L), .int (iI z0), .int (iI (M 11)), .ref r1, .ref r2, .ref r3, .ref r4]) (show ((M 10) : Int) = M 10 from (by omega))) rfl
    have wd := z_fld wd (ws2 := [zO w0 5 [.ref d0, .ref d0k, .int (iI iK), .ref w1, .int (iI n), .ref t0, .ref w2], zO d0 3 [.int (iI (M 5)), .ref a0, .ref s0, .ref r0], zO a0 0 [.int (iI (M 0)), .int (iI (M 1)), .ref a1], zA cy a1 3 (sl M 2), zO s0 2 [.int (iI (M 6)), .int (iI (M 7)), .ref s1, .ref s2, .ref s3], zA cy s2 240 (sl M 92), zA cy s3 240 (sl M 332), zO r0 1 [.int (iI (M 9)), .int (iI L), .int (iI (M 10)), .int (iI (M 11)), .ref r1, .ref r2, .ref r3, .ref r4], zA cy r2 32 (sl M 572), zO t0 4 [.int (iI ty), .ref t1]]) 7 rfl (congrArg (fun z0 => zO r0 1 [.int (iI (M 9)), .int (iI L), .int (iI (M 10)), .int (iI z0), .ref r1, .ref r2, .ref r3, .ref r4]) (show ((M 11) : Int) = M 11 from (by omega))) rfl
    have wd := z_cell wd (ws2 := [zO w0 5 [.ref d0, .ref d0k, .int (iI iK), .ref w1, .int (iI n), .ref t0, .ref w2], zO d0 3 [.int (iI (M 5)), .ref a0, .ref s0, .ref r0], zO a0 0 [.int (iI (M 0)), .int (iI (M 1)), .ref a1], zA cy a1 3 (sl M 2), zO s0 2 [.int (iI (M 6)), .int (iI (M 7)), .ref s1, .ref s2, .ref s3], zA cy s2 240 (sl M 92), zA cy s3 240 (sl M 332), zO r0 1 [.int (iI (M 9)), .int (iI L), .int (iI (M 10)), .int (iI (M 11)), .ref r1, .ref r2, .ref r3, .ref r4], zA cy r2 32 (sl M 572), zO t0 4 [.int (iI ty), .ref t1]]) 8 rfl (by intro k hk0 hk1; first | rfl | omega) rfl
    exact z_iret C hr hlk wd (by unfold rdCount; (repeat (first | rw [if_pos (by omega)] | rw [if_neg (by omega)])); first | done | rfl | omega) dX5_count_292
  · skip
    refine lv_tableIn (tgt := 293) (off := 292) C.1 C.2.1 dX5_count_1 (by rw [iI_toInt (by omega) (by omega)]; omega) (by rw [iI_toInt (by omega) (by omega)]; omega) (by rw [iI_toInt (by omega) (by omega), c_1c]; rfl) (by decide) ?_
    refine lv_aload_n C.1 C.2.1 dX5_count_293 rfl (lv_at hl 0 rfl) ?_
    refine z_get C wd (Cn := RX5) (TT := TX5) (N := 7) (ci := 5) iX5 0 rfl rfl 0 (by decide) L12 (fun _ h => h) rfl dX5_count_294 ?_
    refine z_get C wd (Cn := RX3) (TT := TX3) (N := 4) (ci := 3) iX3 1 rfl rfl 3 (by decide) L64 (fun _ h => h) rfl dX5_count_297 ?_
    refine z_get C wd (Cn := RX1) (TT := TX1) (N := 8) (ci := 1) iX1 7 rfl rfl 3 (by decide) L110 (fun _ h => h) rfl dX5_count_300 ?_
    refine z_if_eq C (tgt := 310) dX5_count_303 (by decide) (by omega) (fun c_3 => ?_) (fun c_3 => ?_)
    · skip
      refine z_iconst C dX5_count_310 ?_
      exact z_iret C hr hlk wd (by unfold rdCount; (repeat (first | rw [if_pos (by omega)] | rw [if_neg (by omega)])); first | done | rfl | omega) dX5_count_311
    · skip
      refine z_iconst C dX5_count_306 ?_
      refine z_goto C (tgt := 311) dX5_count_307 (by decide) ?_
      exact z_iret C hr hlk wd (by unfold rdCount; (repeat (first | rw [if_pos (by omega)] | rw [if_neg (by omega)])); first | done | rfl | omega) dX5_count_311
  · skip
    refine lv_tableIn (tgt := 312) (off := 311) C.1 C.2.1 dX5_count_1 (by rw [iI_toInt (by omega) (by omega)]; omega) (by rw [iI_toInt (by omega) (by omega)]; omega) (by rw [iI_toInt (by omega) (by omega), c_1c]; rfl) (by decide) ?_
    refine lv_aload_n C.1 C.2.1 dX5_count_312 rfl (lv_at hl 0 rfl) ?_
    refine z_get C wd (Cn := RX5) (TT := TX5) (N := 7) (ci := 5) iX5 0 rfl rfl 4 (by decide) L27 (fun _ h => h) rfl dX5_count_313 ?_
    exact z_iret C hr hlk wd (by unfold rdCount; (repeat (first | rw [if_pos (by omega)] | rw [if_neg (by omega)])); first | done | rfl | omega) dX5_count_316
  · skip
    refine lv_tableIn (tgt := 317) (off := 316) C.1 C.2.1 dX5_count_1 (by rw [iI_toInt (by omega) (by omega)]; omega) (by rw [iI_toInt (by omega) (by omega)]; omega) (by rw [iI_toInt (by omega) (by omega), c_1c]; rfl) (by decide) ?_
    refine lv_aload_n C.1 C.2.1 dX5_count_317 rfl (lv_at hl 0 rfl) ?_
    refine z_get C wd (Cn := RX5) (TT := TX5) (N := 7) (ci := 5) iX5 0 rfl rfl 5 (by decide) L34 (fun _ h => h) rfl dX5_count_318 ?_
    refine z_get C wd (Cn := RX4) (TT := TX4) (N := 2) (ci := 4) iX4 9 rfl rfl 0 (by decide) L87 (fun _ h => h) rfl dX5_count_321 ?_
    exact z_iret C hr hlk wd (by unfold rdCount; (repeat (first | rw [if_pos (by omega)] | rw [if_neg (by omega)])); first | done | rfl | omega) dX5_count_324
