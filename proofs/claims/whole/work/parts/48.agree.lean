set_option maxRecDepth 100000 in
set_option maxHeartbeats 4000000 in
theorem c_X6_areAlikeAt (l : Launch) (D : va_G) (cy cs : ClassId) (m0 m1 m2 m3 m4 m5 m6 m7 m8 : Nat) (st iss ty : Int) (M : Int → Int) (pl : Int) (hm : 1 ≤ M 0 ∧ M 0 ≤ 5) (hme : ∀ k : Int, 0 ≤ k → k < 32 → -1 ≤ M (572 + k) ∧ M (572 + k) ≤ 1000) (hwk : ∀ t z : Int, 0 ≤ t → t < 32 → 0 ≤ z → z < 3 → 0 ≤ M (684 + 3 * t + z) ∧ M (684 + 3 * t + z) < 1073741824) (hbs : 0 ≤ bst (sl M 572) (p2 (M 0)).toNat) (hpl : 0 ≤ pl ∧ pl < 80) : zCi l D (zT cy cs) yX6_areAlikeAt wsX6_areAlikeAt ({ frames := 2, cells := 0, slots := 0, locals := 43 } : Room) [.ref m0, .int (iI pl)] [zO m0 6 [.ref m1, .ref m2, .int (iI st), .ref m3, .int (iI iss), .ref m4, .int (iI ty), .ref m5, .ref m6, .ref m7, .ref m8], zA cy m1 780 M] (alM M pl) [zO m0 6 [.ref m1, .ref m2, .int (iI st), .ref m3, .int (iI iss), .ref m4, .int (iI ty), .ref m5, .ref m6, .ref m7, .ref m8], zA cy m1 780 M] := by
  intro sz
  refine zM_mk (cc := cX6_areAlikeAt) (maxL := 5) (ret := (some .boolean)) (own := RX6) (Qc := fun sz => va_Qi (fun r (_ : Unit) => r = iI (alM M pl)) (fun _ t9 => zQ D (zT cy cs) (va_A [zO m0 6 [.ref m1, .ref m2, .int (iI st), .ref m3, .int (iI iss), .ref m4, .int (iI ty), .ref m5, .ref m6, .ref m7, .ref m8], zA cy m1 780 M] sz) [zO m0 6 [.ref m1, .ref m2, .int (iI st), .ref m3, .int (iI iss), .ref m4, .int (iI ty), .ref m5, .ref m6, .ref m7, .ref m8], zA cy m1 780 M] t9) (va_A [zO m0 6 [.ref m1, .ref m2, .int (iI st), .ref m3, .int (iI iss), .ref m4, .int (iI ty), .ref m5, .ref m6, .ref m7, .ref m8], zA cy m1 780 M] sz)) (by decide) rfl rfl (Nat.le_of_ble_eq_true rfl) rfl sz ?_
  intro p e s m args below meth c ls C hr hlk hnm hl hsz hA wd
  subst hsz
  have hl : lv_has ls 5 [(0, .ref m0), (1, .int (iI pl))] := hl
  have iX6 : ∀ w ∈ u_ws RX6 TX6 11, w ∈ wsX6_areAlikeAt := by decide +kernel
  have L7 := C.2.2.2.2 (.fieldLink RX6 7 "LikelyWalksModel" "now" "[I") (by decide +kernel)
  have hp := p2_all hm.1 hm.2
  have hbl := bst_le (sl M 572) (p2 (M 0)).toNat
  refine lv_aload_n C.1 C.2.1 dX6_areAlikeAt_0 rfl (lv_at hl 0 rfl) ?_
  refine lv_aload_n C.1 C.2.1 dX6_areAlikeAt_1 rfl (lv_at hl 0 rfl) ?_
  refine z_cvi C wd hA (As := []) (rest := [.ref m0]) (ws2 := [zO m0 6 [.ref m1, .ref m2, .int (iI st), .ref m3, .int (iI iss), .ref m4, .int (iI ty), .ref m5, .ref m6, .ref m7, .ref m8], zA cy m1 780 M]) (c_X6_bestState l D cy cs m0 m1 m2 m3 m4 m5 m6 m7 m8 st iss ty M (by omega) (by omega)) (cwV 0 C.2.2.2.2 gX6_areAlikeAt_X6_bestState rfl rfl rfl (by decide +kernel) ⟨Nat.le_of_ble_eq_true rfl, Nat.le_of_ble_eq_true rfl⟩) [0, 1] rfl rfl rfl ⟨rfl, [], [], 2, rfl, rfl, rfl, by decide +kernel⟩ rfl rfl rfl rfl (Nat.le_of_ble_eq_true rfl) hl.1 dX6_areAlikeAt_2 ⟨Nat.zero_le _, Nat.zero_le _⟩ (fun H locs wd => ?_)
  refine lv_iload_n C.1 C.2.1 dX6_areAlikeAt_5 rfl (lv_at hl 1 rfl) ?_
  refine z_cvi C wd hA (As := [.int (iI (bst (sl M 572) (p2 (M 0)).toNat)), .int (iI pl)]) (rest := []) (ws2 := [zO m0 6 [.ref m1, .ref m2, .int (iI st), .ref m3, .int (iI iss), .ref m4, .int (iI ty), .ref m5, .ref m6, .ref m7, .ref m8], zA cy m1 780 M]) (c_X6_walkBit l D cy cs m0 m1 m2 m3 m4 m5 m6 m7 m8 st iss ty M (bst (sl M 572) (p2 (M 0)).toNat) pl (by omega) (by omega) (hwk _ (pl / 30) hbs (by omega) (by omega) (by omega))) (cwV 2 C.2.2.2.2 gX6_areAlikeAt_X6_walkBit rfl rfl rfl (by decide +kernel) ⟨Nat.le_of_ble_eq_true rfl, Nat.le_of_ble_eq_true rfl⟩) [0, 1] rfl rfl rfl ⟨rfl, [], [], 2, rfl, rfl, rfl, by decide +kernel⟩ rfl rfl rfl rfl (Nat.le_of_ble_eq_true rfl) hl.1 dX6_areAlikeAt_6 ⟨Nat.zero_le _, Nat.zero_le _⟩ (fun H locs wd => ?_)
  refine lv_istore_n (lv' := [(2, .int (iI (wkB M (bst (sl M 572) (p2 (M 0)).toNat) pl))), (0, .ref m0), (1, .int (iI pl))]) C.1 C.2.1 dX6_areAlikeAt_9 rfl hl (by decide) rfl (fun ls hl => ?_)
  refine z_iconst C dX6_areAlikeAt_10 ?_
  refine lv_istore_n (lv' := [(3, .int (iI 1)), (2, .int (iI (wkB M (bst (sl M 572) (p2 (M 0)).toNat) pl))), (0, .ref m0), (1, .int (iI pl))]) C.1 C.2.1 dX6_areAlikeAt_11 rfl hl (by decide) rfl (fun ls hl => ?_)
  refine z_iconst C dX6_areAlikeAt_12 ?_
  refine lv_istore (lv' := [(4, .int (iI 0)), (3, .int (iI 1)), (2, .int (iI (wkB M (bst (sl M 572) (p2 (M 0)).toNat) pl))), (0, .ref m0), (1, .int (iI pl))]) C.1 C.2.1 dX6_areAlikeAt_13 hl (by decide) rfl (fun ls hl => ?_)
  refine z_loop2 (P := fun (y : Int) (k : Int) => (0 ≤ k ∧ k ≤ p2 (M 0)) ∧ (y = al (sl M 572) (fun z9 => wkB M z9 pl) (wkB M (bst (sl M 572) (p2 (M 0)).toNat) pl) k.toNat)) (mu := fun (y : Int) (k : Int) => (p2 (M 0) - k).toNat) (ws := fun (y : Int) (k : Int) => [zO m0 6 [.ref m1, .ref m2, .int (iI st), .ref m3, .int (iI iss), .ref m4, .int (iI ty), .ref m5, .ref m6, .ref m7, .ref m8], zA cy m1 780 M]) (lv := fun (y : Int) (k : Int) => [(0, .ref m0), (1, .int (iI pl)), (2, .int (iI (wkB M (bst (sl M 572) (p2 (M 0)).toNat) pl))), (3, .int (iI y)), (4, .int (iI k))]) 1 0 C ⟨(by omega), rfl⟩ wd (lv_sub hl [3, 4, 2, 1, 0] rfl) ?_
  intro y k hP15 ih15 H locs ls wd hl
  obtain ⟨h15_0, h15_1⟩ := hP15
  try dsimp only at h15_0 h15_1
  have wd : Wd D (zT cy cs) _ s.heap s [zO m0 6 [.ref m1, .ref m2, .int (iI st), .ref m3, .int (iI iss), .ref m4, .int (iI ty), .ref m5, .ref m6, .ref m7, .ref m8], zA cy m1 780 M] H locs := wd
  have hl : lv_has ls 5 [(0, .ref m0), (1, .int (iI pl)), (2, .int (iI (wkB M (bst (sl M 572) (p2 (M 0)).toNat) pl))), (3, .int (iI y)), (4, .int (iI k))] := hl
  have h01 := al_01 (sl M 572) (fun z9 => wkB M z9 pl) (wkB M (bst (sl M 572) (p2 (M 0)).toNat) pl) k.toNat
  rw [← h15_1] at h01
  have hat := al_at (sl M 572) (fun z9 => wkB M z9 pl) (wkB M (bst (sl M 572) (p2 (M 0)).toNat) pl) h15_0.1
  rw [← h15_1] at hat
  have ex9 : sl M 572 k = M (572 + k) := rfl
  rw [ex9] at hat
  refine lv_iload C.1 C.2.1 dX6_areAlikeAt_15 (lv_at hl 4 rfl) ?_
  refine lv_aload_n C.1 C.2.1 dX6_areAlikeAt_17 rfl (lv_at hl 0 rfl) ?_
  refine z_cvi C wd hA (As := []) (rest := [.int (iI k)]) (ws2 := [zO m0 6 [.ref m1, .ref m2, .int (iI st), .ref m3, .int (iI iss), .ref m4, .int (iI ty), .ref m5, .ref m6, .ref m7, .ref m8], zA cy m1 780 M]) (c_X6_registers l D cy cs m0 m1 m2 m3 m4 m5 m6 m7 m8 st iss ty M (by omega)) (cwV 0 C.2.2.2.2 gX6_areAlikeAt_X6_registers rfl rfl rfl (by decide +kernel) ⟨Nat.le_of_ble_eq_true rfl, Nat.le_of_ble_eq_true rfl⟩) [0, 1] rfl rfl rfl ⟨rfl, [], [], 2, rfl, rfl, rfl, by decide +kernel⟩ rfl rfl rfl rfl (Nat.le_of_ble_eq_true rfl) hl.1 dX6_areAlikeAt_18 ⟨Nat.zero_le _, Nat.zero_le _⟩ (fun H locs wd => ?_)
  refine z_icmp_ge C (tgt := 65) dX6_areAlikeAt_21 (by decide) (by omega) (fun c_1 => ?_) (fun c_1 => ?_)
  · skip
    refine lv_iload_n C.1 C.2.1 dX6_areAlikeAt_65 rfl (lv_at hl 3 rfl) ?_
    exact z_zret C hr hlk (by omega) wd (by rw [h15_1, show k = p2 (M 0) by omega]; rfl) dX6_areAlikeAt_66
  · skip
    refine lv_iload_n C.1 C.2.1 dX6_areAlikeAt_24 rfl (lv_at hl 3 rfl) ?_
    refine z_if_eq C (tgt := 57) dX6_areAlikeAt_25 (by decide) (by omega) (fun c_2 => ?_) (fun c_2 => ?_)
    · skip
      refine z_iconst C dX6_areAlikeAt_57 ?_
      refine lv_istore_n (lv' := [(3, .int (iI 0)), (0, .ref m0), (1, .int (iI pl)), (2, .int (iI (wkB M (bst (sl M 572) (p2 (M 0)).toNat) pl))), (4, .int (iI k))]) C.1 C.2.1 dX6_areAlikeAt_58 rfl hl (by decide) rfl (fun ls hl => ?_)
      refine z_iinc C (lv' := [(4, .int (iI (k + 1))), (3, .int (iI 0)), (0, .ref m0), (1, .int (iI pl)), (2, .int (iI (wkB M (bst (sl M 572) (p2 (M 0)).toNat) pl)))]) hl 4 dX6_areAlikeAt_59 rfl (by decide) rfl (fun ls hl => ?_)
      refine z_goto C (tgt := 15) dX6_areAlikeAt_62 (by decide) ?_
      exact ih15 0 (k + 1) ⟨(by omega), (by rw [hat]; first | (rw [if_pos (by omega)]; done) | (rw [if_neg (by omega)]; done))⟩ (by omega) H locs _ wd (lv_sub hl [2, 3, 4, 1, 0] rfl)
    · skip
      have hx := hme k h15_0.1 (by omega)
      refine lv_aload_n C.1 C.2.1 dX6_areAlikeAt_28 rfl (lv_at hl 0 rfl) ?_
      refine z_get C wd (Cn := RX6) (TT := TX6) (N := 11) (ci := 6) iX6 0 rfl rfl 0 (by decide) L7 (fun _ h => h) rfl dX6_areAlikeAt_29 ?_
      refine z_sipush C dX6_areAlikeAt_32 (by decide +kernel) ?_
      refine lv_iload C.1 C.2.1 dX6_areAlikeAt_35 (lv_at hl 4 rfl) ?_
      refine z_iadd C dX6_areAlikeAt_37 ?_
      refine z_iald C wd 1 rfl (by omega) (by decide) dX6_areAlikeAt_38 ?_
      refine z_if_lt C (tgt := 53) dX6_areAlikeAt_39 (by decide) (by omega) (fun c_3 => ?_) (fun c_3 => ?_)
      · skip
        refine z_iconst C dX6_areAlikeAt_53 ?_
        refine z_goto C (tgt := 58) dX6_areAlikeAt_54 (by decide) ?_
        refine lv_istore_n (lv' := [(3, .int (iI 1)), (0, .ref m0), (1, .int (iI pl)), (2, .int (iI (wkB M (bst (sl M 572) (p2 (M 0)).toNat) pl))), (4, .int (iI k))]) C.1 C.2.1 dX6_areAlikeAt_58 rfl hl (by decide) rfl (fun ls hl => ?_)
        refine z_iinc C (lv' := [(4, .int (iI (k + 1))), (3, .int (iI 1)), (0, .ref m0), (1, .int (iI pl)), (2, .int (iI (wkB M (bst (sl M 572) (p2 (M 0)).toNat) pl)))]) hl 4 dX6_areAlikeAt_59 rfl (by decide) rfl (fun ls hl => ?_)
        refine z_goto C (tgt := 15) dX6_areAlikeAt_62 (by decide) ?_
        exact ih15 1 (k + 1) ⟨(by omega), (by rw [hat]; first | (rw [if_pos (by omega)]; done) | (rw [if_neg (by omega)]; done))⟩ (by omega) H locs _ wd (lv_sub hl [2, 3, 4, 1, 0] rfl)
      · skip
        refine lv_aload_n C.1 C.2.1 dX6_areAlikeAt_42 rfl (lv_at hl 0 rfl) ?_
        refine lv_iload C.1 C.2.1 dX6_areAlikeAt_43 (lv_at hl 4 rfl) ?_
        refine lv_iload_n C.1 C.2.1 dX6_areAlikeAt_45 rfl (lv_at hl 1 rfl) ?_
        refine z_cvi C wd hA (As := [.int (iI k), .int (iI pl)]) (rest := []) (ws2 := [zO m0 6 [.ref m1, .ref m2, .int (iI st), .ref m3, .int (iI iss), .ref m4, .int (iI ty), .ref m5, .ref m6, .ref m7, .ref m8], zA cy m1 780 M]) (c_X6_walkBit l D cy cs m0 m1 m2 m3 m4 m5 m6 m7 m8 st iss ty M k pl (by omega) (by omega) (hwk k (pl / 30) (by omega) (by omega) (by omega) (by omega))) (cwV 2 C.2.2.2.2 gX6_areAlikeAt_X6_walkBit rfl rfl rfl (by decide +kernel) ⟨Nat.le_of_ble_eq_true rfl, Nat.le_of_ble_eq_true rfl⟩) [0, 1] rfl rfl rfl ⟨rfl, [], [], 2, rfl, rfl, rfl, by decide +kernel⟩ rfl rfl rfl rfl (Nat.le_of_ble_eq_true rfl) hl.1 dX6_areAlikeAt_46 ⟨Nat.zero_le _, Nat.zero_le _⟩ (fun H locs wd => ?_)
        have hb1 := bit_le (M (684 + 3 * k + pl / 30)) (pl % 30)
        have eb1 : wkB M k pl = M (684 + 3 * k + pl / 30) / p2 (pl % 30) % 2 := rfl
        have hb2 := bit_le (M (684 + 3 * bst (sl M 572) (p2 (M 0)).toNat + pl / 30)) (pl % 30)
        have eb2 : wkB M (bst (sl M 572) (p2 (M 0)).toNat) pl = M (684 + 3 * bst (sl M 572) (p2 (M 0)).toNat + pl / 30) / p2 (pl % 30) % 2 := rfl
        refine lv_iload_n C.1 C.2.1 dX6_areAlikeAt_49 rfl (lv_at hl 2 rfl) ?_
        refine z_icmp_ne C (tgt := 57) dX6_areAlikeAt_50 (by decide) (by omega) (fun c_4 => ?_) (fun c_4 => ?_)
        · skip
          refine z_iconst C dX6_areAlikeAt_57 ?_
          refine lv_istore_n (lv' := [(3, .int (iI 0)), (0, .ref m0), (1, .int (iI pl)), (2, .int (iI (wkB M (bst (sl M 572) (p2 (M 0)).toNat) pl))), (4, .int (iI k))]) C.1 C.2.1 dX6_areAlikeAt_58 rfl hl (by decide) rfl (fun ls hl => ?_)
          refine z_iinc C (lv' := [(4, .int (iI (k + 1))), (3, .int (iI 0)), (0, .ref m0), (1, .int (iI pl)), (2, .int (iI (wkB M (bst (sl M 572) (p2 (M 0)).toNat) pl)))]) hl 4 dX6_areAlikeAt_59 rfl (by decide) rfl (fun ls hl => ?_)
          refine z_goto C (tgt := 15) dX6_areAlikeAt_62 (by decide) ?_
          exact ih15 0 (k + 1) ⟨(by omega), (by rw [hat]; first | (rw [if_pos (by omega)]; done) | (rw [if_neg (by omega)]; done))⟩ (by omega) H locs _ wd (lv_sub hl [2, 3, 4, 1, 0] rfl)
        · skip
          refine z_iconst C dX6_areAlikeAt_53 ?_
          refine z_goto C (tgt := 58) dX6_areAlikeAt_54 (by decide) ?_
          refine lv_istore_n (lv' := [(3, .int (iI 1)), (0, .ref m0), (1, .int (iI pl)), (2, .int (iI (wkB M (bst (sl M 572) (p2 (M 0)).toNat) pl))), (4, .int (iI k))]) C.1 C.2.1 dX6_areAlikeAt_58 rfl hl (by decide) rfl (fun ls hl => ?_)
          refine z_iinc C (lv' := [(4, .int (iI (k + 1))), (3, .int (iI 1)), (0, .ref m0), (1, .int (iI pl)), (2, .int (iI (wkB M (bst (sl M 572) (p2 (M 0)).toNat) pl)))]) hl 4 dX6_areAlikeAt_59 rfl (by decide) rfl (fun ls hl => ?_)
          refine z_goto C (tgt := 15) dX6_areAlikeAt_62 (by decide) ?_
          exact ih15 1 (k + 1) ⟨(by omega), (by rw [hat]; first | (rw [if_pos (by omega)]; done) | (rw [if_neg (by omega)]; done))⟩ (by omega) H locs _ wd (lv_sub hl [2, 3, 4, 1, 0] rfl)
set_option maxRecDepth 100000 in
set_option maxHeartbeats 4000000 in
theorem c_X6_agreed (l : Launch) (D : va_G) (cy cs : ClassId) (m0 m1 m2 m3 m4 m5 m6 m7 m8 : Nat) (st iss ty : Int) (M : Int → Int) (hm : 1 ≤ M 0 ∧ M 0 ≤ 5) (hme : ∀ k : Int, 0 ≤ k → k < 32 → -1 ≤ M (572 + k) ∧ M (572 + k) ≤ 1000) (hwk : ∀ t z : Int, 0 ≤ t → t < 32 → 0 ≤ z → z < 3 → 0 ≤ M (684 + 3 * t + z) ∧ M (684 + 3 * t + z) < 1073741824) (hbs : 0 ≤ bst (sl M 572) (p2 (M 0)).toNat) (h9 : 0 ≤ M 9 ∧ M 9 ≤ 80) : zCi l D (zT cy cs) yX6_agreed wsX6_agreed ({ frames := 3, cells := 0, slots := 0, locals := 67 } : Room) [.ref m0] [zO m0 6 [.ref m1, .ref m2, .int (iI st), .ref m3, .int (iI iss), .ref m4, .int (iI ty), .ref m5, .ref m6, .ref m7, .ref m8], zA cy m1 780 M] (agM M) [zO m0 6 [.ref m1, .ref m2, .int (iI st), .ref m3, .int (iI iss), .ref m4, .int (iI ty), .ref m5, .ref m6, .ref m7, .ref m8], zA cy m1 780 M] := by
  intro sz
  refine zM_mk (cc := cX6_agreed) (maxL := 2) (ret := (some .int)) (own := RX6) (Qc := fun sz => va_Qi (fun r (_ : Unit) => r = iI (agM M)) (fun _ t9 => zQ D (zT cy cs) (va_A [zO m0 6 [.ref m1, .ref m2, .int (iI st), .ref m3, .int (iI iss), .ref m4, .int (iI ty), .ref m5, .ref m6, .ref m7, .ref m8], zA cy m1 780 M] sz) [zO m0 6 [.ref m1, .ref m2, .int (iI st), .ref m3, .int (iI iss), .ref m4, .int (iI ty), .ref m5, .ref m6, .ref m7, .ref m8], zA cy m1 780 M] t9) (va_A [zO m0 6 [.ref m1, .ref m2, .int (iI st), .ref m3, .int (iI iss), .ref m4, .int (iI ty), .ref m5, .ref m6, .ref m7, .ref m8], zA cy m1 780 M] sz)) (by decide) rfl rfl (Nat.le_of_ble_eq_true rfl) rfl sz ?_
  intro p e s m args below meth c ls C hr hlk hnm hl hsz hA wd
  subst hsz
  have hl : lv_has ls 2 [(0, .ref m0)] := hl
  have iX6 : ∀ w ∈ u_ws RX6 TX6 11, w ∈ wsX6_agreed := by decide +kernel
  have L7 := C.2.2.2.2 (.fieldLink RX6 7 "LikelyWalksModel" "now" "[I") (by decide +kernel)
  refine z_iconst C dX6_agreed_0 ?_
  refine lv_istore_n (lv' := [(1, .int (iI 0)), (0, .ref m0)]) C.1 C.2.1 dX6_agreed_1 rfl hl (by decide) rfl (fun ls hl => ?_)
  refine z_loop1 (P := fun (k : Int) => (0 ≤ k ∧ k ≤ M 9) ∧ (∀ j : Int, 0 ≤ j → j < k → decide (alM M j = 0) = false)) (mu := fun (k : Int) => (M 9 - k).toNat) (ws := fun (k : Int) => [zO m0 6 [.ref m1, .ref m2, .int (iI st), .ref m3, .int (iI iss), .ref m4, .int (iI ty), .ref m5, .ref m6, .ref m7, .ref m8], zA cy m1 780 M]) (lv := fun (k : Int) => [(0, .ref m0), (1, .int (iI k))]) 0 C ⟨(by omega), (fun j j0 j1 => by omega)⟩ wd (lv_sub hl [1, 0] rfl) ?_
  intro k hP2 ih2 H locs ls wd hl
  obtain ⟨h2_0, h2_1⟩ := hP2
  try dsimp only at h2_0 h2_1
  have wd : Wd D (zT cy cs) _ s.heap s [zO m0 6 [.ref m1, .ref m2, .int (iI st), .ref m3, .int (iI iss), .ref m4, .int (iI ty), .ref m5, .ref m6, .ref m7, .ref m8], zA cy m1 780 M] H locs := wd
  have hl : lv_has ls 2 [(0, .ref m0), (1, .int (iI k))] := hl
  refine lv_iload_n C.1 C.2.1 dX6_agreed_2 rfl (lv_at hl 1 rfl) ?_
  refine lv_aload_n C.1 C.2.1 dX6_agreed_3 rfl (lv_at hl 0 rfl) ?_
  refine z_get C wd (Cn := RX6) (TT := TX6) (N := 11) (ci := 6) iX6 0 rfl rfl 0 (by decide) L7 (fun _ h => h) rfl dX6_agreed_4 ?_
  refine z_bipush C dX6_agreed_7 (by decide +kernel) ?_
  refine z_iald C wd 1 rfl (by omega) (by decide) dX6_agreed_9 ?_
  refine z_icmp_ge C (tgt := 27) dX6_agreed_10 (by decide) (by omega) (fun c_1 => ?_) (fun c_1 => ?_)
  · skip
    refine lv_iload_n C.1 C.2.1 dX6_agreed_27 rfl (lv_at hl 1 rfl) ?_
    exact z_iret C hr hlk wd (by unfold agM; exact (agR_at (q := fun j => decide (alM M j = 0)) h2_0 h2_1 (fun q => decide_eq_true (by omega))).symm) dX6_agreed_28
  · skip
    refine lv_aload_n C.1 C.2.1 dX6_agreed_13 rfl (lv_at hl 0 rfl) ?_
    refine lv_iload_n C.1 C.2.1 dX6_agreed_14 rfl (lv_at hl 1 rfl) ?_
    refine z_cvi C wd hA (As := [.int (iI k)]) (rest := []) (ws2 := [zO m0 6 [.ref m1, .ref m2, .int (iI st), .ref m3, .int (iI iss), .ref m4, .int (iI ty), .ref m5, .ref m6, .ref m7, .ref m8], zA cy m1 780 M]) (c_X6_areAlikeAt l D cy cs m0 m1 m2 m3 m4 m5 m6 m7 m8 st iss ty M k (by omega) hme hwk (by omega) (by omega)) (cwV 1 C.2.2.2.2 gX6_agreed_X6_areAlikeAt rfl rfl rfl (by decide +kernel) ⟨Nat.le_of_ble_eq_true rfl, Nat.le_of_ble_eq_true rfl⟩) [0, 1] rfl rfl rfl ⟨rfl, [], [], 2, rfl, rfl, rfl, by decide +kernel⟩ rfl rfl rfl rfl (Nat.le_of_ble_eq_true rfl) hl.1 dX6_agreed_15 ⟨Nat.zero_le _, Nat.zero_le _⟩ (fun H locs wd => ?_)
    have h01 : alM M k = 0 ∨ alM M k = 1 := al_01 _ _ _ _
    refine z_if_eq C (tgt := 27) dX6_agreed_18 (by decide) (by omega) (fun c_2 => ?_) (fun c_2 => ?_)
    · skip
      refine lv_iload_n C.1 C.2.1 dX6_agreed_27 rfl (lv_at hl 1 rfl) ?_
      exact z_iret C hr hlk wd (by unfold agM; exact (agR_at (q := fun j => decide (alM M j = 0)) h2_0 h2_1 (fun q => decide_eq_true (by omega))).symm) dX6_agreed_28
    · skip
      refine z_iinc C (lv' := [(1, .int (iI (k + 1))), (0, .ref m0)]) hl 1 dX6_agreed_21 rfl (by decide) rfl (fun ls hl => ?_)
      refine z_goto C (tgt := 2) dX6_agreed_24 (by decide) ?_
      exact ih2 (k + 1) ⟨(by omega), (fun j j0 j1 => by rcases (show j < k ∨ j = k by omega) with e | e; exact h2_1 j j0 e; rw [e]; exact decide_eq_false (by omega))⟩ (by omega) H locs _ wd (lv_sub hl [1, 0] rfl)
