set_option maxRecDepth 100000 in
set_option maxHeartbeats 4000000 in
theorem c_lbit (l : Launch) (D : va_G) (cy cs : ClassId) (u : Int → Int) (n : Nat) (hu : ∀ k, 0 ≤ u k ∧ u k ≤ 1) (hn : n ≤ 32) : zCi l D (zT cy cs) yJ13_bitCount_95d88 wsJ13_bitCount_95d88 ({ frames := 0, cells := 0, slots := 0, locals := 0 } : Room) [.long (lI (((csum u n).toNat : Nat) : Int))] [] (sm u n) [] := by
  intro sz
  refine zM_mk (cc := cJ13_bitCount_95d88) (maxL := 2) (ret := (some .int)) (own := RJ13) (Qc := fun sz => va_Qi (fun r (_ : Unit) => r = iI (sm u n)) (fun _ t9 => zQ D (zT cy cs) (va_A [] sz) [] t9) (va_A [] sz)) (by decide) rfl rfl (Nat.le_of_ble_eq_true rfl) rfl sz ?_
  intro p e s m args below meth c ls C hr hlk hnm hl hsz hA wd
  subst hsz
  have hl : lv_has ls 2 [(0, .long (lI (((csum u n).toNat : Nat) : Int)))] := hl
  obtain ⟨hw9, hX9, hA9, hB9, hD9, hG9, hH9, hW9⟩ := pop_all hu hn
  refine lv_lload_n C.1 C.2.1 dJ13_bitCount_95d88_0 rfl (lv_at hl 0 rfl) ?_
  refine lv_lload_n C.1 C.2.1 dJ13_bitCount_95d88_1 rfl (lv_at hl 0 rfl) ?_
  refine z_iconst C dJ13_bitCount_95d88_2 ?_
  refine lv_lushr (v := lI ((((csum u n).toNat) / 2 : Nat) : Int)) C.1 C.2.1 dJ13_bitCount_95d88_3 (lI_ushr (d := 1) (n := 2) (by decide +kernel) (by decide) (by omega)) ?_
  refine lv_ldc2 (v := lI 6148914691236517205) C.1 C.2.1 C.2.2.2.1 (C.2.2.2.2 (.constantLong RJ13 314 (lI 6148914691236517205)) (by decide +kernel)) dJ13_bitCount_95d88_4 ?_
  refine z_land C (((((csum u n).toNat) / 2) &&& pm5 : Nat) : Int) dJ13_bitCount_95d88_7 (lI_andN pm5_ok) ?_
  refine z_lsub C ((((csum u n).toNat) - ((((csum u n).toNat) / 2) &&& pm5) : Nat) : Int) dJ13_bitCount_95d88_8 (lI_subN (Nat.le_trans Nat.and_le_left (Nat.div_le_self _ _))) ?_
  refine z_topL (b := ((pA (csum u n).toNat : Nat) : Int)) rfl ?_
  refine lv_lstore_n (lv' := [(0, .long (lI ((pA (csum u n).toNat : Nat) : Int)))]) C.1 C.2.1 dJ13_bitCount_95d88_9 rfl hl (by decide) rfl (fun ls hl => ?_)
  refine lv_lload_n C.1 C.2.1 dJ13_bitCount_95d88_10 rfl (lv_at hl 0 rfl) ?_
  refine lv_ldc2 (v := lI 3689348814741910323) C.1 C.2.1 C.2.2.2.1 (C.2.2.2.2 (.constantLong RJ13 316 (lI 3689348814741910323)) (by decide +kernel)) dJ13_bitCount_95d88_11 ?_
  refine z_land C (((pA (csum u n).toNat) &&& pm3 : Nat) : Int) dJ13_bitCount_95d88_14 (lI_andN pm3_ok) ?_
  refine lv_lload_n C.1 C.2.1 dJ13_bitCount_95d88_15 rfl (lv_at hl 0 rfl) ?_
  refine z_iconst C dJ13_bitCount_95d88_16 ?_
  refine lv_lushr (v := lI (((pA (csum u n).toNat) / 4 : Nat) : Int)) C.1 C.2.1 dJ13_bitCount_95d88_17 (lI_ushr (d := 2) (n := 4) (by decide +kernel) (by decide) (by omega)) ?_
  refine lv_ldc2 (v := lI 3689348814741910323) C.1 C.2.1 C.2.2.2.1 (C.2.2.2.2 (.constantLong RJ13 316 (lI 3689348814741910323)) (by decide +kernel)) dJ13_bitCount_95d88_18 ?_
  refine z_land C ((((pA (csum u n).toNat) / 4) &&& pm3 : Nat) : Int) dJ13_bitCount_95d88_21 (lI_andN pm3_ok) ?_
  refine z_ladd C ((((pA (csum u n).toNat) &&& pm3) + (((pA (csum u n).toNat) / 4) &&& pm3) : Nat) : Int) dJ13_bitCount_95d88_22 (lI_addN _ _) ?_
  refine z_topL (b := ((pB (csum u n).toNat : Nat) : Int)) rfl ?_
  refine lv_lstore_n (lv' := [(0, .long (lI ((pB (csum u n).toNat : Nat) : Int)))]) C.1 C.2.1 dJ13_bitCount_95d88_23 rfl hl (by decide) rfl (fun ls hl => ?_)
  refine lv_lload_n C.1 C.2.1 dJ13_bitCount_95d88_24 rfl (lv_at hl 0 rfl) ?_
  refine lv_lload_n C.1 C.2.1 dJ13_bitCount_95d88_25 rfl (lv_at hl 0 rfl) ?_
  refine z_iconst C dJ13_bitCount_95d88_26 ?_
  refine lv_lushr (v := lI (((pB (csum u n).toNat) / 16 : Nat) : Int)) C.1 C.2.1 dJ13_bitCount_95d88_27 (lI_ushr (d := 4) (n := 16) (by decide +kernel) (by decide) (by omega)) ?_
  refine z_ladd C (((pB (csum u n).toNat) + ((pB (csum u n).toNat) / 16) : Nat) : Int) dJ13_bitCount_95d88_28 (lI_addN _ _) ?_
  refine lv_ldc2 (v := lI 1085102592571150095) C.1 C.2.1 C.2.2.2.1 (C.2.2.2.2 (.constantLong RJ13 318 (lI 1085102592571150095)) (by decide +kernel)) dJ13_bitCount_95d88_29 ?_
  refine z_land C ((((pB (csum u n).toNat) + ((pB (csum u n).toNat) / 16)) &&& 1085102592571150095 : Nat) : Int) dJ13_bitCount_95d88_32 (lI_andN pm15_ok) ?_
  refine z_topL (b := ((pD (csum u n).toNat : Nat) : Int)) rfl ?_
  refine lv_lstore_n (lv' := [(0, .long (lI ((pD (csum u n).toNat : Nat) : Int)))]) C.1 C.2.1 dJ13_bitCount_95d88_33 rfl hl (by decide) rfl (fun ls hl => ?_)
  refine lv_lload_n C.1 C.2.1 dJ13_bitCount_95d88_34 rfl (lv_at hl 0 rfl) ?_
  refine lv_lload_n C.1 C.2.1 dJ13_bitCount_95d88_35 rfl (lv_at hl 0 rfl) ?_
  refine z_bipush C dJ13_bitCount_95d88_36 (by decide +kernel) ?_
  refine lv_lushr (v := lI (((pD (csum u n).toNat) / 256 : Nat) : Int)) C.1 C.2.1 dJ13_bitCount_95d88_38 (lI_ushr (d := 8) (n := 256) (by decide +kernel) (by decide) (by omega)) ?_
  refine z_ladd C (((pD (csum u n).toNat) + ((pD (csum u n).toNat) / 256) : Nat) : Int) dJ13_bitCount_95d88_39 (lI_addN _ _) ?_
  refine z_topL (b := ((pG (csum u n).toNat : Nat) : Int)) rfl ?_
  refine lv_lstore_n (lv' := [(0, .long (lI ((pG (csum u n).toNat : Nat) : Int)))]) C.1 C.2.1 dJ13_bitCount_95d88_40 rfl hl (by decide) rfl (fun ls hl => ?_)
  refine lv_lload_n C.1 C.2.1 dJ13_bitCount_95d88_41 rfl (lv_at hl 0 rfl) ?_
  refine lv_lload_n C.1 C.2.1 dJ13_bitCount_95d88_42 rfl (lv_at hl 0 rfl) ?_
  refine z_bipush C dJ13_bitCount_95d88_43 (by decide +kernel) ?_
  refine lv_lushr (v := lI (((pG (csum u n).toNat) / 65536 : Nat) : Int)) C.1 C.2.1 dJ13_bitCount_95d88_45 (lI_ushr (d := 16) (n := 65536) (by decide +kernel) (by decide) (by omega)) ?_
  refine z_ladd C (((pG (csum u n).toNat) + ((pG (csum u n).toNat) / 65536) : Nat) : Int) dJ13_bitCount_95d88_46 (lI_addN _ _) ?_
  refine z_topL (b := ((pH (csum u n).toNat : Nat) : Int)) rfl ?_
  refine lv_lstore_n (lv' := [(0, .long (lI ((pH (csum u n).toNat : Nat) : Int)))]) C.1 C.2.1 dJ13_bitCount_95d88_47 rfl hl (by decide) rfl (fun ls hl => ?_)
  refine lv_lload_n C.1 C.2.1 dJ13_bitCount_95d88_48 rfl (lv_at hl 0 rfl) ?_
  refine lv_lload_n C.1 C.2.1 dJ13_bitCount_95d88_49 rfl (lv_at hl 0 rfl) ?_
  refine z_bipush C dJ13_bitCount_95d88_50 (by decide +kernel) ?_
  refine lv_lushr (v := lI (((pH (csum u n).toNat) / 4294967296 : Nat) : Int)) C.1 C.2.1 dJ13_bitCount_95d88_52 (lI_ushr (d := 32) (n := 4294967296) (by decide +kernel) (by decide) (by omega)) ?_
  refine z_ladd C (((pH (csum u n).toNat) + ((pH (csum u n).toNat) / 4294967296) : Nat) : Int) dJ13_bitCount_95d88_53 (lI_addN _ _) ?_
  refine z_topL (b := ((pW (csum u n).toNat : Nat) : Int)) rfl ?_
  refine lv_lstore_n (lv' := [(0, .long (lI ((pW (csum u n).toNat : Nat) : Int)))]) C.1 C.2.1 dJ13_bitCount_95d88_54 rfl hl (by decide) rfl (fun ls hl => ?_)
  refine lv_lload_n C.1 C.2.1 dJ13_bitCount_95d88_55 rfl (lv_at hl 0 rfl) ?_
  refine lv_l2i (v := iI ((pW (csum u n).toNat : Nat) : Int)) C.1 C.2.1 dJ13_bitCount_95d88_56 (lI_i _) ?_
  refine z_bipush C dJ13_bitCount_95d88_57 (by decide +kernel) ?_
  refine z_iand C (((pW (csum u n).toNat) % 128 : Nat) : Int) dJ13_bitCount_95d88_59 (iI_127 _ hW9) ?_
  exact z_iret C hr hlk wd hw9 dJ13_bitCount_95d88_60
set_option maxRecDepth 100000 in
set_option maxHeartbeats 4000000 in
theorem c_X1_reachedStates (l : Launch) (D : va_G) (cy cs : ClassId) (r0 r1 r2 r3 r4 a0 a1 : Nat) (S L N E mm oo : Int) (fm : Int → Int) (hm : 1 ≤ mm ∧ mm ≤ 5) (hS : 0 ≤ S ∧ S ≤ 80) (hme : mtOk fm S) : zCi l D (zT cy cs) yX1_reachedStates wsX1_reachedStates ({ frames := 2, cells := 0, slots := 0, locals := 45 } : Room) [.ref r0, .ref a0] [zO r0 1 [.int (iI S), .int (iI L), .int (iI N), .int (iI E), .ref r1, .ref r2, .ref r3, .ref r4], zA cy r2 32 fm, zO a0 0 [.int (iI mm), .int (iI oo), .ref a1]] (sm (rB fm) (p2 mm).toNat) [zO r0 1 [.int (iI S), .int (iI L), .int (iI N), .int (iI E), .ref r1, .ref r2, .ref r3, .ref r4], zA cy r2 32 fm, zO a0 0 [.int (iI mm), .int (iI oo), .ref a1]] := by
  intro sz
  refine zM_mk (cc := cX1_reachedStates) (maxL := 2) (ret := (some .int)) (own := RX1) (Qc := fun sz => va_Qi (fun r (_ : Unit) => r = iI (sm (rB fm) (p2 mm).toNat)) (fun _ t9 => zQ D (zT cy cs) (va_A [zO r0 1 [.int (iI S), .int (iI L), .int (iI N), .int (iI E), .ref r1, .ref r2, .ref r3, .ref r4], zA cy r2 32 fm, zO a0 0 [.int (iI mm), .int (iI oo), .ref a1]] sz) [zO r0 1 [.int (iI S), .int (iI L), .int (iI N), .int (iI E), .ref r1, .ref r2, .ref r3, .ref r4], zA cy r2 32 fm, zO a0 0 [.int (iI mm), .int (iI oo), .ref a1]] t9) (va_A [zO r0 1 [.int (iI S), .int (iI L), .int (iI N), .int (iI E), .ref r1, .ref r2, .ref r3, .ref r4], zA cy r2 32 fm, zO a0 0 [.int (iI mm), .int (iI oo), .ref a1]] sz)) (by decide) rfl rfl (Nat.le_of_ble_eq_true rfl) rfl sz ?_
  intro p e s m args below meth c ls C hr hlk hnm hl hsz hA wd
  subst hsz
  have hl : lv_has ls 2 [(0, .ref r0), (1, .ref a0)] := hl
  have hp := p2_all hm.1 hm.2
  refine lv_aload_n C.1 C.2.1 dX1_reachedStates_0 rfl (lv_at hl 0 rfl) ?_
  refine lv_aload_n C.1 C.2.1 dX1_reachedStates_1 rfl (lv_at hl 1 rfl) ?_
  refine z_cvl C wd hA (As := [.ref a0]) (rest := []) (ws2 := [zO r0 1 [.int (iI S), .int (iI L), .int (iI N), .int (iI E), .ref r1, .ref r2, .ref r3, .ref r4], zA cy r2 32 fm, zO a0 0 [.int (iI mm), .int (iI oo), .ref a1]]) (c_X1_reached l D cy cs r0 r1 r2 r3 r4 a0 a1 S L N E mm oo fm (by omega) (by omega) hme) (cwV 1 C.2.2.2.2 gX1_reachedStates_X1_reached rfl rfl rfl (by decide +kernel) ⟨Nat.le_of_ble_eq_true rfl, Nat.le_of_ble_eq_true rfl⟩) [0, 1, 2] rfl rfl rfl ⟨rfl, [], [], 3, rfl, rfl, rfl, by decide +kernel⟩ rfl rfl rfl rfl (Nat.le_of_ble_eq_true rfl) hl.1 dX1_reachedStates_2 ⟨Nat.zero_le _, Nat.zero_le _⟩ (fun H locs wd => ?_)
  refine z_topL (b := (((csum (rB fm) (p2 mm).toNat).toNat : Nat) : Int)) (Int.toNat_of_nonneg (csum_le (rB_le fm) (p2 mm).toNat).1).symm ?_
  refine z_csi C wd hA (As := [.long (lI (((csum (rB fm) (p2 mm).toNat).toNat : Nat) : Int))]) (rest := []) (ws2 := [zO r0 1 [.int (iI S), .int (iI L), .int (iI N), .int (iI E), .ref r1, .ref r2, .ref r3, .ref r4], zA cy r2 32 fm, zO a0 0 [.int (iI mm), .int (iI oo), .ref a1]]) (c_lbit l D cy cs (rB fm) ((p2 mm).toNat) (rB_le fm) (by omega)) (va_cwS 1 C.2.2.2.2 gX1_reachedStates_J13_bitCount_95d88 rfl rfl rfl (by decide +kernel) ⟨Nat.le_of_ble_eq_true rfl, Nat.le_of_ble_eq_true rfl⟩) [] rfl rfl rfl ⟨rfl, [0, 1, 2], [zO r0 1 [.int (iI S), .int (iI L), .int (iI N), .int (iI E), .ref r1, .ref r2, .ref r3, .ref r4], zA cy r2 32 fm, zO a0 0 [.int (iI mm), .int (iI oo), .ref a1]], 3, rfl, rfl, rfl, by decide +kernel⟩ rfl rfl (Nat.le_of_ble_eq_true rfl) hl.1 dX1_reachedStates_5 ⟨Nat.zero_le _, Nat.zero_le _⟩ (fun H locs wd => ?_)
  exact z_iret C hr hlk wd (by first | rfl | omega) dX1_reachedStates_8
