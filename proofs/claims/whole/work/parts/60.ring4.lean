set_option maxRecDepth 100000 in
set_option maxHeartbeats 4000000 in
theorem c_X6_goesOn (l : Launch) (D : va_G) (cy cs : ClassId) (m0 m1 m2 m3 m4 m5 m6 m7 m8 : Nat) (st iss ty : Int) (M : Int → Int) (rg X : Int) (hm : 1 ≤ M 0 ∧ M 0 ≤ 5) (ho : 2 ≤ M 1 ∧ M 1 ≤ 3) (ht : tpOk (sl M 2)) (hs : 0 ≤ rg ∧ rg < p2 (M 0)) (hX : 0 ≤ X ∧ X < 4294967296) : zCi l D (zT cy cs) yX6_goesOn wsX6_goesOn ({ frames := 2, cells := 0, slots := 0, locals := 47 } : Room) [.ref m0, .int (iI rg), .int (iI X)] [zO m0 6 [.ref m1, .ref m2, .int (iI st), .ref m3, .int (iI iss), .ref m4, .int (iI ty), .ref m5, .ref m6, .ref m7, .ref m8], zA cy m1 780 M] (gz (M 0) (M 1) (sl M 2) X rg) [zO m0 6 [.ref m1, .ref m2, .int (iI st), .ref m3, .int (iI iss), .ref m4, .int (iI ty), .ref m5, .ref m6, .ref m7, .ref m8], zA cy m1 780 M] := by
  intro sz
  refine zM_mk (cc := cX6_goesOn) (maxL := 6) (ret := (some .boolean)) (own := RX6) (Qc := fun sz => va_Qi (fun r (_ : Unit) => r = iI (gz (M 0) (M 1) (sl M 2) X rg)) (fun _ t9 => zQ D (zT cy cs) (va_A [zO m0 6 [.ref m1, .ref m2, .int (iI st), .ref m3, .int (iI iss), .ref m4, .int (iI ty), .ref m5, .ref m6, .ref m7, .ref m8], zA cy m1 780 M] sz) [zO m0 6 [.ref m1, .ref m2, .int (iI st), .ref m3, .int (iI iss), .ref m4, .int (iI ty), .ref m5, .ref m6, .ref m7, .ref m8], zA cy m1 780 M] t9) (va_A [zO m0 6 [.ref m1, .ref m2, .int (iI st), .ref m3, .int (iI iss), .ref m4, .int (iI ty), .ref m5, .ref m6, .ref m7, .ref m8], zA cy m1 780 M] sz)) (by decide) rfl rfl (Nat.le_of_ble_eq_true rfl) rfl sz ?_
  intro p e s m args below meth c ls C hr hlk hnm hl hsz hA wd
  subst hsz
  have hl : lv_has ls 6 [(0, .ref m0), (1, .int (iI rg)), (2, .int (iI X))] := hl
  have hp := p2_all hm.1 hm.2
  have hgz := gz_or (M 0) (M 1) (sl M 2) X rg
  refine z_iconst C dX6_goesOn_0 ?_
  refine lv_istore_n (lv' := [(3, .int (iI 0)), (0, .ref m0), (1, .int (iI rg)), (2, .int (iI X))]) C.1 C.2.1 dX6_goesOn_1 rfl hl (by decide) rfl (fun ls hl => ?_)
  refine z_iconst C dX6_goesOn_2 ?_
  refine lv_istore (lv' := [(4, .int (iI 0)), (3, .int (iI 0)), (0, .ref m0), (1, .int (iI rg)), (2, .int (iI X))]) C.1 C.2.1 dX6_goesOn_3 hl (by decide) rfl (fun ls hl => ?_)
  refine z_loop2 (P := fun (y : Int) (k : Int) => (0 ≤ k ∧ k ≤ 2) ∧ (y = 0 ∨ y = 1) ∧ (y = 1 ↔ (1 ≤ k ∧ (zw (M 0) (M 1) (sl M 2) rg 0 = 0 ∧ X / p2 (nx (M 0) rg 0) % 2 = 1)) ∨ (2 ≤ k ∧ (zw (M 0) (M 1) (sl M 2) rg 1 = 0 ∧ X / p2 (nx (M 0) rg 1) % 2 = 1)))) (mu := fun (y : Int) (k : Int) => (2 - k).toNat) (ws := fun (y : Int) (k : Int) => [zO m0 6 [.ref m1, .ref m2, .int (iI st), .ref m3, .int (iI iss), .ref m4, .int (iI ty), .ref m5, .ref m6, .ref m7, .ref m8], zA cy m1 780 M]) (lv := fun (y : Int) (k : Int) => [(0, .ref m0), (1, .int (iI rg)), (2, .int (iI X)), (3, .int (iI y)), (4, .int (iI k))]) 0 0 C ⟨(by omega), (by omega), (by omega)⟩ wd (lv_sub hl [2, 3, 4, 1, 0] rfl) ?_
  intro y k hP5 ih5 H locs ls wd hl
  obtain ⟨h5_0, h5_1, h5_2⟩ := hP5
  try dsimp only at h5_0 h5_1 h5_2
  have wd : Wd D (zT cy cs) _ s.heap s [zO m0 6 [.ref m1, .ref m2, .int (iI st), .ref m3, .int (iI iss), .ref m4, .int (iI ty), .ref m5, .ref m6, .ref m7, .ref m8], zA cy m1 780 M] H locs := wd
  have hl : lv_has ls 6 [(0, .ref m0), (1, .int (iI rg)), (2, .int (iI X)), (3, .int (iI y)), (4, .int (iI k))] := hl
  refine lv_iload C.1 C.2.1 dX6_goesOn_5 (lv_at hl 4 rfl) ?_
  refine z_iconst C dX6_goesOn_7 ?_
  refine z_icmp_ge C (tgt := 57) dX6_goesOn_8 (by decide) (by omega) (fun c_1 => ?_) (fun c_1 => ?_)
  · skip
    refine lv_iload_n C.1 C.2.1 dX6_goesOn_57 rfl (lv_at hl 3 rfl) ?_
    exact z_zret C hr hlk (by omega) wd (by omega) dX6_goesOn_58
  · skip
    have hw := wn_le hm.1 hm.2 hs.1 hs.2 h5_0.1 (by omega)
    have hnx := nx_le (x := rg) (b := k) hm.1 hm.2 hs.1 hs.2 h5_0.1 (by omega)
    have enx : nx (M 0) rg k = wn (M 0) rg k / 2 := rfl
    rw [enx] at hnx
    have hbb := bit_le X (wn (M 0) rg k / 2)
    have ezk : sm (fun z9 => sy (sl M 2 z9) (wn (M 0) rg k)) (M 1).toNat = zw (M 0) (M 1) (sl M 2) rg k := rfl
    have hk0 : k = 0 → zw (M 0) (M 1) (sl M 2) rg k = zw (M 0) (M 1) (sl M 2) rg 0 ∧ X / p2 (wn (M 0) rg k / 2) % 2 = X / p2 (nx (M 0) rg 0) % 2 := fun q => by rw [q]; exact ⟨rfl, rfl⟩
    have hk1 : k = 1 → zw (M 0) (M 1) (sl M 2) rg k = zw (M 0) (M 1) (sl M 2) rg 1 ∧ X / p2 (wn (M 0) rg k / 2) % 2 = X / p2 (nx (M 0) rg 1) % 2 := fun q => by rw [q]; exact ⟨rfl, rfl⟩
    have hsr := sm_le (f := (fun z9 => sy (sl M 2 z9) (wn (M 0) rg k))) (n := (M 1).toNat) (fun _ _ _ => sy_le _ _)
    refine lv_aload_n C.1 C.2.1 dX6_goesOn_11 rfl (lv_at hl 0 rfl) ?_
    refine lv_iload_n C.1 C.2.1 dX6_goesOn_12 rfl (lv_at hl 1 rfl) ?_
    refine lv_iload C.1 C.2.1 dX6_goesOn_13 (lv_at hl 4 rfl) ?_
    refine z_cvi C wd hA (As := [.int (iI rg), .int (iI k)]) (rest := []) (ws2 := [zO m0 6 [.ref m1, .ref m2, .int (iI st), .ref m3, .int (iI iss), .ref m4, .int (iI ty), .ref m5, .ref m6, .ref m7, .ref m8], zA cy m1 780 M]) (c_X6_window l D cy cs m0 m1 m2 m3 m4 m5 m6 m7 m8 st iss ty M rg k (by omega)) (cwV 2 C.2.2.2.2 gX6_goesOn_X6_window rfl rfl rfl (by decide +kernel) ⟨Nat.le_of_ble_eq_true rfl, Nat.le_of_ble_eq_true rfl⟩) [0, 1] rfl rfl rfl ⟨rfl, [], [], 2, rfl, rfl, rfl, by decide +kernel⟩ rfl rfl rfl rfl (Nat.le_of_ble_eq_true rfl) hl.1 dX6_goesOn_15 ⟨Nat.zero_le _, Nat.zero_le _⟩ (fun H locs wd => ?_)
    refine lv_istore (lv' := [(5, .int (iI (wn (M 0) rg k))), (0, .ref m0), (1, .int (iI rg)), (2, .int (iI X)), (3, .int (iI y)), (4, .int (iI k))]) C.1 C.2.1 dX6_goesOn_18 hl (by decide) rfl (fun ls hl => ?_)
    refine lv_iload_n C.1 C.2.1 dX6_goesOn_20 rfl (lv_at hl 4 rfl) ?_
    refine z_if_ne C (tgt := 45) dX6_goesOn_21 (by decide) (by omega) (fun c_2 => ?_) (fun c_2 => ?_)
    · skip
      refine z_iconst C dX6_goesOn_45 ?_
      refine z_goto C (tgt := 50) dX6_goesOn_46 (by decide) ?_
      refine lv_istore_n (lv' := [(3, .int (iI 1)), (5, .int (iI (wn (M 0) rg k))), (0, .ref m0), (1, .int (iI rg)), (2, .int (iI X)), (4, .int (iI k))]) C.1 C.2.1 dX6_goesOn_50 rfl hl (by decide) rfl (fun ls hl => ?_)
      refine z_iinc C (lv' := [(4, .int (iI (k + 1))), (3, .int (iI 1)), (5, .int (iI (wn (M 0) rg k))), (0, .ref m0), (1, .int (iI rg)), (2, .int (iI X))]) hl 5 dX6_goesOn_51 rfl (by decide) rfl (fun ls hl => ?_)
      refine z_goto C (tgt := 5) dX6_goesOn_54 (by decide) ?_
      exact ih5 1 (k + 1) ⟨(by omega), (by omega), (by omega)⟩ (by omega) H locs _ wd (lv_sub hl [3, 4, 5, 1, 0] rfl)
    · skip
      refine lv_aload_n C.1 C.2.1 dX6_goesOn_24 rfl (lv_at hl 1 rfl) ?_
      refine lv_iload C.1 C.2.1 dX6_goesOn_25 (lv_at hl 0 rfl) ?_
      refine z_cvi C wd hA (As := [.int (iI (wn (M 0) rg k))]) (rest := []) (ws2 := [zO m0 6 [.ref m1, .ref m2, .int (iI st), .ref m3, .int (iI iss), .ref m4, .int (iI ty), .ref m5, .ref m6, .ref m7, .ref m8], zA cy m1 780 M]) (c_X6_ones l D cy cs m0 m1 m2 m3 m4 m5 m6 m7 m8 st iss ty M (wn (M 0) rg k) (by omega) (by omega) (by omega)) (cwV 1 C.2.2.2.2 gX6_goesOn_X6_ones rfl rfl rfl (by decide +kernel) ⟨Nat.le_of_ble_eq_true rfl, Nat.le_of_ble_eq_true rfl⟩) [0, 1] rfl rfl rfl ⟨rfl, [], [], 2, rfl, rfl, rfl, by decide +kernel⟩ rfl rfl rfl rfl (Nat.le_of_ble_eq_true rfl) hl.1 dX6_goesOn_27 ⟨Nat.zero_le _, Nat.zero_le _⟩ (fun H locs wd => ?_)
      refine z_if_ne C (tgt := 49) dX6_goesOn_30 (by decide) (by omega) (fun c_3 => ?_) (fun c_3 => ?_)
      · skip
        refine z_iconst C dX6_goesOn_49 ?_
        refine lv_istore_n (lv' := [(3, .int (iI 0)), (5, .int (iI (wn (M 0) rg k))), (0, .ref m0), (1, .int (iI rg)), (2, .int (iI X)), (4, .int (iI k))]) C.1 C.2.1 dX6_goesOn_50 rfl hl (by decide) rfl (fun ls hl => ?_)
        refine z_iinc C (lv' := [(4, .int (iI (k + 1))), (3, .int (iI 0)), (5, .int (iI (wn (M 0) rg k))), (0, .ref m0), (1, .int (iI rg)), (2, .int (iI X))]) hl 5 dX6_goesOn_51 rfl (by decide) rfl (fun ls hl => ?_)
        refine z_goto C (tgt := 5) dX6_goesOn_54 (by decide) ?_
        exact ih5 0 (k + 1) ⟨(by omega), (by omega), (by omega)⟩ (by omega) H locs _ wd (lv_sub hl [3, 4, 5, 1, 0] rfl)
      · skip
        refine lv_iload_n C.1 C.2.1 dX6_goesOn_33 rfl (lv_at hl 3 rfl) ?_
        refine lv_iload C.1 C.2.1 dX6_goesOn_34 (lv_at hl 0 rfl) ?_
        refine z_iconst C dX6_goesOn_36 ?_
        refine z_idiv C dX6_goesOn_37 (by omega) ?_
        refine z_ishr C (sg X / p2 (wn (M 0) rg k / 2)) dX6_goesOn_38 (iI_bit1 hX.1 hX.2 hnx.1 (by omega)) ?_
        refine z_iconst C dX6_goesOn_39 ?_
        refine z_iand C (X / p2 (wn (M 0) rg k / 2) % 2) dX6_goesOn_40 (iI_bit2 hnx.1 (by omega)) ?_
        refine z_iconst C dX6_goesOn_41 ?_
        refine z_icmp_ne C (tgt := 49) dX6_goesOn_42 (by decide) (by omega) (fun c_4 => ?_) (fun c_4 => ?_)
        · skip
          refine z_iconst C dX6_goesOn_49 ?_
          refine lv_istore_n (lv' := [(3, .int (iI 0)), (5, .int (iI (wn (M 0) rg k))), (0, .ref m0), (1, .int (iI rg)), (2, .int (iI X)), (4, .int (iI k))]) C.1 C.2.1 dX6_goesOn_50 rfl hl (by decide) rfl (fun ls hl => ?_)
          refine z_iinc C (lv' := [(4, .int (iI (k + 1))), (3, .int (iI 0)), (5, .int (iI (wn (M 0) rg k))), (0, .ref m0), (1, .int (iI rg)), (2, .int (iI X))]) hl 5 dX6_goesOn_51 rfl (by decide) rfl (fun ls hl => ?_)
          refine z_goto C (tgt := 5) dX6_goesOn_54 (by decide) ?_
          exact ih5 0 (k + 1) ⟨(by omega), (by omega), (by omega)⟩ (by omega) H locs _ wd (lv_sub hl [3, 4, 5, 1, 0] rfl)
        · skip
          refine z_iconst C dX6_goesOn_45 ?_
          refine z_goto C (tgt := 50) dX6_goesOn_46 (by decide) ?_
          refine lv_istore_n (lv' := [(3, .int (iI 1)), (5, .int (iI (wn (M 0) rg k))), (0, .ref m0), (1, .int (iI rg)), (2, .int (iI X)), (4, .int (iI k))]) C.1 C.2.1 dX6_goesOn_50 rfl hl (by decide) rfl (fun ls hl => ?_)
          refine z_iinc C (lv' := [(4, .int (iI (k + 1))), (3, .int (iI 1)), (5, .int (iI (wn (M 0) rg k))), (0, .ref m0), (1, .int (iI rg)), (2, .int (iI X))]) hl 5 dX6_goesOn_51 rfl (by decide) rfl (fun ls hl => ?_)
          refine z_goto C (tgt := 5) dX6_goesOn_54 (by decide) ?_
          exact ih5 1 (k + 1) ⟨(by omega), (by omega), (by omega)⟩ (by omega) H locs _ wd (lv_sub hl [3, 4, 5, 1, 0] rfl)
