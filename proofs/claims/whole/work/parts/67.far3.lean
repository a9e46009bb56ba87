set_option maxRecDepth 100000 in
set_option maxHeartbeats 4000000 in
theorem c_X0_lowerAfter (l : Launch) (D : va_G) (cy cs : ClassId) (a0 a1 : Nat) (mm oo : Int) (tp : Int → Int) (a2 : Nat) (dv : Int → Int) (st : Int) (hm : 1 ≤ mm ∧ mm ≤ 5) (ho : 2 ≤ oo ∧ oo ≤ 3) (ht : tpOk tp) (hs : 0 ≤ st ∧ st < p2 mm) (hD : bdA dv 20000) : zCv l D (zT cy cs) yX0_lowerAfter wsX0_lowerAfter ({ frames := 4, cells := 0, slots := 0, locals := 89 } : Room) [.ref a0, .int (iI st), .ref a2] [zO a0 0 [.int (iI mm), .int (iI oo), .ref a1], zA cy a1 3 tp, zA cy a2 32 dv] [zO a0 0 [.int (iI mm), .int (iI oo), .ref a1], zA cy a1 3 tp, zA cy a2 32 (lwS mm oo tp dv st)] := by
  intro sz
  refine zM_mk (cc := cX0_lowerAfter) (maxL := 7) (ret := none) (own := RX0) (Qc := fun sz => va_Qv (fun (_ : Unit) => True) (fun _ t9 => zQ D (zT cy cs) (va_A [zO a0 0 [.int (iI mm), .int (iI oo), .ref a1], zA cy a1 3 tp, zA cy a2 32 dv] sz) [zO a0 0 [.int (iI mm), .int (iI oo), .ref a1], zA cy a1 3 tp, zA cy a2 32 (lwS mm oo tp dv st)] t9) (va_A [zO a0 0 [.int (iI mm), .int (iI oo), .ref a1], zA cy a1 3 tp, zA cy a2 32 dv] sz)) (by decide) rfl rfl (Nat.le_of_ble_eq_true rfl) rfl sz ?_
  intro p e s m args below meth c ls C hr hlk hnm hl hsz hA wd
  subst hsz
  have hl : lv_has ls 7 [(0, .ref a0), (1, .int (iI st)), (2, .ref a2)] := hl
  have hp := p2_all hm.1 hm.2
  have hds := hD st
  refine lv_aload_n C.1 C.2.1 dX0_lowerAfter_0 rfl (lv_at hl 2 rfl) ?_
  refine lv_iload_n C.1 C.2.1 dX0_lowerAfter_1 rfl (lv_at hl 1 rfl) ?_
  refine z_iald C wd 2 rfl (by omega) (by decide) dX0_lowerAfter_2 ?_
  refine lv_istore_n (lv' := [(3, .int (iI (dv st))), (0, .ref a0), (1, .int (iI st)), (2, .ref a2)]) C.1 C.2.1 dX0_lowerAfter_3 rfl hl (by decide) rfl (fun ls hl => ?_)
  refine lv_iload_n C.1 C.2.1 dX0_lowerAfter_4 rfl (lv_at hl 0 rfl) ?_
  refine z_iconst C dX0_lowerAfter_5 ?_
  refine z_icmp_ne C (tgt := 10) dX0_lowerAfter_6 (by decide) (by omega) (fun c_1 => ?_) (fun c_1 => ?_)
  · skip
    refine z_iconst C dX0_lowerAfter_10 ?_
    refine lv_istore (lv' := [(4, .int (iI 0)), (3, .int (iI (dv st))), (0, .ref a0), (1, .int (iI st)), (2, .ref a2)]) C.1 C.2.1 dX0_lowerAfter_11 hl (by decide) rfl (fun ls hl => ?_)
    refine z_loop2 (P := fun (k : Int) (g : Int → Int) => (0 ≤ k ∧ k ≤ 2) ∧ (g = lwB mm oo tp dv (dv st) st k.toNat)) (mu := fun (k : Int) (g : Int → Int) => (2 - k).toNat) (ws := fun (k : Int) (g : Int → Int) => [zO a0 0 [.int (iI mm), .int (iI oo), .ref a1], zA cy a1 3 tp, zA cy a2 32 g]) (lv := fun (k : Int) (g : Int → Int) => [(0, .ref a0), (1, .int (iI st)), (2, .ref a2), (3, .int (iI (dv st))), (4, .int (iI k))]) 0 dv C ⟨(by omega), rfl⟩ wd (lv_sub hl [2, 3, 4, 1, 0] rfl) ?_
    intro k g hP13 ih13 H locs ls wd hl
    obtain ⟨h13_0, h13_1⟩ := hP13
    try dsimp only at h13_0 h13_1
    have wd : Wd D (zT cy cs) _ s.heap s [zO a0 0 [.int (iI mm), .int (iI oo), .ref a1], zA cy a1 3 tp, zA cy a2 32 g] H locs := wd
    have hl : lv_has ls 7 [(0, .ref a0), (1, .int (iI st)), (2, .ref a2), (3, .int (iI (dv st))), (4, .int (iI k))] := hl
    have hg : bdA g 20003 := by rw [h13_1]; exact lwB_bd ho st hD (by omega) k.toNat
    refine lv_iload C.1 C.2.1 dX0_lowerAfter_13 (lv_at hl 4 rfl) ?_
    refine z_iconst C dX0_lowerAfter_15 ?_
    refine z_icmp_ge C (tgt := 68) dX0_lowerAfter_16 (by decide) (by omega) (fun c_2 => ?_) (fun c_2 => ?_)
    · skip
      have wd := z_cell wd (ws2 := [zO a0 0 [.int (iI mm), .int (iI oo), .ref a1], zA cy a1 3 tp, zA cy a2 32 (lwS mm oo tp dv st)]) 2 rfl (by intro j _ _; rw [lwS, if_neg (by omega), h13_1, show k = 2 by omega]; rfl) rfl
      exact z_vret C hr hlk wd dX0_lowerAfter_68
    · skip
      refine lv_aload_n C.1 C.2.1 dX0_lowerAfter_19 rfl (lv_at hl 0 rfl) ?_
      refine lv_iload_n C.1 C.2.1 dX0_lowerAfter_20 rfl (lv_at hl 1 rfl) ?_
      refine lv_iload C.1 C.2.1 dX0_lowerAfter_21 (lv_at hl 4 rfl) ?_
      refine z_cvi C wd hA (As := [.int (iI st), .int (iI k)]) (rest := []) (ws2 := [zO a0 0 [.int (iI mm), .int (iI oo), .ref a1], zA cy a1 3 tp, zA cy a2 32 g]) (c_X0_stateAfter l D cy cs a0 a1 mm oo st k (by omega) (by omega) (by omega)) (cwV 2 C.2.2.2.2 gX0_lowerAfter_X0_stateAfter rfl rfl rfl (by decide +kernel) ⟨Nat.le_of_ble_eq_true rfl, Nat.le_of_ble_eq_true rfl⟩) [0] rfl rfl rfl ⟨rfl, [1, 2], [zA cy a1 3 tp, zA cy a2 32 g], 3, rfl, rfl, rfl, by decide +kernel⟩ rfl rfl rfl rfl (Nat.le_of_ble_eq_true rfl) hl.1 dX0_lowerAfter_23 ⟨Nat.zero_le _, Nat.zero_le _⟩ (fun H locs wd => ?_)
      refine z_top (b := nx mm st k) rfl ?_
      refine lv_istore (lv' := [(5, .int (iI (nx mm st k))), (0, .ref a0), (1, .int (iI st)), (2, .ref a2), (3, .int (iI (dv st))), (4, .int (iI k))]) C.1 C.2.1 dX0_lowerAfter_26 hl (by decide) rfl (fun ls hl => ?_)
      refine lv_iload_n C.1 C.2.1 dX0_lowerAfter_28 rfl (lv_at hl 4 rfl) ?_
      refine lv_aload_n C.1 C.2.1 dX0_lowerAfter_29 rfl (lv_at hl 1 rfl) ?_
      refine lv_iload_n C.1 C.2.1 dX0_lowerAfter_30 rfl (lv_at hl 2 rfl) ?_
      refine lv_iload C.1 C.2.1 dX0_lowerAfter_31 (lv_at hl 5 rfl) ?_
      refine z_cvi C wd hA (As := [.int (iI st), .int (iI k)]) (rest := [.int (iI (dv st))]) (ws2 := [zO a0 0 [.int (iI mm), .int (iI oo), .ref a1], zA cy a1 3 tp, zA cy a2 32 g]) (c_X0_onesOf l D cy cs a0 a1 mm oo tp st k (by omega) (by omega) (by omega) (by omega) (by omega)) (cwV 2 C.2.2.2.2 gX0_lowerAfter_X0_onesOf rfl rfl rfl (by decide +kernel) ⟨Nat.le_of_ble_eq_true rfl, Nat.le_of_ble_eq_true rfl⟩) [0, 1] rfl rfl rfl ⟨rfl, [2], [zA cy a2 32 g], 3, rfl, rfl, rfl, by decide +kernel⟩ rfl rfl rfl rfl (Nat.le_of_ble_eq_true rfl) hl.1 dX0_lowerAfter_33 ⟨Nat.zero_le _, Nat.zero_le _⟩ (fun H locs wd => ?_)
      refine z_top (b := zw mm oo tp st k) rfl ?_
      refine z_iadd C dX0_lowerAfter_36 ?_
      refine lv_istore (lv' := [(6, .int (iI ((dv st) + (zw mm oo tp st k)))), (5, .int (iI (nx mm st k))), (0, .ref a0), (1, .int (iI st)), (2, .ref a2), (3, .int (iI (dv st))), (4, .int (iI k))]) C.1 C.2.1 dX0_lowerAfter_37 hl (by decide) rfl (fun ls hl => ?_)
      have hnx := nx_le (x := st) (b := k) hm.1 hm.2 hs.1 hs.2 h13_0.1 (by omega)
      have hz := zw_le (mm := mm) (tp := tp) ho st k
      have hgx := hg (nx mm st k)
      refine lv_aload_n C.1 C.2.1 dX0_lowerAfter_39 rfl (lv_at hl 4 rfl) ?_
      refine lv_iload C.1 C.2.1 dX0_lowerAfter_40 (lv_at hl 1 rfl) ?_
      refine z_iald C wd 2 rfl (by omega) (by decide) dX0_lowerAfter_42 ?_
      refine z_iconst C dX0_lowerAfter_43 ?_
      refine z_icmp_eq C (tgt := 56) dX0_lowerAfter_44 (by decide) (by omega) (fun c_3 => ?_) (fun c_3 => ?_)
      · skip
        refine lv_aload_n C.1 C.2.1 dX0_lowerAfter_56 rfl (lv_at hl 4 rfl) ?_
        refine lv_iload C.1 C.2.1 dX0_lowerAfter_57 (lv_at hl 1 rfl) ?_
        refine lv_iload C.1 C.2.1 dX0_lowerAfter_59 (lv_at hl 0 rfl) ?_
        refine z_iast C wd (ws2 := [zO a0 0 [.int (iI mm), .int (iI oo), .ref a1], zA cy a1 3 tp, zA cy a2 32 (uZ g (nx mm st k) ((dv st) + (zw mm oo tp st k)))]) 2 rfl (by omega) (by decide) rfl dX0_lowerAfter_61 (fun H locs wd => ?_)
        refine z_iinc C (lv' := [(4, .int (iI (k + 1))), (6, .int (iI ((dv st) + (zw mm oo tp st k)))), (5, .int (iI (nx mm st k))), (0, .ref a0), (1, .int (iI st)), (2, .ref a2), (3, .int (iI (dv st)))]) hl 6 dX0_lowerAfter_62 rfl (by decide) rfl (fun ls hl => ?_)
        refine z_goto C (tgt := 13) dX0_lowerAfter_65 (by decide) ?_
        exact ih13 (k + 1) (uZ g (nx mm st k) ((dv st) + (zw mm oo tp st k))) ⟨(by omega), (by rw [lwB_at mm oo tp dv (dv st) st h13_0.1, ← h13_1, lw1]; first | (rw [if_pos (by omega)]; done) | (rw [if_neg (by omega)]; done))⟩ (by omega) H locs _ wd (lv_sub hl [3, 4, 5, 6, 0] rfl)
      · skip
        refine lv_iload C.1 C.2.1 dX0_lowerAfter_47 (lv_at hl 0 rfl) ?_
        refine lv_aload_n C.1 C.2.1 dX0_lowerAfter_49 rfl (lv_at hl 4 rfl) ?_
        refine lv_iload C.1 C.2.1 dX0_lowerAfter_50 (lv_at hl 1 rfl) ?_
        refine z_iald C wd 2 rfl (by omega) (by decide) dX0_lowerAfter_52 ?_
        refine z_icmp_ge C (tgt := 62) dX0_lowerAfter_53 (by decide) (by omega) (fun c_4 => ?_) (fun c_4 => ?_)
        · skip
          refine z_iinc C (lv' := [(4, .int (iI (k + 1))), (6, .int (iI ((dv st) + (zw mm oo tp st k)))), (5, .int (iI (nx mm st k))), (0, .ref a0), (1, .int (iI st)), (2, .ref a2), (3, .int (iI (dv st)))]) hl 6 dX0_lowerAfter_62 rfl (by decide) rfl (fun ls hl => ?_)
          refine z_goto C (tgt := 13) dX0_lowerAfter_65 (by decide) ?_
          exact ih13 (k + 1) g ⟨(by omega), (by rw [lwB_at mm oo tp dv (dv st) st h13_0.1, ← h13_1, lw1]; first | (rw [if_pos (by omega)]; done) | (rw [if_neg (by omega)]; done))⟩ (by omega) H locs _ wd (lv_sub hl [3, 4, 5, 6, 0] rfl)
        · skip
          refine lv_aload_n C.1 C.2.1 dX0_lowerAfter_56 rfl (lv_at hl 4 rfl) ?_
          refine lv_iload C.1 C.2.1 dX0_lowerAfter_57 (lv_at hl 1 rfl) ?_
          refine lv_iload C.1 C.2.1 dX0_lowerAfter_59 (lv_at hl 0 rfl) ?_
          refine z_iast C wd (ws2 := [zO a0 0 [.int (iI mm), .int (iI oo), .ref a1], zA cy a1 3 tp, zA cy a2 32 (uZ g (nx mm st k) ((dv st) + (zw mm oo tp st k)))]) 2 rfl (by omega) (by decide) rfl dX0_lowerAfter_61 (fun H locs wd => ?_)
          refine z_iinc C (lv' := [(4, .int (iI (k + 1))), (6, .int (iI ((dv st) + (zw mm oo tp st k)))), (5, .int (iI (nx mm st k))), (0, .ref a0), (1, .int (iI st)), (2, .ref a2), (3, .int (iI (dv st)))]) hl 6 dX0_lowerAfter_62 rfl (by decide) rfl (fun ls hl => ?_)
          refine z_goto C (tgt := 13) dX0_lowerAfter_65 (by decide) ?_
          exact ih13 (k + 1) (uZ g (nx mm st k) ((dv st) + (zw mm oo tp st k))) ⟨(by omega), (by rw [lwB_at mm oo tp dv (dv st) st h13_0.1, ← h13_1, lw1]; first | (rw [if_pos (by omega)]; done) | (rw [if_neg (by omega)]; done))⟩ (by omega) H locs _ wd (lv_sub hl [3, 4, 5, 6, 0] rfl)
  · skip
    have wd := z_cell wd (ws2 := [zO a0 0 [.int (iI mm), .int (iI oo), .ref a1], zA cy a1 3 tp, zA cy a2 32 (lwS mm oo tp dv st)]) 2 rfl (by intro j _ _; rw [lwS, if_pos (by omega)]) rfl
    exact z_vret C hr hlk wd dX0_lowerAfter_9
set_option maxRecDepth 100000 in
set_option maxHeartbeats 4000000 in
theorem c_X0_leastReturn (l : Launch) (D : va_G) (cy cs : ClassId) (a0 a1 : Nat) (mm oo : Int) (tp : Int → Int) (a2 : Nat) (dv : Int → Int) (hm : 1 ≤ mm ∧ mm ≤ 5) (ho : 2 ≤ oo ∧ oo ≤ 3) (ht : tpOk tp) : zCi l D (zT cy cs) yX0_leastReturn wsX0_leastReturn ({ frames := 5, cells := 0, slots := 0, locals := 115 } : Room) [.ref a0, .ref a2] [zO a0 0 [.int (iI mm), .int (iI oo), .ref a1], zA cy a1 3 tp, zA cy a2 32 dv] (lvN mm oo tp (p2 mm).toNat 0) [zO a0 0 [.int (iI mm), .int (iI oo), .ref a1], zA cy a1 3 tp, zA cy a2 32 (lvN mm oo tp (p2 mm).toNat)] := by
  intro sz
  refine zM_mk (cc := cX0_leastReturn) (maxL := 5) (ret := (some .int)) (own := RX0) (Qc := fun sz => va_Qi (fun r (_ : Unit) => r = iI (lvN mm oo tp (p2 mm).toNat 0)) (fun _ t9 => zQ D (zT cy cs) (va_A [zO a0 0 [.int (iI mm), .int (iI oo), .ref a1], zA cy a1 3 tp, zA cy a2 32 dv] sz) [zO a0 0 [.int (iI mm), .int (iI oo), .ref a1], zA cy a1 3 tp, zA cy a2 32 (lvN mm oo tp (p2 mm).toNat)] t9) (va_A [zO a0 0 [.int (iI mm), .int (iI oo), .ref a1], zA cy a1 3 tp, zA cy a2 32 dv] sz)) (by decide) rfl rfl (Nat.le_of_ble_eq_true rfl) rfl sz ?_
  intro p e s m args below meth c ls C hr hlk hnm hl hsz hA wd
  subst hsz
  have hl : lv_has ls 5 [(0, .ref a0), (1, .ref a2)] := hl
  have hp := p2_all hm.1 hm.2
  have hnx := nx_le (x := 0) (b := 1) hm.1 hm.2 (by omega) (by omega) (by omega) (by omega)
  refine lv_aload_n C.1 C.2.1 dX0_leastReturn_0 rfl (lv_at hl 0 rfl) ?_
  refine z_cvi C wd hA (As := []) (rest := []) (ws2 := [zO a0 0 [.int (iI mm), .int (iI oo), .ref a1], zA cy a1 3 tp, zA cy a2 32 dv]) (c_X0_states l D cy cs a0 a1 mm oo (by omega)) (cwV 0 C.2.2.2.2 gX0_leastReturn_X0_states rfl rfl rfl (by decide +kernel) ⟨Nat.le_of_ble_eq_true rfl, Nat.le_of_ble_eq_true rfl⟩) [0] rfl rfl rfl ⟨rfl, [1, 2], [zA cy a1 3 tp, zA cy a2 32 dv], 3, rfl, rfl, rfl, by decide +kernel⟩ rfl rfl rfl rfl (Nat.le_of_ble_eq_true rfl) hl.1 dX0_leastReturn_1 ⟨Nat.zero_le _, Nat.zero_le _⟩ (fun H locs wd => ?_)
  refine lv_istore_n (lv' := [(2, .int (iI (p2 mm))), (0, .ref a0), (1, .ref a2)]) C.1 C.2.1 dX0_leastReturn_4 rfl hl (by decide) rfl (fun ls hl => ?_)
  refine lv_aload_n C.1 C.2.1 dX0_leastReturn_5 rfl (lv_at hl 2 rfl) ?_
  refine z_iconst C dX0_leastReturn_6 ?_
  refine z_csv C wd hA (As := [.ref a2, .int (iI (-1))]) (rest := []) (ws2 := [zO a0 0 [.int (iI mm), .int (iI oo), .ref a1], zA cy a1 3 tp, zA cy a2 32 (fun _ => (-1))]) (c_fill l D cy cs a2 32 (-1) dv (by omega)) (va_cwS 2 C.2.2.2.2 gX0_leastReturn_J7_fill_53178 rfl rfl rfl (by decide +kernel) ⟨Nat.le_of_ble_eq_true rfl, Nat.le_of_ble_eq_true rfl⟩) [2] rfl rfl rfl ⟨rfl, [0, 1], [zO a0 0 [.int (iI mm), .int (iI oo), .ref a1], zA cy a1 3 tp], 3, rfl, rfl, rfl, by decide +kernel⟩ rfl rfl (Nat.le_of_ble_eq_true rfl) hl.1 dX0_leastReturn_7 ⟨Nat.zero_le _, Nat.zero_le _⟩ (fun H locs wd => ?_)
  refine lv_aload_n C.1 C.2.1 dX0_leastReturn_10 rfl (lv_at hl 2 rfl) ?_
  refine lv_aload_n C.1 C.2.1 dX0_leastReturn_11 rfl (lv_at hl 1 rfl) ?_
  refine z_iconst C dX0_leastReturn_12 ?_
  refine z_iconst C dX0_leastReturn_13 ?_
  refine z_cvi C wd hA (As := [.int (iI 0), .int (iI 1)]) (rest := [.ref a2]) (ws2 := [zO a0 0 [.int (iI mm), .int (iI oo), .ref a1], zA cy a1 3 tp, zA cy a2 32 (fun _ => (-1))]) (c_X0_stateAfter l D cy cs a0 a1 mm oo 0 1 (by omega) (by omega) (by omega)) (cwV 2 C.2.2.2.2 gX0_leastReturn_X0_stateAfter rfl rfl rfl (by decide +kernel) ⟨Nat.le_of_ble_eq_true rfl, Nat.le_of_ble_eq_true rfl⟩) [0] rfl rfl rfl ⟨rfl, [1, 2], [zA cy a1 3 tp, zA cy a2 32 (fun _ => (-1))], 3, rfl, rfl, rfl, by decide +kernel⟩ rfl rfl rfl rfl (Nat.le_of_ble_eq_true rfl) hl.1 dX0_leastReturn_14 ⟨Nat.zero_le _, Nat.zero_le _⟩ (fun H locs wd => ?_)
  refine z_top (b := nx mm 0 1) rfl ?_
  refine lv_aload_n C.1 C.2.1 dX0_leastReturn_17 rfl (lv_at hl 1 rfl) ?_
  refine z_iconst C dX0_leastReturn_18 ?_
  refine z_iconst C dX0_leastReturn_19 ?_
  refine z_cvi C wd hA (As := [.int (iI 0), .int (iI 1)]) (rest := [.int (iI (nx mm 0 1)), .ref a2]) (ws2 := [zO a0 0 [.int (iI mm), .int (iI oo), .ref a1], zA cy a1 3 tp, zA cy a2 32 (fun _ => (-1))]) (c_X0_onesOf l D cy cs a0 a1 mm oo tp 0 1 (by omega) (by omega) (by omega) (by omega) (by omega)) (cwV 2 C.2.2.2.2 gX0_leastReturn_X0_onesOf rfl rfl rfl (by decide +kernel) ⟨Nat.le_of_ble_eq_true rfl, Nat.le_of_ble_eq_true rfl⟩) [0, 1] rfl rfl rfl ⟨rfl, [2], [zA cy a2 32 (fun _ => (-1))], 3, rfl, rfl, rfl, by decide +kernel⟩ rfl rfl rfl rfl (Nat.le_of_ble_eq_true rfl) hl.1 dX0_leastReturn_20 ⟨Nat.zero_le _, Nat.zero_le _⟩ (fun H locs wd => ?_)
  refine z_top (b := zw mm oo tp 0 1) rfl ?_
  refine z_iast C wd (ws2 := [zO a0 0 [.int (iI mm), .int (iI oo), .ref a1], zA cy a1 3 tp, zA cy a2 32 (uZ (fun _ => (-1)) (nx mm 0 1) (zw mm oo tp 0 1))]) 2 rfl (by omega) (by decide) rfl dX0_leastReturn_23 (fun H locs wd => ?_)
  refine z_iconst C dX0_leastReturn_24 ?_
  refine lv_istore_n (lv' := [(3, .int (iI 0)), (2, .int (iI (p2 mm))), (0, .ref a0), (1, .ref a2)]) C.1 C.2.1 dX0_leastReturn_25 rfl hl (by decide) rfl (fun ls hl => ?_)
  refine z_loop2 (P := fun (k : Int) (g : Int → Int) => (0 ≤ k ∧ k ≤ p2 mm) ∧ (g = lvN mm oo tp k.toNat)) (mu := fun (k : Int) (g : Int → Int) => (p2 mm - k).toNat) (ws := fun (k : Int) (g : Int → Int) => [zO a0 0 [.int (iI mm), .int (iI oo), .ref a1], zA cy a1 3 tp, zA cy a2 32 g]) (lv := fun (k : Int) (g : Int → Int) => [(0, .ref a0), (1, .ref a2), (2, .int (iI (p2 mm))), (3, .int (iI k))]) 0 (uZ (fun _ => (-1)) (nx mm 0 1) (zw mm oo tp 0 1)) C ⟨(by omega), rfl⟩ wd (lv_sub hl [2, 3, 1, 0] rfl) ?_
  intro k g hP26 ih26 H locs ls wd hl
  obtain ⟨h26_0, h26_1⟩ := hP26
  try dsimp only at h26_0 h26_1
  have wd : Wd D (zT cy cs) _ s.heap s [zO a0 0 [.int (iI mm), .int (iI oo), .ref a1], zA cy a1 3 tp, zA cy a2 32 g] H locs := wd
  have hl : lv_has ls 5 [(0, .ref a0), (1, .ref a2), (2, .int (iI (p2 mm))), (3, .int (iI k))] := hl
  refine lv_iload_n C.1 C.2.1 dX0_leastReturn_26 rfl (lv_at hl 3 rfl) ?_
  refine lv_iload_n C.1 C.2.1 dX0_leastReturn_27 rfl (lv_at hl 2 rfl) ?_
  refine z_icmp_ge C (tgt := 59) dX0_leastReturn_28 (by decide) (by omega) (fun c_1 => ?_) (fun c_1 => ?_)
  · skip
    refine lv_aload_n C.1 C.2.1 dX0_leastReturn_59 rfl (lv_at hl 1 rfl) ?_
    refine z_iconst C dX0_leastReturn_60 ?_
    refine z_iald C wd 2 rfl (by omega) (by decide) dX0_leastReturn_61 ?_
    have wd := z_cell wd (ws2 := [zO a0 0 [.int (iI mm), .int (iI oo), .ref a1], zA cy a1 3 tp, zA cy a2 32 (lvN mm oo tp (p2 mm).toNat)]) 2 rfl (by intro j _ _; rw [h26_1, show k = p2 mm by omega]) rfl
    exact z_iret C hr hlk wd (by rw [h26_1, show k = p2 mm by omega]) dX0_leastReturn_62
  · skip
    refine z_iconst C dX0_leastReturn_31 ?_
    refine lv_istore (lv' := [(4, .int (iI 1)), (0, .ref a0), (1, .ref a2), (2, .int (iI (p2 mm))), (3, .int (iI k))]) C.1 C.2.1 dX0_leastReturn_32 hl (by decide) rfl (fun ls hl => ?_)
    refine z_loop2 (P := fun (t : Int) (g2 : Int → Int) => (1 ≤ t ∧ t ≤ p2 mm) ∧ (g2 = lwF mm oo tp g t.toNat)) (mu := fun (t : Int) (g2 : Int → Int) => (p2 mm - t).toNat) (ws := fun (t : Int) (g2 : Int → Int) => [zO a0 0 [.int (iI mm), .int (iI oo), .ref a1], zA cy a1 3 tp, zA cy a2 32 g2]) (lv := fun (t : Int) (g2 : Int → Int) => [(0, .ref a0), (1, .ref a2), (2, .int (iI (p2 mm))), (3, .int (iI k)), (4, .int (iI t))]) 1 g C ⟨(by omega), rfl⟩ wd (lv_sub hl [1, 2, 3, 4, 0] rfl) ?_
    intro t g2 hP34 ih34 H locs ls wd hl
    obtain ⟨h34_0, h34_1⟩ := hP34
    try dsimp only at h34_0 h34_1
    have wd : Wd D (zT cy cs) _ s.heap s [zO a0 0 [.int (iI mm), .int (iI oo), .ref a1], zA cy a1 3 tp, zA cy a2 32 g2] H locs := wd
    have hl : lv_has ls 5 [(0, .ref a0), (1, .ref a2), (2, .int (iI (p2 mm))), (3, .int (iI k)), (4, .int (iI t))] := hl
    have hgb := lwF_bd (mm := mm) (tp := tp) ho (lvN_bd (tp := tp) hm ho k.toNat) t.toNat
    rw [← h26_1, ← h34_1] at hgb
    refine lv_iload C.1 C.2.1 dX0_leastReturn_34 (lv_at hl 4 rfl) ?_
    refine lv_iload_n C.1 C.2.1 dX0_leastReturn_36 rfl (lv_at hl 2 rfl) ?_
    refine z_icmp_ge C (tgt := 53) dX0_leastReturn_37 (by decide) (by omega) (fun c_2 => ?_) (fun c_2 => ?_)
    · skip
      refine z_iinc C (lv' := [(3, .int (iI (k + 1))), (0, .ref a0), (1, .ref a2), (2, .int (iI (p2 mm))), (4, .int (iI t))]) hl 3 dX0_leastReturn_53 rfl (by decide) rfl (fun ls hl => ?_)
      refine z_goto C (tgt := 26) dX0_leastReturn_56 (by decide) ?_
      exact ih26 (k + 1) g2 ⟨(by omega), (by rw [h34_1, show t = p2 mm by omega, h26_1]; exact (lvN_at mm oo tp h26_0.1).symm)⟩ (by omega) H locs _ wd (lv_sub hl [1, 2, 3, 0] rfl)
    · skip
      refine lv_aload_n C.1 C.2.1 dX0_leastReturn_40 rfl (lv_at hl 0 rfl) ?_
      refine lv_iload C.1 C.2.1 dX0_leastReturn_41 (lv_at hl 4 rfl) ?_
      refine lv_aload_n C.1 C.2.1 dX0_leastReturn_43 rfl (lv_at hl 1 rfl) ?_
      refine z_cvv C wd hA (As := [.int (iI t), .ref a2]) (rest := []) (ws2 := [zO a0 0 [.int (iI mm), .int (iI oo), .ref a1], zA cy a1 3 tp, zA cy a2 32 (lwS mm oo tp g2 t)]) (c_X0_lowerAfter l D cy cs a0 a1 mm oo tp a2 g2 t (by omega) (by omega) ht (by omega) (bdA_up hgb (by omega))) (cwV 2 C.2.2.2.2 gX0_leastReturn_X0_lowerAfter rfl rfl rfl (by decide +kernel) ⟨Nat.le_of_ble_eq_true rfl, Nat.le_of_ble_eq_true rfl⟩) [0, 1, 2] rfl rfl rfl ⟨rfl, [], [], 3, rfl, rfl, rfl, by decide +kernel⟩ rfl rfl rfl rfl (Nat.le_of_ble_eq_true rfl) hl.1 dX0_leastReturn_44 ⟨Nat.zero_le _, Nat.zero_le _⟩ (fun H locs wd => ?_)
      refine z_iinc C (lv' := [(4, .int (iI (t + 1))), (0, .ref a0), (1, .ref a2), (2, .int (iI (p2 mm))), (3, .int (iI k))]) hl 4 dX0_leastReturn_47 rfl (by decide) rfl (fun ls hl => ?_)
      refine z_goto C (tgt := 34) dX0_leastReturn_50 (by decide) ?_
      exact ih34 (t + 1) (lwS mm oo tp g2 t) ⟨(by omega), (by rw [lwF_at mm oo tp g h34_0.1, h34_1])⟩ (by omega) H locs _ wd (lv_sub hl [1, 2, 3, 4, 0] rfl)
