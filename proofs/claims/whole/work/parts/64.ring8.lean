set_option maxRecDepth 100000 in
set_option maxHeartbeats 4000000 in
theorem c_X6_hasIdleRing (l : Launch) (D : va_G) (cy cs : ClassId) (m0 m1 m2 m3 m4 m5 m6 m7 m8 : Nat) (st iss ty : Int) (M : Int → Int) (hm : 1 ≤ M 0 ∧ M 0 ≤ 5) (ho : 2 ≤ M 1 ∧ M 1 ≤ 3) (ht : tpOk (sl M 2)) : zCi l D (zT cy cs) yX6_hasIdleRing wsX6_hasIdleRing ({ frames := 3, cells := 0, slots := 0, locals := 72 } : Room) [.ref m0] [zO m0 6 [.ref m1, .ref m2, .int (iI st), .ref m3, .int (iI iss), .ref m4, .int (iI ty), .ref m5, .ref m6, .ref m7, .ref m8], zA cy m1 780 M] (bI (rgN (M 0) (M 1) (sl M 2) (p2 (M 0)).toNat ≠ 0)) [zO m0 6 [.ref m1, .ref m2, .int (iI st), .ref m3, .int (iI iss), .ref m4, .int (iI ty), .ref m5, .ref m6, .ref m7, .ref m8], zA cy m1 780 M] := by
  intro sz
  refine zM_mk (cc := cX6_hasIdleRing) (maxL := 5) (ret := (some .int)) (own := RX6) (Qc := fun sz => va_Qi (fun r (_ : Unit) => r = iI (bI (rgN (M 0) (M 1) (sl M 2) (p2 (M 0)).toNat ≠ 0))) (fun _ t9 => zQ D (zT cy cs) (va_A [zO m0 6 [.ref m1, .ref m2, .int (iI st), .ref m3, .int (iI iss), .ref m4, .int (iI ty), .ref m5, .ref m6, .ref m7, .ref m8], zA cy m1 780 M] sz) [zO m0 6 [.ref m1, .ref m2, .int (iI st), .ref m3, .int (iI iss), .ref m4, .int (iI ty), .ref m5, .ref m6, .ref m7, .ref m8], zA cy m1 780 M] t9) (va_A [zO m0 6 [.ref m1, .ref m2, .int (iI st), .ref m3, .int (iI iss), .ref m4, .int (iI ty), .ref m5, .ref m6, .ref m7, .ref m8], zA cy m1 780 M] sz)) (by decide) rfl rfl (Nat.le_of_ble_eq_true rfl) rfl sz ?_
  intro p e s m args below meth c ls C hr hlk hnm hl hsz hA wd
  subst hsz
  have hl : lv_has ls 5 [(0, .ref m0)] := hl
  have hp := p2_all hm.1 hm.2
  have hNN := p2_mono (a := p2 (M 0)) (b := 32) (by omega) (by omega)
  have h32 : p2 32 = 4294967296 := by decide +kernel
  refine z_iconst C dX6_hasIdleRing_0 ?_
  refine lv_istore_n (lv' := [(1, .int (iI 0)), (0, .ref m0)]) C.1 C.2.1 dX6_hasIdleRing_1 rfl hl (by decide) rfl (fun ls hl => ?_)
  refine z_iconst C dX6_hasIdleRing_2 ?_
  refine lv_istore_n (lv' := [(2, .int (iI 1)), (1, .int (iI 0)), (0, .ref m0)]) C.1 C.2.1 dX6_hasIdleRing_3 rfl hl (by decide) rfl (fun ls hl => ?_)
  refine z_loop2 (P := fun (u : Int) (v : Int) => (1 ≤ v ∧ v ≤ p2 (M 0)) ∧ (u = p2 v - 2)) (mu := fun (u : Int) (v : Int) => (p2 (M 0) - v).toNat) (ws := fun (u : Int) (v : Int) => [zO m0 6 [.ref m1, .ref m2, .int (iI st), .ref m3, .int (iI iss), .ref m4, .int (iI ty), .ref m5, .ref m6, .ref m7, .ref m8], zA cy m1 780 M]) (lv := fun (u : Int) (v : Int) => [(0, .ref m0), (1, .int (iI u)), (2, .int (iI v))]) 0 1 C ⟨(by omega), rfl⟩ wd (lv_sub hl [2, 1, 0] rfl) ?_
  intro u v hP4 ih4 H locs ls wd hl
  obtain ⟨h4_0, h4_1⟩ := hP4
  try dsimp only at h4_0 h4_1
  have wd : Wd D (zT cy cs) _ s.heap s [zO m0 6 [.ref m1, .ref m2, .int (iI st), .ref m3, .int (iI iss), .ref m4, .int (iI ty), .ref m5, .ref m6, .ref m7, .ref m8], zA cy m1 780 M] H locs := wd
  have hl : lv_has ls 5 [(0, .ref m0), (1, .int (iI u)), (2, .int (iI v))] := hl
  have hpv := p2_pos v
  have hev := p2_even (k := v) (by omega)
  have hpv1 := p2_pos (v - 1)
  have hev1 := p2_even (k := v + 1) (by omega)
  rw [show v + 1 - 1 = v by omega] at hev1
  refine lv_iload_n C.1 C.2.1 dX6_hasIdleRing_4 rfl (lv_at hl 2 rfl) ?_
  refine lv_aload_n C.1 C.2.1 dX6_hasIdleRing_5 rfl (lv_at hl 0 rfl) ?_
  refine z_cvi C wd hA (As := []) (rest := [.int (iI v)]) (ws2 := [zO m0 6 [.ref m1, .ref m2, .int (iI st), .ref m3, .int (iI iss), .ref m4, .int (iI ty), .ref m5, .ref m6, .ref m7, .ref m8], zA cy m1 780 M]) (c_X6_registers l D cy cs m0 m1 m2 m3 m4 m5 m6 m7 m8 st iss ty M (by omega)) (cwV 0 C.2.2.2.2 gX6_hasIdleRing_X6_registers rfl rfl rfl (by decide +kernel) ⟨Nat.le_of_ble_eq_true rfl, Nat.le_of_ble_eq_true rfl⟩) [0, 1] rfl rfl rfl ⟨rfl, [], [], 2, rfl, rfl, rfl, by decide +kernel⟩ rfl rfl rfl rfl (Nat.le_of_ble_eq_true rfl) hl.1 dX6_hasIdleRing_6 ⟨Nat.zero_le _, Nat.zero_le _⟩ (fun H locs wd => ?_)
  refine z_icmp_ge C (tgt := 24) dX6_hasIdleRing_9 (by decide) (by omega) (fun c_1 => ?_) (fun c_1 => ?_)
  · skip
    refine z_iconst C dX6_hasIdleRing_24 ?_
    refine lv_istore_n (lv' := [(2, .int (iI 0)), (0, .ref m0), (1, .int (iI u))]) C.1 C.2.1 dX6_hasIdleRing_25 rfl hl (by decide) rfl (fun ls hl => ?_)
    refine z_loop2 (P := fun (x : Int) (y : Int) => (rO (M 0) (M 1) (sl M 2) x y) ∧ (0 ≤ y ∧ y < 4294967296)) (mu := fun (x : Int) (y : Int) => (if x = y then 0 else x + 1).toNat) (ws := fun (x : Int) (y : Int) => [zO m0 6 [.ref m1, .ref m2, .int (iI st), .ref m3, .int (iI iss), .ref m4, .int (iI ty), .ref m5, .ref m6, .ref m7, .ref m8], zA cy m1 780 M]) (lv := fun (x : Int) (y : Int) => [(0, .ref m0), (1, .int (iI x)), (2, .int (iI y))]) u 0 C ⟨(by rw [h4_1, show v = p2 (M 0) by omega]; exact rO_init hm.1 hm.2), (by omega)⟩ wd (lv_sub hl [1, 2, 0] rfl) ?_
    intro x y hP26 ih26 H locs ls wd hl
    obtain ⟨h26_0, h26_1⟩ := hP26
    try dsimp only at h26_0 h26_1
    have wd : Wd D (zT cy cs) _ s.heap s [zO m0 6 [.ref m1, .ref m2, .int (iI st), .ref m3, .int (iI iss), .ref m4, .int (iI ty), .ref m5, .ref m6, .ref m7, .ref m8], zA cy m1 780 M] H locs := wd
    have hl : lv_has ls 5 [(0, .ref m0), (1, .int (iI x)), (2, .int (iI y))] := hl
    have hxr := h26_0.1
    refine lv_iload_n C.1 C.2.1 dX6_hasIdleRing_26 rfl (lv_at hl 1 rfl) ?_
    refine lv_iload_n C.1 C.2.1 dX6_hasIdleRing_27 rfl (lv_at hl 2 rfl) ?_
    refine z_icmpW_eq C (tgt := 94) dX6_hasIdleRing_28 (by decide) (by omega) (fun c_2 => ?_) (fun c_2 => ?_)
    · skip
      refine lv_iload_n C.1 C.2.1 dX6_hasIdleRing_94 rfl (lv_at hl 1 rfl) ?_
      refine z_ifW_ne C (tgt := 102) dX6_hasIdleRing_95 (by decide) (by omega) (fun c_3 => ?_) (fun c_3 => ?_)
      · skip
        refine z_iconst C dX6_hasIdleRing_102 ?_
        exact z_iret C hr hlk wd (by have e := rg_end hm.1 hm.2 h26_0 (by omega); first | exact (bI_t (by omega)).symm | exact (bI_f (by omega)).symm) dX6_hasIdleRing_103
      · skip
        refine z_iconst C dX6_hasIdleRing_98 ?_
        refine z_goto C (tgt := 103) dX6_hasIdleRing_99 (by decide) ?_
        exact z_iret C hr hlk wd (by have e := rg_end hm.1 hm.2 h26_0 (by omega); first | exact (bI_t (by omega)).symm | exact (bI_f (by omega)).symm) dX6_hasIdleRing_103
    · skip
      refine lv_iload_n C.1 C.2.1 dX6_hasIdleRing_31 rfl (lv_at hl 1 rfl) ?_
      refine lv_istore_n (lv' := [(2, .int (iI x)), (0, .ref m0), (1, .int (iI x))]) C.1 C.2.1 dX6_hasIdleRing_32 rfl hl (by decide) rfl (fun ls hl => ?_)
      refine z_iconst C dX6_hasIdleRing_33 ?_
      refine lv_istore_n (lv' := [(3, .int (iI 1)), (2, .int (iI x)), (0, .ref m0), (1, .int (iI x))]) C.1 C.2.1 dX6_hasIdleRing_34 rfl hl (by decide) rfl (fun ls hl => ?_)
      refine z_loop2 (P := fun (x2 : Int) (k : Int) => (rI (M 0) (M 1) (sl M 2) x2 x k) ∧ (1 ≤ k ∧ k ≤ p2 (M 0))) (mu := fun (x2 : Int) (k : Int) => (p2 (M 0) - k).toNat) (ws := fun (x2 : Int) (k : Int) => [zO m0 6 [.ref m1, .ref m2, .int (iI st), .ref m3, .int (iI iss), .ref m4, .int (iI ty), .ref m5, .ref m6, .ref m7, .ref m8], zA cy m1 780 M]) (lv := fun (x2 : Int) (k : Int) => [(0, .ref m0), (1, .int (iI x2)), (2, .int (iI x)), (3, .int (iI k))]) x 1 C ⟨(rI_of h26_0), (by omega)⟩ wd (lv_sub hl [2, 3, 1, 0] rfl) ?_
      intro x2 k hP35 ih35 H locs ls wd hl
      obtain ⟨h35_0, h35_1⟩ := hP35
      try dsimp only at h35_0 h35_1
      have wd : Wd D (zT cy cs) _ s.heap s [zO m0 6 [.ref m1, .ref m2, .int (iI st), .ref m3, .int (iI iss), .ref m4, .int (iI ty), .ref m5, .ref m6, .ref m7, .ref m8], zA cy m1 780 M] H locs := wd
      have hl : lv_has ls 5 [(0, .ref m0), (1, .int (iI x2)), (2, .int (iI x)), (3, .int (iI k))] := hl
      have hx2 := h35_0.1
      refine lv_iload_n C.1 C.2.1 dX6_hasIdleRing_35 rfl (lv_at hl 3 rfl) ?_
      refine lv_aload_n C.1 C.2.1 dX6_hasIdleRing_36 rfl (lv_at hl 0 rfl) ?_
      refine z_cvi C wd hA (As := []) (rest := [.int (iI k)]) (ws2 := [zO m0 6 [.ref m1, .ref m2, .int (iI st), .ref m3, .int (iI iss), .ref m4, .int (iI ty), .ref m5, .ref m6, .ref m7, .ref m8], zA cy m1 780 M]) (c_X6_registers l D cy cs m0 m1 m2 m3 m4 m5 m6 m7 m8 st iss ty M (by omega)) (cwV 0 C.2.2.2.2 gX6_hasIdleRing_X6_registers rfl rfl rfl (by decide +kernel) ⟨Nat.le_of_ble_eq_true rfl, Nat.le_of_ble_eq_true rfl⟩) [0, 1] rfl rfl rfl ⟨rfl, [], [], 2, rfl, rfl, rfl, by decide +kernel⟩ rfl rfl rfl rfl (Nat.le_of_ble_eq_true rfl) hl.1 dX6_hasIdleRing_37 ⟨Nat.zero_le _, Nat.zero_le _⟩ (fun H locs wd => ?_)
      refine z_icmp_ge C (tgt := 91) dX6_hasIdleRing_40 (by decide) (by omega) (fun c_4 => ?_) (fun c_4 => ?_)
      · skip
        refine z_goto C (tgt := 26) dX6_hasIdleRing_91 (by decide) ?_
        exact ih26 x2 x ⟨(rO_of h35_0 (by omega)), (by omega)⟩ (by omega) H locs _ wd (lv_sub hl [0, 1, 2] rfl)
      · skip
        have hbb := bit_le x2 k
        have hgz := gz_or (M 0) (M 1) (sl M 2) x2 k
        refine lv_iload_n C.1 C.2.1 dX6_hasIdleRing_43 rfl (lv_at hl 1 rfl) ?_
        refine lv_iload_n C.1 C.2.1 dX6_hasIdleRing_44 rfl (lv_at hl 3 rfl) ?_
        refine z_ishr C (sg x2 / p2 k) dX6_hasIdleRing_45 (iI_bit1 (by omega) (by omega) (by omega) (by omega)) ?_
        refine z_iconst C dX6_hasIdleRing_46 ?_
        refine z_iand C (x2 / p2 k % 2) dX6_hasIdleRing_47 (iI_bit2 (by omega) (by omega)) ?_
        refine z_iconst C dX6_hasIdleRing_48 ?_
        refine z_icmp_ne C (tgt := 65) dX6_hasIdleRing_49 (by decide) (by omega) (fun c_5 => ?_) (fun c_5 => ?_)
        · skip
          refine z_iconst C dX6_hasIdleRing_65 ?_
          refine lv_istore (lv' := [(4, .int (iI 0)), (0, .ref m0), (1, .int (iI x2)), (2, .int (iI x)), (3, .int (iI k))]) C.1 C.2.1 dX6_hasIdleRing_66 hl (by decide) rfl (fun ls hl => ?_)
          refine lv_iload C.1 C.2.1 dX6_hasIdleRing_68 (lv_at hl 0 rfl) ?_
          refine z_if_eq C (tgt := 83) dX6_hasIdleRing_70 (by decide) (by omega) (fun c_6 => ?_) (fun c_6 => ?_)
          · skip
            refine lv_iload_n C.1 C.2.1 dX6_hasIdleRing_83 rfl (lv_at hl 2 rfl) ?_
            refine lv_istore_n (lv' := [(1, .int (iI x2)), (4, .int (iI 0)), (0, .ref m0), (2, .int (iI x)), (3, .int (iI k))]) C.1 C.2.1 dX6_hasIdleRing_84 rfl hl (by decide) rfl (fun ls hl => ?_)
            refine z_iinc C (lv' := [(3, .int (iI (k + 1))), (1, .int (iI x2)), (4, .int (iI 0)), (0, .ref m0), (2, .int (iI x))]) hl 4 dX6_hasIdleRing_85 rfl (by decide) rfl (fun ls hl => ?_)
            refine z_goto C (tgt := 35) dX6_hasIdleRing_88 (by decide) ?_
            exact ih35 x2 (k + 1) ⟨(by first | exact rI_keep h35_0 (by omega) | exact rI_drop hm.1 hm.2 h35_0 h35_1.1 (by omega) (by omega) (by omega)), (by omega)⟩ (by omega) H locs _ wd (lv_sub hl [3, 1, 4, 0] rfl)
          · skip
            exact False.elim (by omega)
        · skip
          refine lv_aload_n C.1 C.2.1 dX6_hasIdleRing_52 rfl (lv_at hl 0 rfl) ?_
          refine lv_iload_n C.1 C.2.1 dX6_hasIdleRing_53 rfl (lv_at hl 3 rfl) ?_
          refine lv_iload_n C.1 C.2.1 dX6_hasIdleRing_54 rfl (lv_at hl 1 rfl) ?_
          refine z_cvi C wd hA (As := [.int (iI k), .int (iI x2)]) (rest := []) (ws2 := [zO m0 6 [.ref m1, .ref m2, .int (iI st), .ref m3, .int (iI iss), .ref m4, .int (iI ty), .ref m5, .ref m6, .ref m7, .ref m8], zA cy m1 780 M]) (c_X6_goesOn l D cy cs m0 m1 m2 m3 m4 m5 m6 m7 m8 st iss ty M k x2 (by omega) (by omega) (by omega) (by omega) (by omega)) (cwV 2 C.2.2.2.2 gX6_hasIdleRing_X6_goesOn rfl rfl rfl (by decide +kernel) ⟨Nat.le_of_ble_eq_true rfl, Nat.le_of_ble_eq_true rfl⟩) [0, 1] rfl rfl rfl ⟨rfl, [], [], 2, rfl, rfl, rfl, by decide +kernel⟩ rfl rfl rfl rfl (Nat.le_of_ble_eq_true rfl) hl.1 dX6_hasIdleRing_55 ⟨Nat.zero_le _, Nat.zero_le _⟩ (fun H locs wd => ?_)
          refine z_if_ne C (tgt := 65) dX6_hasIdleRing_58 (by decide) (by omega) (fun c_7 => ?_) (fun c_7 => ?_)
          · skip
            refine z_iconst C dX6_hasIdleRing_65 ?_
            refine lv_istore (lv' := [(4, .int (iI 0)), (0, .ref m0), (1, .int (iI x2)), (2, .int (iI x)), (3, .int (iI k))]) C.1 C.2.1 dX6_hasIdleRing_66 hl (by decide) rfl (fun ls hl => ?_)
            refine lv_iload C.1 C.2.1 dX6_hasIdleRing_68 (lv_at hl 0 rfl) ?_
            refine z_if_eq C (tgt := 83) dX6_hasIdleRing_70 (by decide) (by omega) (fun c_8 => ?_) (fun c_8 => ?_)
            · skip
              refine lv_iload_n C.1 C.2.1 dX6_hasIdleRing_83 rfl (lv_at hl 2 rfl) ?_
              refine lv_istore_n (lv' := [(1, .int (iI x2)), (4, .int (iI 0)), (0, .ref m0), (2, .int (iI x)), (3, .int (iI k))]) C.1 C.2.1 dX6_hasIdleRing_84 rfl hl (by decide) rfl (fun ls hl => ?_)
              refine z_iinc C (lv' := [(3, .int (iI (k + 1))), (1, .int (iI x2)), (4, .int (iI 0)), (0, .ref m0), (2, .int (iI x))]) hl 4 dX6_hasIdleRing_85 rfl (by decide) rfl (fun ls hl => ?_)
              refine z_goto C (tgt := 35) dX6_hasIdleRing_88 (by decide) ?_
              exact ih35 x2 (k + 1) ⟨(by first | exact rI_keep h35_0 (by omega) | exact rI_drop hm.1 hm.2 h35_0 h35_1.1 (by omega) (by omega) (by omega)), (by omega)⟩ (by omega) H locs _ wd (lv_sub hl [3, 1, 4, 0] rfl)
            · skip
              exact False.elim (by omega)
          · skip
            refine z_iconst C dX6_hasIdleRing_61 ?_
            refine z_goto C (tgt := 66) dX6_hasIdleRing_62 (by decide) ?_
            refine lv_istore (lv' := [(4, .int (iI 1)), (0, .ref m0), (1, .int (iI x2)), (2, .int (iI x)), (3, .int (iI k))]) C.1 C.2.1 dX6_hasIdleRing_66 hl (by decide) rfl (fun ls hl => ?_)
            refine lv_iload C.1 C.2.1 dX6_hasIdleRing_68 (lv_at hl 0 rfl) ?_
            refine z_if_eq C (tgt := 83) dX6_hasIdleRing_70 (by decide) (by omega) (fun c_9 => ?_) (fun c_9 => ?_)
            · skip
              exact False.elim (by omega)
            · skip
              refine lv_iload_n C.1 C.2.1 dX6_hasIdleRing_73 rfl (lv_at hl 2 rfl) ?_
              refine z_iconst C dX6_hasIdleRing_74 ?_
              refine lv_iload_n C.1 C.2.1 dX6_hasIdleRing_75 rfl (lv_at hl 4 rfl) ?_
              refine z_ishl C (p2 k) dX6_hasIdleRing_76 (iI_1k (by omega) (by omega)) ?_
              refine z_iconst C dX6_hasIdleRing_77 ?_
              refine z_ixor C (-1 - p2 k) dX6_hasIdleRing_78 (iI_xorm (by omega) (by omega)) ?_
              refine z_iand C (x2 - p2 k) dX6_hasIdleRing_79 (iI_outm (by omega) (by omega) (by omega) (by omega)) ?_
              refine z_goto C (tgt := 84) dX6_hasIdleRing_80 (by decide) ?_
              refine lv_istore_n (lv' := [(1, .int (iI (x2 - p2 k))), (4, .int (iI 1)), (0, .ref m0), (2, .int (iI x)), (3, .int (iI k))]) C.1 C.2.1 dX6_hasIdleRing_84 rfl hl (by decide) rfl (fun ls hl => ?_)
              refine z_iinc C (lv' := [(3, .int (iI (k + 1))), (1, .int (iI (x2 - p2 k))), (4, .int (iI 1)), (0, .ref m0), (2, .int (iI x))]) hl 4 dX6_hasIdleRing_85 rfl (by decide) rfl (fun ls hl => ?_)
              refine z_goto C (tgt := 35) dX6_hasIdleRing_88 (by decide) ?_
              exact ih35 (x2 - p2 k) (k + 1) ⟨(by first | exact rI_keep h35_0 (by omega) | exact rI_drop hm.1 hm.2 h35_0 h35_1.1 (by omega) (by omega) (by omega)), (by omega)⟩ (by omega) H locs _ wd (lv_sub hl [3, 1, 4, 0] rfl)
  · skip
    refine lv_iload_n C.1 C.2.1 dX6_hasIdleRing_12 rfl (lv_at hl 1 rfl) ?_
    refine z_iconst C dX6_hasIdleRing_13 ?_
    refine lv_iload_n C.1 C.2.1 dX6_hasIdleRing_14 rfl (lv_at hl 2 rfl) ?_
    refine z_ishl C (p2 v) dX6_hasIdleRing_15 (iI_1k (by omega) (by omega)) ?_
    refine z_ior C (u + p2 v) dX6_hasIdleRing_16 (by rw [h4_1]; exact iI_orb (by omega) (by omega) (by omega)) ?_
    refine lv_istore_n (lv' := [(1, .int (iI (u + p2 v))), (0, .ref m0), (2, .int (iI v))]) C.1 C.2.1 dX6_hasIdleRing_17 rfl hl (by decide) rfl (fun ls hl => ?_)
    refine z_iinc C (lv' := [(2, .int (iI (v + 1))), (1, .int (iI (u + p2 v))), (0, .ref m0)]) hl 2 dX6_hasIdleRing_18 rfl (by decide) rfl (fun ls hl => ?_)
    refine z_goto C (tgt := 4) dX6_hasIdleRing_21 (by decide) ?_
    exact ih4 (u + p2 v) (v + 1) ⟨(by omega), (by omega)⟩ (by omega) H locs _ wd (lv_sub hl [2, 1, 0] rfl)
