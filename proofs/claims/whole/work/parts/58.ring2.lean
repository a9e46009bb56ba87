set_option maxRecDepth 100000 in
set_option maxHeartbeats 4000000 in
theorem c_X0_hasRingOfZeros (l : Launch) (D : va_G) (cy cs : ClassId) (a0 a1 : Nat) (mm oo : Int) (tp : Int → Int) (hm : 1 ≤ mm ∧ mm ≤ 5) (ho : 2 ≤ oo ∧ oo ≤ 3) (ht : tpOk tp) : zCi l D (zT cy cs) yX0_hasRingOfZeros wsX0_hasRingOfZeros ({ frames := 4, cells := 0, slots := 0, locals := 91 } : Room) [.ref a0] [zO a0 0 [.int (iI mm), .int (iI oo), .ref a1], zA cy a1 3 tp] (bI (rgN mm oo tp (p2 mm).toNat ≠ 0)) [zO a0 0 [.int (iI mm), .int (iI oo), .ref a1], zA cy a1 3 tp] := by
  intro sz
  refine zM_mk (cc := cX0_hasRingOfZeros) (maxL := 8) (ret := (some .boolean)) (own := RX0) (Qc := fun sz => va_Qi (fun r (_ : Unit) => r = iI (bI (rgN mm oo tp (p2 mm).toNat ≠ 0))) (fun _ t9 => zQ D (zT cy cs) (va_A [zO a0 0 [.int (iI mm), .int (iI oo), .ref a1], zA cy a1 3 tp] sz) [zO a0 0 [.int (iI mm), .int (iI oo), .ref a1], zA cy a1 3 tp] t9) (va_A [zO a0 0 [.int (iI mm), .int (iI oo), .ref a1], zA cy a1 3 tp] sz)) (by decide) rfl rfl (Nat.le_of_ble_eq_true rfl) rfl sz ?_
  intro p e s m args below meth c ls C hr hlk hnm hl hsz hA wd
  subst hsz
  have hl : lv_has ls 8 [(0, .ref a0)] := hl
  have hp := p2_all hm.1 hm.2
  refine lv_aload_n C.1 C.2.1 dX0_hasRingOfZeros_0 rfl (lv_at hl 0 rfl) ?_
  refine z_cvi C wd hA (As := []) (rest := []) (ws2 := [zO a0 0 [.int (iI mm), .int (iI oo), .ref a1], zA cy a1 3 tp]) (c_X0_states l D cy cs a0 a1 mm oo (by omega)) (cwV 0 C.2.2.2.2 gX0_hasRingOfZeros_X0_states rfl rfl rfl (by decide +kernel) ⟨Nat.le_of_ble_eq_true rfl, Nat.le_of_ble_eq_true rfl⟩) [0] rfl rfl rfl ⟨rfl, [1], [zA cy a1 3 tp], 2, rfl, rfl, rfl, by decide +kernel⟩ rfl rfl rfl rfl (Nat.le_of_ble_eq_true rfl) hl.1 dX0_hasRingOfZeros_1 ⟨Nat.zero_le _, Nat.zero_le _⟩ (fun H locs wd => ?_)
  refine lv_istore_n (lv' := [(1, .int (iI (p2 mm))), (0, .ref a0)]) C.1 C.2.1 dX0_hasRingOfZeros_4 rfl hl (by decide) rfl (fun ls hl => ?_)
  refine lv_lconst (v := lI 1) C.1 C.2.1 dX0_hasRingOfZeros_5 (by decide +kernel) ?_
  refine lv_iload_n C.1 C.2.1 dX0_hasRingOfZeros_6 rfl (lv_at hl 0 rfl) ?_
  refine lv_lshl (v := lI (p2 (p2 mm))) C.1 C.2.1 dX0_hasRingOfZeros_7 (lI_1N hm.1 hm.2) ?_
  refine lv_ldc2 (v := lI 2) C.1 C.2.1 C.2.2.2.1 (C.2.2.2.2 (.constantLong RX0 62 (lI 2)) (by decide +kernel)) dX0_hasRingOfZeros_8 ?_
  refine z_lsub C (p2 (p2 mm) - 2) dX0_hasRingOfZeros_11 (lI_sub _ _) ?_
  refine lv_lstore_n (lv' := [(2, .long (lI (p2 (p2 mm) - 2))), (1, .int (iI (p2 mm))), (0, .ref a0)]) C.1 C.2.1 dX0_hasRingOfZeros_12 rfl hl (by decide) rfl (fun ls hl => ?_)
  refine z_iconst C dX0_hasRingOfZeros_13 ?_
  refine lv_istore (lv' := [(4, .int (iI 0)), (2, .long (lI (p2 (p2 mm) - 2))), (1, .int (iI (p2 mm))), (0, .ref a0)]) C.1 C.2.1 dX0_hasRingOfZeros_14 hl (by decide) rfl (fun ls hl => ?_)
  refine z_loop2 (P := fun (X : Int) (k : Int) => (0 ≤ k ∧ k ≤ p2 mm) ∧ (X = rgN mm oo tp k.toNat)) (mu := fun (X : Int) (k : Int) => (p2 mm - k).toNat) (ws := fun (X : Int) (k : Int) => [zO a0 0 [.int (iI mm), .int (iI oo), .ref a1], zA cy a1 3 tp]) (lv := fun (X : Int) (k : Int) => [(0, .ref a0), (1, .int (iI (p2 mm))), (2, .long (lI X)), (4, .int (iI k))]) (p2 (p2 mm) - 2) 0 C ⟨(by omega), rfl⟩ wd (lv_sub hl [3, 2, 1, 0] rfl) ?_
  intro X k hP16 ih16 H locs ls wd hl
  obtain ⟨h16_0, h16_1⟩ := hP16
  try dsimp only at h16_0 h16_1
  have wd : Wd D (zT cy cs) _ s.heap s [zO a0 0 [.int (iI mm), .int (iI oo), .ref a1], zA cy a1 3 tp] H locs := wd
  have hl : lv_has ls 8 [(0, .ref a0), (1, .int (iI (p2 mm))), (2, .long (lI X)), (4, .int (iI k))] := hl
  have hXl := rgN_le (oo := oo) (tp := tp) hm.1 hm.2 k.toNat
  rw [← h16_1] at hXl
  refine lv_iload C.1 C.2.1 dX0_hasRingOfZeros_16 (lv_at hl 3 rfl) ?_
  refine lv_iload_n C.1 C.2.1 dX0_hasRingOfZeros_18 rfl (lv_at hl 1 rfl) ?_
  refine z_icmp_ge C (tgt := 79) dX0_hasRingOfZeros_19 (by decide) (by omega) (fun c_1 => ?_) (fun c_1 => ?_)
  · skip
    refine lv_lload_n C.1 C.2.1 dX0_hasRingOfZeros_79 rfl (lv_at hl 2 rfl) ?_
    refine lv_lconst (v := lI 0) C.1 C.2.1 dX0_hasRingOfZeros_80 (by decide +kernel) ?_
    refine z_lcmp C (if X = 0 then 0 else 1) dX0_hasRingOfZeros_81 (lg_c0 hXl) ?_
    refine z_if_eq C (tgt := 89) dX0_hasRingOfZeros_82 (by decide) (by omega) (fun c_2 => ?_) (fun c_2 => ?_)
    · skip
      refine z_iconst C dX0_hasRingOfZeros_89 ?_
      exact z_zret C hr hlk (by omega) wd (by rw [show p2 mm = k by omega, ← h16_1]; first | exact (bI_t (by omega)).symm | exact (bI_f (by omega)).symm) dX0_hasRingOfZeros_90
    · skip
      refine z_iconst C dX0_hasRingOfZeros_85 ?_
      refine z_goto C (tgt := 90) dX0_hasRingOfZeros_86 (by decide) ?_
      exact z_zret C hr hlk (by omega) wd (by rw [show p2 mm = k by omega, ← h16_1]; first | exact (bI_t (by omega)).symm | exact (bI_f (by omega)).symm) dX0_hasRingOfZeros_90
  · skip
    refine lv_lconst (v := lI 0) C.1 C.2.1 dX0_hasRingOfZeros_22 (by decide +kernel) ?_
    refine lv_lstore (lv' := [(5, .long (lI 0)), (0, .ref a0), (1, .int (iI (p2 mm))), (2, .long (lI X)), (4, .int (iI k))]) C.1 C.2.1 dX0_hasRingOfZeros_23 hl (by decide) rfl (fun ls hl => ?_)
    refine z_iconst C dX0_hasRingOfZeros_25 ?_
    refine lv_istore (lv' := [(7, .int (iI 1)), (5, .long (lI 0)), (0, .ref a0), (1, .int (iI (p2 mm))), (2, .long (lI X)), (4, .int (iI k))]) C.1 C.2.1 dX0_hasRingOfZeros_26 hl (by decide) rfl (fun ls hl => ?_)
    refine z_loop2 (P := fun (y : Int) (t : Int) => (1 ≤ t ∧ t ≤ p2 mm) ∧ (y = csum (st1 mm oo tp X) t.toNat)) (mu := fun (y : Int) (t : Int) => (p2 mm - t).toNat) (ws := fun (y : Int) (t : Int) => [zO a0 0 [.int (iI mm), .int (iI oo), .ref a1], zA cy a1 3 tp]) (lv := fun (y : Int) (t : Int) => [(0, .ref a0), (1, .int (iI (p2 mm))), (2, .long (lI X)), (4, .int (iI k)), (5, .long (lI y)), (7, .int (iI t))]) 0 1 C ⟨(by omega), (by rfl)⟩ wd (lv_sub hl [2, 3, 4, 5, 1, 0] rfl) ?_
    intro y t hP28 ih28 H locs ls wd hl
    obtain ⟨h28_0, h28_1⟩ := hP28
    try dsimp only at h28_0 h28_1
    have wd : Wd D (zT cy cs) _ s.heap s [zO a0 0 [.int (iI mm), .int (iI oo), .ref a1], zA cy a1 3 tp] H locs := wd
    have hl : lv_has ls 8 [(0, .ref a0), (1, .int (iI (p2 mm))), (2, .long (lI X)), (4, .int (iI k)), (5, .long (lI y)), (7, .int (iI t))] := hl
    have hyc := csum_le (st1_le mm oo tp X) t.toNat
    rw [← h28_1, Int.toNat_of_nonneg (show 0 ≤ t by omega)] at hyc
    refine lv_iload C.1 C.2.1 dX0_hasRingOfZeros_28 (lv_at hl 5 rfl) ?_
    refine lv_iload_n C.1 C.2.1 dX0_hasRingOfZeros_30 rfl (lv_at hl 1 rfl) ?_
    refine z_icmp_ge C (tgt := 70) dX0_hasRingOfZeros_31 (by decide) (by omega) (fun c_3 => ?_) (fun c_3 => ?_)
    · skip
      refine lv_lload C.1 C.2.1 dX0_hasRingOfZeros_70 (lv_at hl 4 rfl) ?_
      refine lv_lstore_n (lv' := [(2, .long (lI y)), (0, .ref a0), (1, .int (iI (p2 mm))), (4, .int (iI k)), (5, .long (lI y)), (7, .int (iI t))]) C.1 C.2.1 dX0_hasRingOfZeros_72 rfl hl (by decide) rfl (fun ls hl => ?_)
      refine z_iinc C (lv' := [(4, .int (iI (k + 1))), (2, .long (lI y)), (0, .ref a0), (1, .int (iI (p2 mm))), (5, .long (lI y)), (7, .int (iI t))]) hl 3 dX0_hasRingOfZeros_73 rfl (by decide) rfl (fun ls hl => ?_)
      refine z_goto C (tgt := 16) dX0_hasRingOfZeros_76 (by decide) ?_
      exact ih16 y (k + 1) ⟨(by omega), (by rw [h28_1, show t = p2 mm by omega, h16_1]; exact (rgN_at h16_0.1).symm)⟩ (by omega) H locs _ wd (lv_sub hl [2, 3, 1, 0] rfl)
    · skip
      refine lv_lload_n C.1 C.2.1 dX0_hasRingOfZeros_34 rfl (lv_at hl 2 rfl) ?_
      refine lv_iload C.1 C.2.1 dX0_hasRingOfZeros_35 (lv_at hl 5 rfl) ?_
      refine lv_lshr (v := lI (X / p2 t)) C.1 C.2.1 dX0_hasRingOfZeros_37 (lI_shr hXl.1 hXl.2 (by omega) (by omega)) ?_
      refine lv_lconst (v := lI 1) C.1 C.2.1 dX0_hasRingOfZeros_38 (by decide +kernel) ?_
      refine z_land C (X / p2 t % 2) dX0_hasRingOfZeros_39 (lI_and1 (Int.ediv_nonneg hXl.1 (by have := p2_pos t; omega))) ?_
      refine lv_lconst (v := lI 1) C.1 C.2.1 dX0_hasRingOfZeros_40 (by decide +kernel) ?_
      refine z_lcmp C (X / p2 t % 2 - 1) dX0_hasRingOfZeros_41 (lg_c1 (bit_le _ _)) ?_
      have hbb := bit_le X t
      have hst : st1 mm oo tp X t = if 1 ≤ t ∧ X / p2 t % 2 = 1 ∧ gz mm oo tp X t = 1 then 1 else 0 := rfl
      have hgz := gz_or mm oo tp X t
      refine z_if_ne C (tgt := 64) dX0_hasRingOfZeros_42 (by decide) (by omega) (fun c_4 => ?_) (fun c_4 => ?_)
      · skip
        refine z_iinc C (lv' := [(7, .int (iI (t + 1))), (0, .ref a0), (1, .int (iI (p2 mm))), (2, .long (lI X)), (4, .int (iI k)), (5, .long (lI y))]) hl 5 dX0_hasRingOfZeros_64 rfl (by decide) rfl (fun ls hl => ?_)
        refine z_goto C (tgt := 28) dX0_hasRingOfZeros_67 (by decide) ?_
        exact ih28 y (t + 1) ⟨(by omega), (by have e := csum_at (st1 mm oo tp X) (show 0 ≤ t by omega); first | (rw [if_pos (by omega)] at hst; rw [hst] at e; omega) | (rw [if_neg (by omega)] at hst; rw [hst] at e; omega))⟩ (by omega) H locs _ wd (lv_sub hl [1, 2, 3, 4, 5, 0] rfl)
      · skip
        refine lv_aload_n C.1 C.2.1 dX0_hasRingOfZeros_45 rfl (lv_at hl 0 rfl) ?_
        refine lv_iload C.1 C.2.1 dX0_hasRingOfZeros_46 (lv_at hl 5 rfl) ?_
        refine lv_lload_n C.1 C.2.1 dX0_hasRingOfZeros_48 rfl (lv_at hl 2 rfl) ?_
        refine z_cvi C wd hA (As := [.int (iI t), .long (lI X)]) (rest := []) (ws2 := [zO a0 0 [.int (iI mm), .int (iI oo), .ref a1], zA cy a1 3 tp]) (c_X0_leadsOnByZeros l D cy cs a0 a1 mm oo tp t X (by omega) (by omega) (by omega) (by omega) (by omega)) (cwV 2 C.2.2.2.2 gX0_hasRingOfZeros_X0_leadsOnByZeros rfl rfl rfl (by decide +kernel) ⟨Nat.le_of_ble_eq_true rfl, Nat.le_of_ble_eq_true rfl⟩) [0, 1] rfl rfl rfl ⟨rfl, [], [], 2, rfl, rfl, rfl, by decide +kernel⟩ rfl rfl rfl rfl (Nat.le_of_ble_eq_true rfl) hl.1 dX0_hasRingOfZeros_49 ⟨Nat.zero_le _, Nat.zero_le _⟩ (fun H locs wd => ?_)
        refine z_if_eq C (tgt := 64) dX0_hasRingOfZeros_52 (by decide) (by omega) (fun c_5 => ?_) (fun c_5 => ?_)
        · skip
          refine z_iinc C (lv' := [(7, .int (iI (t + 1))), (0, .ref a0), (1, .int (iI (p2 mm))), (2, .long (lI X)), (4, .int (iI k)), (5, .long (lI y))]) hl 5 dX0_hasRingOfZeros_64 rfl (by decide) rfl (fun ls hl => ?_)
          refine z_goto C (tgt := 28) dX0_hasRingOfZeros_67 (by decide) ?_
          exact ih28 y (t + 1) ⟨(by omega), (by have e := csum_at (st1 mm oo tp X) (show 0 ≤ t by omega); first | (rw [if_pos (by omega)] at hst; rw [hst] at e; omega) | (rw [if_neg (by omega)] at hst; rw [hst] at e; omega))⟩ (by omega) H locs _ wd (lv_sub hl [1, 2, 3, 4, 5, 0] rfl)
        · skip
          refine lv_lload C.1 C.2.1 dX0_hasRingOfZeros_55 (lv_at hl 4 rfl) ?_
          refine lv_lconst (v := lI 1) C.1 C.2.1 dX0_hasRingOfZeros_57 (by decide +kernel) ?_
          refine lv_iload C.1 C.2.1 dX0_hasRingOfZeros_58 (lv_at hl 5 rfl) ?_
          refine lv_lshl (v := lI (p2 t)) C.1 C.2.1 dX0_hasRingOfZeros_60 (lI_1k (by omega) (by omega)) ?_
          refine z_lor C (y + p2 t) dX0_hasRingOfZeros_61 (lI_orb hyc.1 hyc.2 (by omega)) ?_
          refine lv_lstore (lv' := [(5, .long (lI (y + p2 t))), (0, .ref a0), (1, .int (iI (p2 mm))), (2, .long (lI X)), (4, .int (iI k)), (7, .int (iI t))]) C.1 C.2.1 dX0_hasRingOfZeros_62 hl (by decide) rfl (fun ls hl => ?_)
          refine z_iinc C (lv' := [(7, .int (iI (t + 1))), (5, .long (lI (y + p2 t))), (0, .ref a0), (1, .int (iI (p2 mm))), (2, .long (lI X)), (4, .int (iI k))]) hl 5 dX0_hasRingOfZeros_64 rfl (by decide) rfl (fun ls hl => ?_)
          refine z_goto C (tgt := 28) dX0_hasRingOfZeros_67 (by decide) ?_
          exact ih28 (y + p2 t) (t + 1) ⟨(by omega), (by have e := csum_at (st1 mm oo tp X) (show 0 ≤ t by omega); first | (rw [if_pos (by omega)] at hst; rw [hst] at e; omega) | (rw [if_neg (by omega)] at hst; rw [hst] at e; omega))⟩ (by omega) H locs _ wd (lv_sub hl [2, 3, 4, 5, 1, 0] rfl)
