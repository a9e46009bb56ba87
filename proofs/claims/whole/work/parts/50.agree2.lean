set_option maxRecDepth 100000 in
set_option maxHeartbeats 4000000 in
theorem c_X1_commonBits (l : Launch) (D : va_G) (cy cs : ClassId) (r0 r1 r2 r3 r4 a0 a1 : Nat) (S L N E mm oo : Int) (fm fu : Int → Int) (hm : 1 ≤ mm ∧ mm ≤ 5) (hu : ∀ k : Int, 0 ≤ k → k < 80 → 0 ≤ fu k ∧ fu k < 4294967296) (hS : 0 ≤ S ∧ S ≤ 80) (hme : mtOk fm S) (hbs : 0 ≤ bst fm (p2 mm).toNat) : zCi l D (zT cy cs) yX1_commonBits wsX1_commonBits ({ frames := 3, cells := 0, slots := 0, locals := 64 } : Room) [.ref r0, .ref a0] [zO r0 1 [.int (iI S), .int (iI L), .int (iI N), .int (iI E), .ref r1, .ref r2, .ref r3, .ref r4], zA cy r2 32 fm, zA cy r4 80 fu, zO a0 0 [.int (iI mm), .int (iI oo), .ref a1]] (agC mm S fm fu) [zO r0 1 [.int (iI S), .int (iI L), .int (iI N), .int (iI E), .ref r1, .ref r2, .ref r3, .ref r4], zA cy r2 32 fm, zA cy r4 80 fu, zO a0 0 [.int (iI mm), .int (iI oo), .ref a1]] := by
  intro sz
  refine zM_mk (cc := cX1_commonBits) (maxL := 11) (ret := (some .int)) (own := RX1) (Qc := fun sz => va_Qi (fun r (_ : Unit) => r = iI (agC mm S fm fu)) (fun _ t9 => zQ D (zT cy cs) (va_A [zO r0 1 [.int (iI S), .int (iI L), .int (iI N), .int (iI E), .ref r1, .ref r2, .ref r3, .ref r4], zA cy r2 32 fm, zA cy r4 80 fu, zO a0 0 [.int (iI mm), .int (iI oo), .ref a1]] sz) [zO r0 1 [.int (iI S), .int (iI L), .int (iI N), .int (iI E), .ref r1, .ref r2, .ref r3, .ref r4], zA cy r2 32 fm, zA cy r4 80 fu, zO a0 0 [.int (iI mm), .int (iI oo), .ref a1]] t9) (va_A [zO r0 1 [.int (iI S), .int (iI L), .int (iI N), .int (iI E), .ref r1, .ref r2, .ref r3, .ref r4], zA cy r2 32 fm, zA cy r4 80 fu, zO a0 0 [.int (iI mm), .int (iI oo), .ref a1]] sz)) (by decide) rfl rfl (Nat.le_of_ble_eq_true rfl) rfl sz ?_
  intro p e s m args below meth c ls C hr hlk hnm hl hsz hA wd
  subst hsz
  have hl : lv_has ls 11 [(0, .ref r0), (1, .ref a0)] := hl
  have iX1 : ∀ w ∈ u_ws RX1 TX1 8, w ∈ wsX1_commonBits := by decide +kernel
  have L27 := C.2.2.2.2 (.fieldLink RX1 27 "LikelyWalks$Reader" "steps" "I") (by decide +kernel)
  have hp := p2_all hm.1 hm.2
  refine lv_aload_n C.1 C.2.1 dX1_commonBits_0 rfl (lv_at hl 1 rfl) ?_
  refine z_cvi C wd hA (As := []) (rest := []) (ws2 := [zO r0 1 [.int (iI S), .int (iI L), .int (iI N), .int (iI E), .ref r1, .ref r2, .ref r3, .ref r4], zA cy r2 32 fm, zA cy r4 80 fu, zO a0 0 [.int (iI mm), .int (iI oo), .ref a1]]) (c_X0_states l D cy cs a0 a1 mm oo (by omega)) (cwV 0 C.2.2.2.2 gX1_commonBits_X0_states rfl rfl rfl (by decide +kernel) ⟨Nat.le_of_ble_eq_true rfl, Nat.le_of_ble_eq_true rfl⟩) [3] rfl rfl rfl ⟨rfl, [0, 1, 2], [zO r0 1 [.int (iI S), .int (iI L), .int (iI N), .int (iI E), .ref r1, .ref r2, .ref r3, .ref r4], zA cy r2 32 fm, zA cy r4 80 fu], 4, rfl, rfl, rfl, by decide +kernel⟩ rfl rfl rfl rfl (Nat.le_of_ble_eq_true rfl) hl.1 dX1_commonBits_1 ⟨Nat.zero_le _, Nat.zero_le _⟩ (fun H locs wd => ?_)
  refine lv_istore_n (lv' := [(2, .int (iI (p2 mm))), (0, .ref r0), (1, .ref a0)]) C.1 C.2.1 dX1_commonBits_4 rfl hl (by decide) rfl (fun ls hl => ?_)
  refine lv_aload_n C.1 C.2.1 dX1_commonBits_5 rfl (lv_at hl 1 rfl) ?_
  refine z_get C wd (Cn := RX1) (TT := TX1) (N := 8) (ci := 1) iX1 0 rfl rfl 0 (by decide) L27 (fun _ h => h) rfl dX1_commonBits_6 ?_
  refine lv_istore_n (lv' := [(3, .int (iI S)), (2, .int (iI (p2 mm))), (0, .ref r0), (1, .ref a0)]) C.1 C.2.1 dX1_commonBits_9 rfl hl (by decide) rfl (fun ls hl => ?_)
  refine lv_aload_n C.1 C.2.1 dX1_commonBits_10 rfl (lv_at hl 2 rfl) ?_
  refine lv_aload_n C.1 C.2.1 dX1_commonBits_11 rfl (lv_at hl 3 rfl) ?_
  refine z_cvl C wd hA (As := [.ref a0]) (rest := []) (ws2 := [zO r0 1 [.int (iI S), .int (iI L), .int (iI N), .int (iI E), .ref r1, .ref r2, .ref r3, .ref r4], zA cy r2 32 fm, zA cy r4 80 fu, zO a0 0 [.int (iI mm), .int (iI oo), .ref a1]]) (c_X1_reached l D cy cs r0 r1 r2 r3 r4 a0 a1 S L N E mm oo fm (by omega) (by omega) hme) (cwV 1 C.2.2.2.2 gX1_commonBits_X1_reached rfl rfl rfl (by decide +kernel) ⟨Nat.le_of_ble_eq_true rfl, Nat.le_of_ble_eq_true rfl⟩) [0, 1, 3] rfl rfl rfl ⟨rfl, [2], [zA cy r4 80 fu], 4, rfl, rfl, rfl, by decide +kernel⟩ rfl rfl rfl rfl (Nat.le_of_ble_eq_true rfl) hl.1 dX1_commonBits_12 ⟨Nat.zero_le _, Nat.zero_le _⟩ (fun H locs wd => ?_)
  refine z_topL (b := ((csum (rB fm) (p2 mm).toNat).toNat : Int)) (Int.toNat_of_nonneg (csum_le (rB_le fm) (p2 mm).toNat).1).symm ?_
  refine lv_lstore (lv' := [(4, .long (lI ((csum (rB fm) (p2 mm).toNat).toNat : Int))), (3, .int (iI S)), (2, .int (iI (p2 mm))), (0, .ref r0), (1, .ref a0)]) C.1 C.2.1 dX1_commonBits_15 hl (by decide) rfl (fun ls hl => ?_)
  refine lv_aload_n C.1 C.2.1 dX1_commonBits_17 rfl (lv_at hl 3 rfl) ?_
  refine z_get C wd (Cn := RX1) (TT := TX1) (N := 8) (ci := 1) iX1 0 rfl rfl 0 (by decide) L27 (fun _ h => h) rfl dX1_commonBits_18 ?_
  refine z_iconst C dX1_commonBits_21 ?_
  refine z_isub C dX1_commonBits_22 ?_
  refine lv_istore (lv' := [(6, .int (iI (S - 1))), (4, .long (lI ((csum (rB fm) (p2 mm).toNat).toNat : Int))), (3, .int (iI S)), (2, .int (iI (p2 mm))), (0, .ref r0), (1, .ref a0)]) C.1 C.2.1 dX1_commonBits_23 hl (by decide) rfl (fun ls hl => ?_)
  refine z_loop3 (P := fun (cm : Int) (k : Int) (X : Nat) => (-1 ≤ k ∧ k ≤ S - 1) ∧ (X < 4294967296) ∧ (∀ t : Nat, X.testBit t = true ↔ wSt mm S fm fu k (t : Int)) ∧ (k + 1 ≤ cm ∧ cm ≤ S) ∧ (∀ j : Int, k < j → j < cm → ¬ alC mm S fm fu j = 0) ∧ (cm < S → alC mm S fm fu cm = 0)) (mu := fun (cm : Int) (k : Int) (X : Nat) => (k + 1).toNat) (ws := fun (cm : Int) (k : Int) (X : Nat) => [zO r0 1 [.int (iI S), .int (iI L), .int (iI N), .int (iI E), .ref r1, .ref r2, .ref r3, .ref r4], zA cy r2 32 fm, zA cy r4 80 fu, zO a0 0 [.int (iI mm), .int (iI oo), .ref a1]]) (lv := fun (cm : Int) (k : Int) (X : Nat) => [(0, .ref r0), (1, .ref a0), (2, .int (iI (p2 mm))), (3, .int (iI cm)), (4, .long (lI (X : Int))), (6, .int (iI k))]) S (S - 1) ((csum (rB fm) (p2 mm).toNat).toNat) C ⟨(by omega), (cb_lt hm.1 hm.2), (fun t => cb_init hm.1 hm.2 hme t), (by omega), (fun j j0 j1 => by omega), (fun q => by omega)⟩ wd (lv_sub hl [4, 5, 3, 2, 1, 0] rfl) ?_
  intro cm k X hP25 ih25 H locs ls wd hl
  obtain ⟨h25_0, h25_1, h25_2, h25_3, h25_4, h25_5⟩ := hP25
  try dsimp only at h25_0 h25_1 h25_2 h25_3 h25_4 h25_5
  have wd : Wd D (zT cy cs) _ s.heap s [zO r0 1 [.int (iI S), .int (iI L), .int (iI N), .int (iI E), .ref r1, .ref r2, .ref r3, .ref r4], zA cy r2 32 fm, zA cy r4 80 fu, zO a0 0 [.int (iI mm), .int (iI oo), .ref a1]] H locs := wd
  have hl : lv_has ls 11 [(0, .ref r0), (1, .ref a0), (2, .int (iI (p2 mm))), (3, .int (iI cm)), (4, .long (lI (X : Int))), (6, .int (iI k))] := hl
  refine lv_iload C.1 C.2.1 dX1_commonBits_25 (lv_at hl 5 rfl) ?_
  refine z_if_lt C (tgt := 111) dX1_commonBits_27 (by decide) (by omega) (fun c_1 => ?_) (fun c_1 => ?_)
  · skip
    refine lv_iload_n C.1 C.2.1 dX1_commonBits_111 rfl (lv_at hl 3 rfl) ?_
    exact z_iret C hr hlk wd (by unfold agC; exact (agR_at (q := fun j => decide (alC mm S fm fu j = 0)) ⟨by omega, h25_3.2⟩ (fun j j0 j1 => decide_eq_false (h25_4 j (by omega) j1)) (fun q => decide_eq_true (h25_5 q))).symm) dX1_commonBits_112
  · skip
    refine lv_lconst (v := lI 0) C.1 C.2.1 dX1_commonBits_30 (by decide +kernel) ?_
    refine lv_lstore (lv' := [(7, .long (lI 0)), (0, .ref r0), (1, .ref a0), (2, .int (iI (p2 mm))), (3, .int (iI cm)), (4, .long (lI (X : Int))), (6, .int (iI k))]) C.1 C.2.1 dX1_commonBits_31 hl (by decide) rfl (fun ls hl => ?_)
    refine z_iconst C dX1_commonBits_33 ?_
    refine lv_istore (lv' := [(9, .int (iI 0)), (7, .long (lI 0)), (0, .ref r0), (1, .ref a0), (2, .int (iI (p2 mm))), (3, .int (iI cm)), (4, .long (lI (X : Int))), (6, .int (iI k))]) C.1 C.2.1 dX1_commonBits_34 hl (by decide) rfl (fun ls hl => ?_)
    refine z_iconst C dX1_commonBits_36 ?_
    refine lv_istore (lv' := [(10, .int (iI 0)), (9, .int (iI 0)), (7, .long (lI 0)), (0, .ref r0), (1, .ref a0), (2, .int (iI (p2 mm))), (3, .int (iI cm)), (4, .long (lI (X : Int))), (6, .int (iI k))]) C.1 C.2.1 dX1_commonBits_37 hl (by decide) rfl (fun ls hl => ?_)
    refine z_loop3 (P := fun (Y : Nat) (v : Int) (t : Int) => (0 ≤ t ∧ t ≤ p2 mm) ∧ (Y < 4294967296) ∧ (∀ x : Nat, Y.testBit x = true ↔ ∃ u : Int, 0 ≤ u ∧ u < t ∧ X.testBit u.toNat = true ∧ pv mm (fu k) u = (x : Int)) ∧ (0 ≤ v ∧ v ≤ 3) ∧ (v % 2 = 1 ↔ ∃ u : Int, 0 ≤ u ∧ u < t ∧ X.testBit u.toNat = true ∧ u / p2 (mm - 1) = 0) ∧ (v / 2 = 1 ↔ ∃ u : Int, 0 ≤ u ∧ u < t ∧ X.testBit u.toNat = true ∧ u / p2 (mm - 1) = 1)) (mu := fun (Y : Nat) (v : Int) (t : Int) => (p2 mm - t).toNat) (ws := fun (Y : Nat) (v : Int) (t : Int) => [zO r0 1 [.int (iI S), .int (iI L), .int (iI N), .int (iI E), .ref r1, .ref r2, .ref r3, .ref r4], zA cy r2 32 fm, zA cy r4 80 fu, zO a0 0 [.int (iI mm), .int (iI oo), .ref a1]]) (lv := fun (Y : Nat) (v : Int) (t : Int) => [(0, .ref r0), (1, .ref a0), (2, .int (iI (p2 mm))), (3, .int (iI cm)), (4, .long (lI (X : Int))), (6, .int (iI k)), (7, .long (lI (Y : Int))), (9, .int (iI v)), (10, .int (iI t))]) 0 0 0 C ⟨(by omega), (by omega), (fun x => ⟨fun q => by simp at q, fun ⟨u, u0, u1, _⟩ => by omega⟩), (by omega), ⟨fun q => by omega, fun ⟨u, u0, u1, _⟩ => by omega⟩, ⟨fun q => by omega, fun ⟨u, u0, u1, _⟩ => by omega⟩⟩ wd (lv_sub hl [3, 4, 5, 6, 7, 8, 2, 1, 0] rfl) ?_
    intro Y v t hP39 ih39 H locs ls wd hl
    obtain ⟨h39_0, h39_1, h39_2, h39_3, h39_4, h39_5⟩ := hP39
    try dsimp only at h39_0 h39_1 h39_2 h39_3 h39_4 h39_5
    have wd : Wd D (zT cy cs) _ s.heap s [zO r0 1 [.int (iI S), .int (iI L), .int (iI N), .int (iI E), .ref r1, .ref r2, .ref r3, .ref r4], zA cy r2 32 fm, zA cy r4 80 fu, zO a0 0 [.int (iI mm), .int (iI oo), .ref a1]] H locs := wd
    have hl : lv_has ls 11 [(0, .ref r0), (1, .ref a0), (2, .int (iI (p2 mm))), (3, .int (iI cm)), (4, .long (lI (X : Int))), (6, .int (iI k)), (7, .long (lI (Y : Int))), (9, .int (iI v)), (10, .int (iI t))] := hl
    refine lv_iload C.1 C.2.1 dX1_commonBits_39 (lv_at hl 8 rfl) ?_
    refine lv_iload_n C.1 C.2.1 dX1_commonBits_41 rfl (lv_at hl 2 rfl) ?_
    refine z_icmp_ge C (tgt := 92) dX1_commonBits_42 (by decide) (by omega) (fun c_2 => ?_) (fun c_2 => ?_)
    · skip
      have ht9 : t = p2 mm := by omega
      have hs0 := cb_set (Q := fun u => u / p2 (mm - 1) = 0) h25_2 (fun q hq => wSt_le hm.1 hm.2 hq)
      have hs1 := cb_set (Q := fun u => u / p2 (mm - 1) = 1) h25_2 (fun q hq => wSt_le hm.1 hm.2 hq)
      have hv3 : v = 3 ↔ alC mm S fm fu k = 0 := by rw [alC_iff hm.1 hm.2 hbs, ← hs0, ← hs1, ← ht9, ← h39_4, ← h39_5]; omega
      refine lv_iload C.1 C.2.1 dX1_commonBits_92 (lv_at hl 7 rfl) ?_
      refine z_iconst C dX1_commonBits_94 ?_
      refine z_icmp_ne C (tgt := 101) dX1_commonBits_95 (by decide) (by omega) (fun c_3 => ?_) (fun c_3 => ?_)
      · skip
        have c_nv := c_3
        refine lv_lload C.1 C.2.1 dX1_commonBits_101 (lv_at hl 6 rfl) ?_
        refine lv_lstore (lv' := [(4, .long (lI (Y : Int))), (0, .ref r0), (1, .ref a0), (2, .int (iI (p2 mm))), (3, .int (iI cm)), (6, .int (iI k)), (7, .long (lI (Y : Int))), (9, .int (iI v)), (10, .int (iI t))]) C.1 C.2.1 dX1_commonBits_103 hl (by decide) rfl (fun ls hl => ?_)
        refine z_iinc C (lv' := [(6, .int (iI (k + (-1)))), (4, .long (lI (Y : Int))), (0, .ref r0), (1, .ref a0), (2, .int (iI (p2 mm))), (3, .int (iI cm)), (7, .long (lI (Y : Int))), (9, .int (iI v)), (10, .int (iI t))]) hl 5 dX1_commonBits_105 rfl (by decide) rfl (fun ls hl => ?_)
        refine z_goto C (tgt := 25) dX1_commonBits_108 (by decide) ?_
        exact ih25 cm (k + (-1)) Y ⟨(by omega), h39_1, (fun x => by rw [show k + (-1) = k - 1 by omega, wSt_prev (by omega)]; exact ((h39_2 x).trans (by rw [ht9]; exact cb_set h25_2 (fun q hq => wSt_le hm.1 hm.2 hq)))), (by omega), (fun j j0 j1 => by first | omega | (rcases (show j = k ∨ k < j by omega) with e | e; rw [e]; exact fun q => c_nv (hv3.mpr q); exact h25_4 j e j1)), (fun q => by first | exact hv3.mp (by omega) | exact h25_5 q)⟩ (by omega) H locs _ wd (lv_sub hl [2, 3, 4, 5, 1, 0] rfl)
      · skip
        refine lv_iload C.1 C.2.1 dX1_commonBits_98 (lv_at hl 5 rfl) ?_
        refine lv_istore_n (lv' := [(3, .int (iI k)), (0, .ref r0), (1, .ref a0), (2, .int (iI (p2 mm))), (4, .long (lI (X : Int))), (6, .int (iI k)), (7, .long (lI (Y : Int))), (9, .int (iI v)), (10, .int (iI t))]) C.1 C.2.1 dX1_commonBits_100 rfl hl (by decide) rfl (fun ls hl => ?_)
        refine lv_lload C.1 C.2.1 dX1_commonBits_101 (lv_at hl 6 rfl) ?_
        refine lv_lstore (lv' := [(4, .long (lI (Y : Int))), (3, .int (iI k)), (0, .ref r0), (1, .ref a0), (2, .int (iI (p2 mm))), (6, .int (iI k)), (7, .long (lI (Y : Int))), (9, .int (iI v)), (10, .int (iI t))]) C.1 C.2.1 dX1_commonBits_103 hl (by decide) rfl (fun ls hl => ?_)
        refine z_iinc C (lv' := [(6, .int (iI (k + (-1)))), (4, .long (lI (Y : Int))), (3, .int (iI k)), (0, .ref r0), (1, .ref a0), (2, .int (iI (p2 mm))), (7, .long (lI (Y : Int))), (9, .int (iI v)), (10, .int (iI t))]) hl 5 dX1_commonBits_105 rfl (by decide) rfl (fun ls hl => ?_)
        refine z_goto C (tgt := 25) dX1_commonBits_108 (by decide) ?_
        exact ih25 k (k + (-1)) Y ⟨(by omega), h39_1, (fun x => by rw [show k + (-1) = k - 1 by omega, wSt_prev (by omega)]; exact ((h39_2 x).trans (by rw [ht9]; exact cb_set h25_2 (fun q hq => wSt_le hm.1 hm.2 hq)))), (by omega), (fun j j0 j1 => by first | omega | (rcases (show j = k ∨ k < j by omega) with e | e; rw [e]; exact fun q => c_nv (hv3.mpr q); exact h25_4 j e j1)), (fun q => by first | exact hv3.mp (by omega) | exact h25_5 q)⟩ (by omega) H locs _ wd (lv_sub hl [3, 4, 5, 2, 1, 0] rfl)
    · skip
      refine lv_lload C.1 C.2.1 dX1_commonBits_45 (lv_at hl 4 rfl) ?_
      refine lv_iload C.1 C.2.1 dX1_commonBits_47 (lv_at hl 8 rfl) ?_
      refine lv_lshr (v := lI ((X : Int) / p2 t)) C.1 C.2.1 dX1_commonBits_49 (lI_shr (by omega) (by omega) h39_0.1 (by omega)) ?_
      refine lv_lconst (v := lI 1) C.1 C.2.1 dX1_commonBits_50 (by decide +kernel) ?_
      refine z_land C ((X : Int) / p2 t % 2) dX1_commonBits_51 (lI_and1 (Int.ediv_nonneg (by omega) (by have := p2_pos t; omega))) ?_
      refine lv_lconst (v := lI 1) C.1 C.2.1 dX1_commonBits_52 (by decide +kernel) ?_
      refine z_lcmp C ((X : Int) / p2 t % 2 - 1) dX1_commonBits_53 (lg_c1 (bit_le _ _)) ?_
      have hbb := bit_le (X : Int) t
      refine z_if_ne C (tgt := 86) dX1_commonBits_54 (by decide) (by omega) (fun c_4 => ?_) (fun c_4 => ?_)
      · skip
        have hXt : ¬ X.testBit t.toNat = true := fun q => by have := (tbI X h39_0.1).mp q; omega
        refine z_iinc C (lv' := [(10, .int (iI (t + 1))), (0, .ref r0), (1, .ref a0), (2, .int (iI (p2 mm))), (3, .int (iI cm)), (4, .long (lI (X : Int))), (6, .int (iI k)), (7, .long (lI (Y : Int))), (9, .int (iI v))]) hl 8 dX1_commonBits_86 rfl (by decide) rfl (fun ls hl => ?_)
        refine z_goto C (tgt := 39) dX1_commonBits_89 (by decide) ?_
        exact ih39 Y v (t + 1) ⟨(by omega), (by first | exact h39_1 | exact or_lt Y _ h39_1 (by omega)), (fun x => by first | exact (h39_2 x).trans (ex_skip hXt).symm | exact (or_tb Y _ x).trans ((or_congr (h39_2 x) (by omega)).trans (ex_add h39_0.1 hXt).symm)), (by first | exact h39_3 | exact vo_le h39_3 hbi), (by first | exact h39_4.trans (ex_skip hXt).symm | exact (vo_0 h39_3 hbi).trans ((or_congr_left h39_4).trans (ex_add h39_0.1 hXt).symm)), (by first | exact h39_5.trans (ex_skip hXt).symm | exact (vo_1 h39_3 hbi).trans ((or_congr_left h39_5).trans (ex_add h39_0.1 hXt).symm))⟩ (by omega) H locs _ wd (lv_sub hl [1, 2, 3, 4, 5, 6, 7, 8, 0] rfl)
      · skip
        have hXt : X.testBit t.toNat = true := (tbI X h39_0.1).mpr (by omega)
        have hbi := bi_le (t := t) hm.1 hm.2 h39_0.1 (by omega)
        have hpv := pv_le (x := fu k) (st := t) hm.1 hm.2
        refine lv_iload C.1 C.2.1 dX1_commonBits_57 (lv_at hl 7 rfl) ?_
        refine z_iconst C dX1_commonBits_59 ?_
        refine lv_aload_n C.1 C.2.1 dX1_commonBits_60 rfl (lv_at hl 1 rfl) ?_
        refine lv_iload C.1 C.2.1 dX1_commonBits_61 (lv_at hl 8 rfl) ?_
        refine z_cvi C wd hA (As := [.int (iI t)]) (rest := [.int (iI 1), .int (iI v)]) (ws2 := [zO r0 1 [.int (iI S), .int (iI L), .int (iI N), .int (iI E), .ref r1, .ref r2, .ref r3, .ref r4], zA cy r2 32 fm, zA cy r4 80 fu, zO a0 0 [.int (iI mm), .int (iI oo), .ref a1]]) (c_X0_bitInto l D cy cs a0 a1 mm oo t (by omega) (by omega)) (cwV 1 C.2.2.2.2 gX1_commonBits_X0_bitInto rfl rfl rfl (by decide +kernel) ⟨Nat.le_of_ble_eq_true rfl, Nat.le_of_ble_eq_true rfl⟩) [3] rfl rfl rfl ⟨rfl, [0, 1, 2], [zO r0 1 [.int (iI S), .int (iI L), .int (iI N), .int (iI E), .ref r1, .ref r2, .ref r3, .ref r4], zA cy r2 32 fm, zA cy r4 80 fu], 4, rfl, rfl, rfl, by decide +kernel⟩ rfl rfl rfl rfl (Nat.le_of_ble_eq_true rfl) hl.1 dX1_commonBits_63 ⟨Nat.zero_le _, Nat.zero_le _⟩ (fun H locs wd => ?_)
        refine z_ishl C (p2 (t / p2 (mm - 1))) dX1_commonBits_66 (iI_1k hbi.1 (by omega)) ?_
        refine z_ior C (vo v (t / p2 (mm - 1))) dX1_commonBits_67 (iI_vo h39_3 hbi) ?_
        refine lv_istore (lv' := [(9, .int (iI (vo v (t / p2 (mm - 1))))), (0, .ref r0), (1, .ref a0), (2, .int (iI (p2 mm))), (3, .int (iI cm)), (4, .long (lI (X : Int))), (6, .int (iI k)), (7, .long (lI (Y : Int))), (10, .int (iI t))]) C.1 C.2.1 dX1_commonBits_68 hl (by decide) rfl (fun ls hl => ?_)
        refine lv_lload C.1 C.2.1 dX1_commonBits_70 (lv_at hl 7 rfl) ?_
        refine lv_lconst (v := lI 1) C.1 C.2.1 dX1_commonBits_72 (by decide +kernel) ?_
        refine lv_aload_n C.1 C.2.1 dX1_commonBits_73 rfl (lv_at hl 1 rfl) ?_
        refine lv_aload_n C.1 C.2.1 dX1_commonBits_74 rfl (lv_at hl 2 rfl) ?_
        refine lv_iload C.1 C.2.1 dX1_commonBits_75 (lv_at hl 8 rfl) ?_
        refine lv_iload C.1 C.2.1 dX1_commonBits_77 (lv_at hl 6 rfl) ?_
        refine z_cvi C wd hA (As := [.ref a0, .int (iI t), .int (iI k)]) (rest := [.long (lI 1), .long (lI (Y : Int))]) (ws2 := [zO r0 1 [.int (iI S), .int (iI L), .int (iI N), .int (iI E), .ref r1, .ref r2, .ref r3, .ref r4], zA cy r2 32 fm, zA cy r4 80 fu, zO a0 0 [.int (iI mm), .int (iI oo), .ref a1]]) (c_X1_stateBefore l D cy cs r0 r1 r2 r3 r4 a0 a1 S L N E mm oo fu t k (by omega) (by omega) (by omega) hu) (cwV 3 C.2.2.2.2 gX1_commonBits_X1_stateBefore rfl rfl rfl (by decide +kernel) ⟨Nat.le_of_ble_eq_true rfl, Nat.le_of_ble_eq_true rfl⟩) [0, 2, 3] rfl rfl rfl ⟨rfl, [1], [zA cy r2 32 fm], 4, rfl, rfl, rfl, by decide +kernel⟩ rfl rfl rfl rfl (Nat.le_of_ble_eq_true rfl) hl.1 dX1_commonBits_79 ⟨Nat.zero_le _, Nat.zero_le _⟩ (fun H locs wd => ?_)
        refine lv_lshl (v := lI (p2 (pv mm (fu k) t))) C.1 C.2.1 dX1_commonBits_82 (lI_1k hpv.1 (by omega)) ?_
        refine z_lor C ((Y ||| 2 ^ (pv mm (fu k) t).toNat : Nat) : Int) dX1_commonBits_83 (lI_orN Y) ?_
        refine lv_lstore (lv' := [(7, .long (lI ((Y ||| 2 ^ (pv mm (fu k) t).toNat : Nat) : Int))), (9, .int (iI (vo v (t / p2 (mm - 1))))), (0, .ref r0), (1, .ref a0), (2, .int (iI (p2 mm))), (3, .int (iI cm)), (4, .long (lI (X : Int))), (6, .int (iI k)), (10, .int (iI t))]) C.1 C.2.1 dX1_commonBits_84 hl (by decide) rfl (fun ls hl => ?_)
        refine z_iinc C (lv' := [(10, .int (iI (t + 1))), (7, .long (lI ((Y ||| 2 ^ (pv mm (fu k) t).toNat : Nat) : Int))), (9, .int (iI (vo v (t / p2 (mm - 1))))), (0, .ref r0), (1, .ref a0), (2, .int (iI (p2 mm))), (3, .int (iI cm)), (4, .long (lI (X : Int))), (6, .int (iI k))]) hl 8 dX1_commonBits_86 rfl (by decide) rfl (fun ls hl => ?_)
        refine z_goto C (tgt := 39) dX1_commonBits_89 (by decide) ?_
        exact ih39 (Y ||| 2 ^ (pv mm (fu k) t).toNat : Nat) (vo v (t / p2 (mm - 1))) (t + 1) ⟨(by omega), (by first | exact h39_1 | exact or_lt Y _ h39_1 (by omega)), (fun x => by first | exact (h39_2 x).trans (ex_skip hXt).symm | exact (or_tb Y _ x).trans ((or_congr (h39_2 x) (by omega)).trans (ex_add h39_0.1 hXt).symm)), (by first | exact h39_3 | exact vo_le h39_3 hbi), (by first | exact h39_4.trans (ex_skip hXt).symm | exact (vo_0 h39_3 hbi).trans ((or_congr_left h39_4).trans (ex_add h39_0.1 hXt).symm)), (by first | exact h39_5.trans (ex_skip hXt).symm | exact (vo_1 h39_3 hbi).trans ((or_congr_left h39_5).trans (ex_add h39_0.1 hXt).symm))⟩ (by omega) H locs _ wd (lv_sub hl [3, 4, 5, 6, 7, 8, 1, 2, 0] rfl)
