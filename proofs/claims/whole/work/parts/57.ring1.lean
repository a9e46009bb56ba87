set_option maxRecDepth 100000 in
set_option maxHeartbeats 4000000 in
theorem c_X0_leadsOnByZeros (l : Launch) (D : va_G) (cy cs : ClassId) (a0 a1 : Nat) (mm oo : Int) (tp : Int → Int) (st X : Int) (hm : 1 ≤ mm ∧ mm ≤ 5) (ho : 2 ≤ oo ∧ oo ≤ 3) (ht : tpOk tp) (hs : 0 ≤ st ∧ st < p2 mm) (hX : 0 ≤ X ∧ X < 4294967296) : zCi l D (zT cy cs) yX0_leadsOnByZeros wsX0_leadsOnByZeros ({ frames := 3, cells := 0, slots := 0, locals := 67 } : Room) [.ref a0, .int (iI st), .long (lI X)] [zO a0 0 [.int (iI mm), .int (iI oo), .ref a1], zA cy a1 3 tp] (gz mm oo tp X st) [zO a0 0 [.int (iI mm), .int (iI oo), .ref a1], zA cy a1 3 tp] := by
  intro sz
  refine zM_mk (cc := cX0_leadsOnByZeros) (maxL := 5) (ret := (some .boolean)) (own := RX0) (Qc := fun sz => va_Qi (fun r (_ : Unit) => r = iI (gz mm oo tp X st)) (fun _ t9 => zQ D (zT cy cs) (va_A [zO a0 0 [.int (iI mm), .int (iI oo), .ref a1], zA cy a1 3 tp] sz) [zO a0 0 [.int (iI mm), .int (iI oo), .ref a1], zA cy a1 3 tp] t9) (va_A [zO a0 0 [.int (iI mm), .int (iI oo), .ref a1], zA cy a1 3 tp] sz)) (by decide) rfl rfl (Nat.le_of_ble_eq_true rfl) rfl sz ?_
  intro p e s m args below meth c ls C hr hlk hnm hl hsz hA wd
  subst hsz
  have hl : lv_has ls 5 [(0, .ref a0), (1, .int (iI st)), (2, .long (lI X))] := hl
  have hp := p2_all hm.1 hm.2
  have hgz := gz_or mm oo tp X st
  refine z_iconst C dX0_leadsOnByZeros_0 ?_
  refine lv_istore (lv' := [(4, .int (iI 0)), (0, .ref a0), (1, .int (iI st)), (2, .long (lI X))]) C.1 C.2.1 dX0_leadsOnByZeros_1 hl (by decide) rfl (fun ls hl => ?_)
  refine z_loop1 (P := fun (k : Int) => (0 ≤ k ∧ k ≤ 2) ∧ (1 ≤ k → ¬ (zw mm oo tp st 0 = 0 ∧ X / p2 (nx mm st 0) % 2 = 1)) ∧ (2 ≤ k → ¬ (zw mm oo tp st 1 = 0 ∧ X / p2 (nx mm st 1) % 2 = 1))) (mu := fun (k : Int) => (2 - k).toNat) (ws := fun (k : Int) => [zO a0 0 [.int (iI mm), .int (iI oo), .ref a1], zA cy a1 3 tp]) (lv := fun (k : Int) => [(0, .ref a0), (1, .int (iI st)), (2, .long (lI X)), (4, .int (iI k))]) 0 C ⟨(by omega), (by omega), (by omega)⟩ wd (lv_sub hl [1, 2, 3, 0] rfl) ?_
  intro k hP3 ih3 H locs ls wd hl
  obtain ⟨h3_0, h3_1, h3_2⟩ := hP3
  try dsimp only at h3_0 h3_1 h3_2
  have wd : Wd D (zT cy cs) _ s.heap s [zO a0 0 [.int (iI mm), .int (iI oo), .ref a1], zA cy a1 3 tp] H locs := wd
  have hl : lv_has ls 5 [(0, .ref a0), (1, .int (iI st)), (2, .long (lI X)), (4, .int (iI k))] := hl
  refine lv_iload C.1 C.2.1 dX0_leadsOnByZeros_3 (lv_at hl 3 rfl) ?_
  refine z_iconst C dX0_leadsOnByZeros_5 ?_
  refine z_icmp_ge C (tgt := 43) dX0_leadsOnByZeros_6 (by decide) (by omega) (fun c_1 => ?_) (fun c_1 => ?_)
  · skip
    refine z_iconst C dX0_leadsOnByZeros_43 ?_
    exact z_zret C hr hlk (by omega) wd (by omega) dX0_leadsOnByZeros_44
  · skip
    refine lv_aload_n C.1 C.2.1 dX0_leadsOnByZeros_9 rfl (lv_at hl 0 rfl) ?_
    refine lv_iload_n C.1 C.2.1 dX0_leadsOnByZeros_10 rfl (lv_at hl 1 rfl) ?_
    refine lv_iload C.1 C.2.1 dX0_leadsOnByZeros_11 (lv_at hl 3 rfl) ?_
    refine z_cvi C wd hA (As := [.int (iI st), .int (iI k)]) (rest := []) (ws2 := [zO a0 0 [.int (iI mm), .int (iI oo), .ref a1], zA cy a1 3 tp]) (c_X0_symbolsOf l D cy cs a0 a1 mm oo tp st k (by omega) (by omega) (by omega) (by omega) (by omega)) (cwV 2 C.2.2.2.2 gX0_leadsOnByZeros_X0_symbolsOf rfl rfl rfl (by decide +kernel) ⟨Nat.le_of_ble_eq_true rfl, Nat.le_of_ble_eq_true rfl⟩) [0, 1] rfl rfl rfl ⟨rfl, [], [], 2, rfl, rfl, rfl, by decide +kernel⟩ rfl rfl rfl rfl (Nat.le_of_ble_eq_true rfl) hl.1 dX0_leadsOnByZeros_13 ⟨Nat.zero_le _, Nat.zero_le _⟩ (fun H locs wd => ?_)
    have hnb := nb_sm0 (f := (fun z9 => sy (tp z9) (wn mm st k))) (fun _ => sy_le _ _) oo.toNat
    have ezk : sm (fun z9 => sy (tp z9) (wn mm st k)) oo.toNat = zw mm oo tp st k := rfl
    rw [ezk] at hnb
    have hnbl := nb_le (f := (fun z9 => sy (tp z9) (wn mm st k))) (n := oo.toNat) (fun _ _ _ => sy_le _ _) (by omega)
    have hnx := nx_le (x := st) (b := k) hm.1 hm.2 hs.1 hs.2 h3_0.1 (by omega)
    have enx : nx mm st k = wn mm st k / 2 := rfl
    rw [enx] at hnx
    have hbb := bit_le X (wn mm st k / 2)
    have hk0 : k = 0 → zw mm oo tp st k = zw mm oo tp st 0 ∧ X / p2 (wn mm st k / 2) % 2 = X / p2 (nx mm st 0) % 2 := fun q => by rw [q]; exact ⟨rfl, rfl⟩
    have hk1 : k = 1 → zw mm oo tp st k = zw mm oo tp st 1 ∧ X / p2 (wn mm st k / 2) % 2 = X / p2 (nx mm st 1) % 2 := fun q => by rw [q]; exact ⟨rfl, rfl⟩
    refine z_if_ne C (tgt := 37) dX0_leadsOnByZeros_16 (by decide) (by omega) (fun c_2 => ?_) (fun c_2 => ?_)
    · skip
      refine z_iinc C (lv' := [(4, .int (iI (k + 1))), (0, .ref a0), (1, .int (iI st)), (2, .long (lI X))]) hl 3 dX0_leadsOnByZeros_37 rfl (by decide) rfl (fun ls hl => ?_)
      refine z_goto C (tgt := 3) dX0_leadsOnByZeros_40 (by decide) ?_
      exact ih3 (k + 1) ⟨(by omega), (by omega), (by omega)⟩ (by omega) H locs _ wd (lv_sub hl [1, 2, 3, 0] rfl)
    · skip
      refine lv_lload_n C.1 C.2.1 dX0_leadsOnByZeros_19 rfl (lv_at hl 2 rfl) ?_
      refine lv_aload_n C.1 C.2.1 dX0_leadsOnByZeros_20 rfl (lv_at hl 0 rfl) ?_
      refine lv_iload_n C.1 C.2.1 dX0_leadsOnByZeros_21 rfl (lv_at hl 1 rfl) ?_
      refine lv_iload C.1 C.2.1 dX0_leadsOnByZeros_22 (lv_at hl 3 rfl) ?_
      refine z_cvi C wd hA (As := [.int (iI st), .int (iI k)]) (rest := [.long (lI X)]) (ws2 := [zO a0 0 [.int (iI mm), .int (iI oo), .ref a1], zA cy a1 3 tp]) (c_X0_stateAfter l D cy cs a0 a1 mm oo st k (by omega) (by omega) (by omega)) (cwV 2 C.2.2.2.2 gX0_leadsOnByZeros_X0_stateAfter rfl rfl rfl (by decide +kernel) ⟨Nat.le_of_ble_eq_true rfl, Nat.le_of_ble_eq_true rfl⟩) [0] rfl rfl rfl ⟨rfl, [1], [zA cy a1 3 tp], 2, rfl, rfl, rfl, by decide +kernel⟩ rfl rfl rfl rfl (Nat.le_of_ble_eq_true rfl) hl.1 dX0_leadsOnByZeros_24 ⟨Nat.zero_le _, Nat.zero_le _⟩ (fun H locs wd => ?_)
      refine lv_lshr (v := lI (X / p2 (wn mm st k / 2))) C.1 C.2.1 dX0_leadsOnByZeros_27 (lI_shr hX.1 hX.2 hnx.1 (by omega)) ?_
      refine lv_lconst (v := lI 1) C.1 C.2.1 dX0_leadsOnByZeros_28 (by decide +kernel) ?_
      refine z_land C (X / p2 (wn mm st k / 2) % 2) dX0_leadsOnByZeros_29 (lI_and1 (Int.ediv_nonneg hX.1 (by have := p2_pos (wn mm st k / 2); omega))) ?_
      refine lv_lconst (v := lI 1) C.1 C.2.1 dX0_leadsOnByZeros_30 (by decide +kernel) ?_
      refine z_lcmp C (X / p2 (wn mm st k / 2) % 2 - 1) dX0_leadsOnByZeros_31 (lg_c1 (bit_le _ _)) ?_
      refine z_if_ne C (tgt := 37) dX0_leadsOnByZeros_32 (by decide) (by omega) (fun c_3 => ?_) (fun c_3 => ?_)
      · skip
        refine z_iinc C (lv' := [(4, .int (iI (k + 1))), (0, .ref a0), (1, .int (iI st)), (2, .long (lI X))]) hl 3 dX0_leadsOnByZeros_37 rfl (by decide) rfl (fun ls hl => ?_)
        refine z_goto C (tgt := 3) dX0_leadsOnByZeros_40 (by decide) ?_
        exact ih3 (k + 1) ⟨(by omega), (by omega), (by omega)⟩ (by omega) H locs _ wd (lv_sub hl [1, 2, 3, 0] rfl)
      · skip
        refine z_iconst C dX0_leadsOnByZeros_35 ?_
        exact z_zret C hr hlk (by omega) wd (by omega) dX0_leadsOnByZeros_36
