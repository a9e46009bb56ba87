set_option maxRecDepth 100000 in
set_option maxHeartbeats 4000000 in
theorem c_X6_isState (l : Launch) (D : va_G) (cy cs : ClassId) (m0 m1 m2 m3 m4 m5 m6 m7 m8 : Nat) (st iss ty : Int) (M : Int → Int) (s0 : Int) (hm : 1 ≤ M 0 ∧ M 0 ≤ 5) (hs0 : -2147483648 ≤ s0 ∧ s0 < 2147483648) : zCi l D (zT cy cs) yX6_isState wsX6_isState ({ frames := 1, cells := 0, slots := 0, locals := 22 } : Room) [.ref m0, .int (iI s0)] [zO m0 6 [.ref m1, .ref m2, .int (iI st), .ref m3, .int (iI iss), .ref m4, .int (iI ty), .ref m5, .ref m6, .ref m7, .ref m8], zA cy m1 780 M] (bI (0 ≤ s0 ∧ s0 < p2 (M 0))) [zO m0 6 [.ref m1, .ref m2, .int (iI st), .ref m3, .int (iI iss), .ref m4, .int (iI ty), .ref m5, .ref m6, .ref m7, .ref m8], zA cy m1 780 M] := by
  intro sz
  refine zM_mk (cc := cX6_isState) (maxL := 2) (ret := (some .boolean)) (own := RX6) (Qc := fun sz => va_Qi (fun r (_ : Unit) => r = iI (bI (0 ≤ s0 ∧ s0 < p2 (M 0)))) (fun _ t => zQ D (zT cy cs) (va_A [zO m0 6 [.ref m1, .ref m2, .int (iI st), .ref m3, .int (iI iss), .ref m4, .int (iI ty), .ref m5, .ref m6, .ref m7, .ref m8], zA cy m1 780 M] sz) [zO m0 6 [.ref m1, .ref m2, .int (iI st), .ref m3, .int (iI iss), .ref m4, .int (iI ty), .ref m5, .ref m6, .ref m7, .ref m8], zA cy m1 780 M] t) (va_A [zO m0 6 [.ref m1, .ref m2, .int (iI st), .ref m3, .int (iI iss), .ref m4, .int (iI ty), .ref m5, .ref m6, .ref m7, .ref m8], zA cy m1 780 M] sz)) (by decide) rfl rfl (Nat.le_of_ble_eq_true rfl) rfl sz ?_
  intro p e s m args below meth c ls C hr hlk hnm hl hsz hA wd
  subst hsz
  have hl : lv_has ls 2 [(0, .ref m0), (1, .int (iI s0))] := hl
  have hp := p2_all hm.1 hm.2
  refine lv_iload_n C.1 C.2.1 dX6_isState_0 rfl (lv_at hl 1 rfl) ?_
  refine z_iconst C dX6_isState_1 ?_
  refine lv_aload_n C.1 C.2.1 dX6_isState_2 rfl (lv_at hl 0 rfl) ?_
  refine z_cvi C wd hA (As := []) (rest := [.int (iI 0), .int (iI s0)]) (ws2 := [zO m0 6 [.ref m1, .ref m2, .int (iI st), .ref m3, .int (iI iss), .ref m4, .int (iI ty), .ref m5, .ref m6, .ref m7, .ref m8], zA cy m1 780 M]) (c_X6_registers l D cy cs m0 m1 m2 m3 m4 m5 m6 m7 m8 st iss ty M (by omega)) (cwV 0 C.2.2.2.2 gX6_isState_X6_registers rfl rfl rfl (by decide +kernel) ⟨Nat.le_of_ble_eq_true rfl, Nat.le_of_ble_eq_true rfl⟩) [0, 1] rfl rfl rfl ⟨rfl, [], [], 2, rfl, rfl, rfl, by decide +kernel⟩ rfl rfl rfl rfl (Nat.le_of_ble_eq_true rfl) hl.1 dX6_isState_3 ⟨Nat.zero_le _, Nat.zero_le _⟩ (fun H locs wd => ?_)
  refine z_iconst C dX6_isState_6 ?_
  refine z_isub C dX6_isState_7 ?_
  refine z_csi C wd hA (As := [.int (iI s0), .int (iI 0), .int (iI ((p2 (M 0)) - 1))]) (rest := []) (ws2 := [zO m0 6 [.ref m1, .ref m2, .int (iI st), .ref m3, .int (iI iss), .ref m4, .int (iI ty), .ref m5, .ref m6, .ref m7, .ref m8], zA cy m1 780 M]) (c_X6_in l D cy cs s0 0 ((p2 (M 0)) - 1) (by omega) (by omega) (by omega)) (cwS 3 C.2.2.2.2 gX6_isState_X6_in rfl rfl rfl (by decide +kernel) ⟨Nat.le_of_ble_eq_true rfl, Nat.le_of_ble_eq_true rfl⟩) [] rfl rfl rfl ⟨rfl, [0, 1], [zO m0 6 [.ref m1, .ref m2, .int (iI st), .ref m3, .int (iI iss), .ref m4, .int (iI ty), .ref m5, .ref m6, .ref m7, .ref m8], zA cy m1 780 M], 2, rfl, rfl, rfl, by decide +kernel⟩ rfl rfl (Nat.le_of_ble_eq_true rfl) hl.1 dX6_isState_8 ⟨Nat.zero_le _, Nat.zero_le _⟩ (fun H locs wd => ?_)
  exact z_zret C hr hlk (bI_01 _) wd (bI_iff (by omega)) dX6_isState_11
set_option maxRecDepth 100000 in
set_option maxHeartbeats 4000000 in
theorem c_X6_step (l : Launch) (D : va_G) (cy cs : ClassId) (m0 m1 m2 m3 m4 m5 m6 m7 m8 : Nat) (st iss ty : Int) (M : Int → Int) (s0 b x : Int) (hm : 1 ≤ M 0 ∧ M 0 ≤ 5) (ho : 2 ≤ M 1 ∧ M 1 ≤ 3) (ht : tpOk (sl M 2)) (hs0 : -2147483648 ≤ s0 ∧ s0 < 2147483648) (hb : -2147483648 ≤ b ∧ b < 2147483648) (hx : -2147483648 ≤ x ∧ x < 2147483648) : zCi l D (zT cy cs) yX6_step wsX6_step ({ frames := 2, cells := 0, slots := 0, locals := 43 } : Room) [.ref m0, .int (iI s0), .int (iI b), .int (iI x)] [zO m0 6 [.ref m1, .ref m2, .int (iI st), .ref m3, .int (iI iss), .ref m4, .int (iI ty), .ref m5, .ref m6, .ref m7, .ref m8], zA cy m1 780 M] (rdStep M s0 b x) [zO m0 6 [.ref m1, .ref m2, .int (iI st), .ref m3, .int (iI iss), .ref m4, .int (iI ty), .ref m5, .ref m6, .ref m7, .ref m8], zA cy m1 780 M] := by
  intro sz
  refine zM_mk (cc := cX6_step) (maxL := 7) (ret := (some .int)) (own := RX6) (Qc := fun sz => va_Qi (fun r (_ : Unit) => r = iI (rdStep M s0 b x)) (fun _ t => zQ D (zT cy cs) (va_A [zO m0 6 [.ref m1, .ref m2, .int (iI st), .ref m3, .int (iI iss), .ref m4, .int (iI ty), .ref m5, .ref m6, .ref m7, .ref m8], zA cy m1 780 M] sz) [zO m0 6 [.ref m1, .ref m2, .int (iI st), .ref m3, .int (iI iss), .ref m4, .int (iI ty), .ref m5, .ref m6, .ref m7, .ref m8], zA cy m1 780 M] t) (va_A [zO m0 6 [.ref m1, .ref m2, .int (iI st), .ref m3, .int (iI iss), .ref m4, .int (iI ty), .ref m5, .ref m6, .ref m7, .ref m8], zA cy m1 780 M] sz)) (by decide) rfl rfl (Nat.le_of_ble_eq_true rfl) rfl sz ?_
  intro p e s m args below meth c ls C hr hlk hnm hl hsz hA wd
  subst hsz
  have hl : lv_has ls 7 [(0, .ref m0), (1, .int (iI s0)), (2, .int (iI b)), (3, .int (iI x))] := hl
  have iX6 : ∀ w ∈ u_ws RX6 TX6 11, w ∈ wsX6_step := by decide +kernel
  have L7 := C.2.2.2.2 (.fieldLink RX6 7 "LikelyWalksModel" "now" "[I") (by decide +kernel)
  have hp := p2_all hm.1 hm.2
  refine lv_aload_n C.1 C.2.1 dX6_step_0 rfl (lv_at hl 0 rfl) ?_
  refine lv_iload_n C.1 C.2.1 dX6_step_1 rfl (lv_at hl 1 rfl) ?_
  refine z_cvi C wd hA (As := [.int (iI s0)]) (rest := []) (ws2 := [zO m0 6 [.ref m1, .ref m2, .int (iI st), .ref m3, .int (iI iss), .ref m4, .int (iI ty), .ref m5, .ref m6, .ref m7, .ref m8], zA cy m1 780 M]) (c_X6_isState l D cy cs m0 m1 m2 m3 m4 m5 m6 m7 m8 st iss ty M s0 (by omega) (by omega)) (cwV 1 C.2.2.2.2 gX6_step_X6_isState rfl rfl rfl (by decide +kernel) ⟨Nat.le_of_ble_eq_true rfl, Nat.le_of_ble_eq_true rfl⟩) [0, 1] rfl rfl rfl ⟨rfl, [], [], 2, rfl, rfl, rfl, by decide +kernel⟩ rfl rfl rfl rfl (Nat.le_of_ble_eq_true rfl) hl.1 dX6_step_2 ⟨Nat.zero_le _, Nat.zero_le _⟩ (fun H locs wd => ?_)
  refine z_ifb_ne C (tgt := 10) dX6_step_5 (by decide) (fun c_1 => ?_) (fun c_1 => ?_)
  · skip
    refine lv_iload_n C.1 C.2.1 dX6_step_10 rfl (lv_at hl 2 rfl) ?_
    refine z_iconst C dX6_step_11 ?_
    refine z_iconst C dX6_step_12 ?_
    refine z_csi C wd hA (As := [.int (iI b), .int (iI 0), .int (iI 1)]) (rest := []) (ws2 := [zO m0 6 [.ref m1, .ref m2, .int (iI st), .ref m3, .int (iI iss), .ref m4, .int (iI ty), .ref m5, .ref m6, .ref m7, .ref m8], zA cy m1 780 M]) (c_X6_in l D cy cs b 0 1 (by omega) (by omega) (by omega)) (cwS 3 C.2.2.2.2 gX6_step_X6_in rfl rfl rfl (by decide +kernel) ⟨Nat.le_of_ble_eq_true rfl, Nat.le_of_ble_eq_true rfl⟩) [] rfl rfl rfl ⟨rfl, [0, 1], [zO m0 6 [.ref m1, .ref m2, .int (iI st), .ref m3, .int (iI iss), .ref m4, .int (iI ty), .ref m5, .ref m6, .ref m7, .ref m8], zA cy m1 780 M], 2, rfl, rfl, rfl, by decide +kernel⟩ rfl rfl (Nat.le_of_ble_eq_true rfl) hl.1 dX6_step_13 ⟨Nat.zero_le _, Nat.zero_le _⟩ (fun H locs wd => ?_)
    refine z_ifb_eq C (tgt := 28) dX6_step_16 (by decide) (fun c_2 => ?_) (fun c_2 => ?_)
    · skip
      refine z_bipush C dX6_step_28 (by decide +kernel) ?_
      exact z_iret C hr hlk wd (by unfold rdStep; (repeat (first | rw [if_pos (by omega)] | rw [if_neg (by omega)])); first | done | rfl) dX6_step_30
    · skip
      refine lv_iload_n C.1 C.2.1 dX6_step_19 rfl (lv_at hl 3 rfl) ?_
      refine z_iconst C dX6_step_20 ?_
      refine z_iconst C dX6_step_21 ?_
      refine z_csi C wd hA (As := [.int (iI x), .int (iI 0), .int (iI 1)]) (rest := []) (ws2 := [zO m0 6 [.ref m1, .ref m2, .int (iI st), .ref m3, .int (iI iss), .ref m4, .int (iI ty), .ref m5, .ref m6, .ref m7, .ref m8], zA cy m1 780 M]) (c_X6_in l D cy cs x 0 1 (by omega) (by omega) (by omega)) (cwS 3 C.2.2.2.2 gX6_step_X6_in rfl rfl rfl (by decide +kernel) ⟨Nat.le_of_ble_eq_true rfl, Nat.le_of_ble_eq_true rfl⟩) [] rfl rfl rfl ⟨rfl, [0, 1], [zO m0 6 [.ref m1, .ref m2, .int (iI st), .ref m3, .int (iI iss), .ref m4, .int (iI ty), .ref m5, .ref m6, .ref m7, .ref m8], zA cy m1 780 M], 2, rfl, rfl, rfl, by decide +kernel⟩ rfl rfl (Nat.le_of_ble_eq_true rfl) hl.1 dX6_step_22 ⟨Nat.zero_le _, Nat.zero_le _⟩ (fun H locs wd => ?_)
      refine z_ifb_ne C (tgt := 31) dX6_step_25 (by decide) (fun c_3 => ?_) (fun c_3 => ?_)
      · skip
        have hw := wn_le (b := b) hm.1 hm.2 (show 0 ≤ s0 by omega) (by omega) (by omega) (by omega)
        refine lv_aload_n C.1 C.2.1 dX6_step_31 rfl (lv_at hl 0 rfl) ?_
        refine lv_iload_n C.1 C.2.1 dX6_step_32 rfl (lv_at hl 1 rfl) ?_
        refine lv_iload_n C.1 C.2.1 dX6_step_33 rfl (lv_at hl 2 rfl) ?_
        refine z_cvi C wd hA (As := [.int (iI s0), .int (iI b)]) (rest := []) (ws2 := [zO m0 6 [.ref m1, .ref m2, .int (iI st), .ref m3, .int (iI iss), .ref m4, .int (iI ty), .ref m5, .ref m6, .ref m7, .ref m8], zA cy m1 780 M]) (c_X6_window l D cy cs m0 m1 m2 m3 m4 m5 m6 m7 m8 st iss ty M s0 b (by omega)) (cwV 2 C.2.2.2.2 gX6_step_X6_window rfl rfl rfl (by decide +kernel) ⟨Nat.le_of_ble_eq_true rfl, Nat.le_of_ble_eq_true rfl⟩) [0, 1] rfl rfl rfl ⟨rfl, [], [], 2, rfl, rfl, rfl, by decide +kernel⟩ rfl rfl rfl rfl (Nat.le_of_ble_eq_true rfl) hl.1 dX6_step_34 ⟨Nat.zero_le _, Nat.zero_le _⟩ (fun H locs wd => ?_)
        refine lv_istore (lv' := [(4, .int (iI (wn (M 0) s0 b))), (0, .ref m0), (1, .int (iI s0)), (2, .int (iI b)), (3, .int (iI x))]) C.1 C.2.1 dX6_step_37 hl (by decide) rfl (fun ls hl => ?_)
        refine z_iconst C dX6_step_39 ?_
        refine lv_istore (lv' := [(5, .int (iI 0)), (4, .int (iI (wn (M 0) s0 b))), (0, .ref m0), (1, .int (iI s0)), (2, .int (iI b)), (3, .int (iI x))]) C.1 C.2.1 dX6_step_40 hl (by decide) rfl (fun ls hl => ?_)
        refine z_iconst C dX6_step_42 ?_
        refine lv_istore (lv' := [(6, .int (iI 0)), (5, .int (iI 0)), (4, .int (iI (wn (M 0) s0 b))), (0, .ref m0), (1, .int (iI s0)), (2, .int (iI b)), (3, .int (iI x))]) C.1 C.2.1 dX6_step_43 hl (by decide) rfl (fun ls hl => ?_)
        refine z_loop2 (P := fun (y : Int) (k : Int) => (0 ≤ k ∧ k ≤ M 1) ∧ (y = nb (fun z9 => sy (sl M 2 z9) (wn (M 0) s0 b)) k.toNat)) (mu := fun (y : Int) (k : Int) => (M 1 - k).toNat) (ws := fun (y : Int) (k : Int) => [zO m0 6 [.ref m1, .ref m2, .int (iI st), .ref m3, .int (iI iss), .ref m4, .int (iI ty), .ref m5, .ref m6, .ref m7, .ref m8], zA cy m1 780 M]) (lv := fun (y : Int) (k : Int) => [(0, .ref m0), (1, .int (iI s0)), (2, .int (iI b)), (3, .int (iI x)), (4, .int (iI (wn (M 0) s0 b))), (5, .int (iI y)), (6, .int (iI k))]) 0 0 C ⟨(by omega), rfl⟩ wd (lv_sub hl [3, 4, 5, 6, 2, 1, 0] rfl) ?_
        intro y k hP45 ih45 H locs ls wd hl
        obtain ⟨h45_0, h45_1⟩ := hP45
        try dsimp only at h45_0 h45_1
        have wd : Wd D (zT cy cs) _ s.heap s [zO m0 6 [.ref m1, .ref m2, .int (iI st), .ref m3, .int (iI iss), .ref m4, .int (iI ty), .ref m5, .ref m6, .ref m7, .ref m8], zA cy m1 780 M] H locs := wd
        have hl : lv_has ls 7 [(0, .ref m0), (1, .int (iI s0)), (2, .int (iI b)), (3, .int (iI x)), (4, .int (iI (wn (M 0) s0 b))), (5, .int (iI y)), (6, .int (iI k))] := hl
        refine lv_iload C.1 C.2.1 dX6_step_45 (lv_at hl 6 rfl) ?_
        refine lv_aload_n C.1 C.2.1 dX6_step_47 rfl (lv_at hl 0 rfl) ?_
        refine z_get C wd (Cn := RX6) (TT := TX6) (N := 11) (ci := 6) iX6 0 rfl rfl 0 (by decide) L7 (fun _ h => h) rfl dX6_step_48 ?_
        refine z_iconst C dX6_step_51 ?_
        refine z_iald C wd 1 rfl (by omega) (by decide) dX6_step_52 ?_
        refine z_icmp_ge C (tgt := 77) dX6_step_53 (by decide) (by omega) (fun c_4 => ?_) (fun c_4 => ?_)
        · skip
          refine lv_iload_n C.1 C.2.1 dX6_step_77 rfl (lv_at hl 3 rfl) ?_
          refine z_if_ne C (tgt := 88) dX6_step_78 (by decide) (by omega) (fun c_5 => ?_) (fun c_5 => ?_)
          · skip
            refine lv_iload C.1 C.2.1 dX6_step_88 (lv_at hl 5 rfl) ?_
            exact z_iret C hr hlk wd (by unfold rdStep; (repeat (first | rw [if_pos (by omega)] | rw [if_neg (by omega)])); first | done | rfl | (rw [h45_1, show k = M 1 by omega])) dX6_step_90
          · skip
            refine lv_iload C.1 C.2.1 dX6_step_81 (lv_at hl 4 rfl) ?_
            refine z_iconst C dX6_step_83 ?_
            refine z_idiv C dX6_step_84 (by omega) ?_
            refine z_goto C (tgt := 90) dX6_step_85 (by decide) ?_
            exact z_iret C hr hlk wd (by unfold rdStep; (repeat (first | rw [if_pos (by omega)] | rw [if_neg (by omega)])); first | done | rfl | (rw [h45_1, show k = M 1 by omega])) dX6_step_90
        · skip
          refine z_iconst C dX6_step_56 ?_
          refine lv_iload C.1 C.2.1 dX6_step_57 (lv_at hl 5 rfl) ?_
          refine z_imul C dX6_step_59 ?_
          have htk : 0 ≤ M (2 + k) ∧ M (2 + k) < 64 := ht k h45_0.1 (by omega)
          refine lv_aload_n C.1 C.2.1 dX6_step_60 rfl (lv_at hl 0 rfl) ?_
          refine lv_iload C.1 C.2.1 dX6_step_61 (lv_at hl 6 rfl) ?_
          refine lv_iload C.1 C.2.1 dX6_step_63 (lv_at hl 4 rfl) ?_
          refine z_cvi C wd hA (As := [.int (iI k), .int (iI (wn (M 0) s0 b))]) (rest := [.int (iI (2 * y))]) (ws2 := [zO m0 6 [.ref m1, .ref m2, .int (iI st), .ref m3, .int (iI iss), .ref m4, .int (iI ty), .ref m5, .ref m6, .ref m7, .ref m8], zA cy m1 780 M]) (c_X6_symbol l D cy cs m0 m1 m2 m3 m4 m5 m6 m7 m8 st iss ty M k (wn (M 0) s0 b) (by omega) (by omega) (by omega)) (cwV 2 C.2.2.2.2 gX6_step_X6_symbol rfl rfl rfl (by decide +kernel) ⟨Nat.le_of_ble_eq_true rfl, Nat.le_of_ble_eq_true rfl⟩) [0, 1] rfl rfl rfl ⟨rfl, [], [], 2, rfl, rfl, rfl, by decide +kernel⟩ rfl rfl rfl rfl (Nat.le_of_ble_eq_true rfl) hl.1 dX6_step_65 ⟨Nat.zero_le _, Nat.zero_le _⟩ (fun H locs wd => ?_)
          refine z_iadd C dX6_step_68 ?_
          refine lv_istore (lv' := [(5, .int (iI ((2 * y) + (sy (M (2 + k)) (wn (M 0) s0 b))))), (0, .ref m0), (1, .int (iI s0)), (2, .int (iI b)), (3, .int (iI x)), (4, .int (iI (wn (M 0) s0 b))), (6, .int (iI k))]) C.1 C.2.1 dX6_step_69 hl (by decide) rfl (fun ls hl => ?_)
          refine z_iinc C (lv' := [(6, .int (iI (k + 1))), (5, .int (iI ((2 * y) + (sy (M (2 + k)) (wn (M 0) s0 b))))), (0, .ref m0), (1, .int (iI s0)), (2, .int (iI b)), (3, .int (iI x)), (4, .int (iI (wn (M 0) s0 b)))]) hl 6 dX6_step_71 rfl (by decide) rfl (fun ls hl => ?_)
          refine z_goto C (tgt := 45) dX6_step_74 (by decide) ?_
          exact ih45 ((2 * y) + (sy (M (2 + k)) (wn (M 0) s0 b))) (k + 1) ⟨(by omega), (by have e := nb_at (fun z9 => sy (sl M 2 z9) (wn (M 0) s0 b)) h45_0.1; rw [e, h45_1]; rfl)⟩ (by omega) H locs _ wd (lv_sub hl [2, 3, 4, 5, 6, 1, 0] rfl)
      · skip
        refine z_bipush C dX6_step_28 (by decide +kernel) ?_
        exact z_iret C hr hlk wd (by unfold rdStep; (repeat (first | rw [if_pos (by omega)] | rw [if_neg (by omega)])); first | done | rfl) dX6_step_30
  · skip
    refine z_iconst C dX6_step_8 ?_
    exact z_iret C hr hlk wd (by unfold rdStep; (repeat (first | rw [if_pos (by omega)] | rw [if_neg (by omega)])); first | done | rfl) dX6_step_9
set_option maxRecDepth 100000 in
set_option maxHeartbeats 4000000 in
theorem c_X6_line (l : Launch) (D : va_G) (cy cs : ClassId) (m0 m1 m2 m3 m4 m5 m6 m7 m8 : Nat) (st iss ty : Int) (M : Int → Int) (k x : Int) (hln : 0 ≤ M 7 * M 1 ∧ M 7 * M 1 ≤ 240) (h8 : 0 ≤ M 8 ∧ M 8 ≤ 240) (hk : -2147483648 ≤ k ∧ k < 2147483648) (hx : -2147483648 ≤ x ∧ x < 2147483648) : zCi l D (zT cy cs) yX6_line wsX6_line ({ frames := 1, cells := 0, slots := 0, locals := 22 } : Room) [.ref m0, .int (iI k), .int (iI x)] [zO m0 6 [.ref m1, .ref m2, .int (iI st), .ref m3, .int (iI iss), .ref m4, .int (iI ty), .ref m5, .ref m6, .ref m7, .ref m8], zA cy m1 780 M] (rdLine M k x) [zO m0 6 [.ref m1, .ref m2, .int (iI st), .ref m3, .int (iI iss), .ref m4, .int (iI ty), .ref m5, .ref m6, .ref m7, .ref m8], zA cy m1 780 M] := by
  intro sz
  refine zM_mk (cc := cX6_line) (maxL := 3) (ret := (some .int)) (own := RX6) (Qc := fun sz => va_Qi (fun r (_ : Unit) => r = iI (rdLine M k x)) (fun _ t => zQ D (zT cy cs) (va_A [zO m0 6 [.ref m1, .ref m2, .int (iI st), .ref m3, .int (iI iss), .ref m4, .int (iI ty), .ref m5, .ref m6, .ref m7, .ref m8], zA cy m1 780 M] sz) [zO m0 6 [.ref m1, .ref m2, .int (iI st), .ref m3, .int (iI iss), .ref m4, .int (iI ty), .ref m5, .ref m6, .ref m7, .ref m8], zA cy m1 780 M] t) (va_A [zO m0 6 [.ref m1, .ref m2, .int (iI st), .ref m3, .int (iI iss), .ref m4, .int (iI ty), .ref m5, .ref m6, .ref m7, .ref m8], zA cy m1 780 M] sz)) (by decide) rfl rfl (Nat.le_of_ble_eq_true rfl) rfl sz ?_
  intro p e s m args below meth c ls C hr hlk hnm hl hsz hA wd
  subst hsz
  have hl : lv_has ls 3 [(0, .ref m0), (1, .int (iI k)), (2, .int (iI x))] := hl
  have iX6 : ∀ w ∈ u_ws RX6 TX6 11, w ∈ wsX6_line := by decide +kernel
  have L7 := C.2.2.2.2 (.fieldLink RX6 7 "LikelyWalksModel" "now" "[I") (by decide +kernel)
  refine lv_iload_n C.1 C.2.1 dX6_line_0 rfl (lv_at hl 1 rfl) ?_
  refine z_iconst C dX6_line_1 ?_
  refine lv_aload_n C.1 C.2.1 dX6_line_2 rfl (lv_at hl 0 rfl) ?_
  refine z_cvi C wd hA (As := []) (rest := [.int (iI 0), .int (iI k)]) (ws2 := [zO m0 6 [.ref m1, .ref m2, .int (iI st), .ref m3, .int (iI iss), .ref m4, .int (iI ty), .ref m5, .ref m6, .ref m7, .ref m8], zA cy m1 780 M]) (c_X6_symbols l D cy cs m0 m1 m2 m3 m4 m5 m6 m7 m8 st iss ty M ) (cwV 0 C.2.2.2.2 gX6_line_X6_symbols rfl rfl rfl (by decide +kernel) ⟨Nat.le_of_ble_eq_true rfl, Nat.le_of_ble_eq_true rfl⟩) [0, 1] rfl rfl rfl ⟨rfl, [], [], 2, rfl, rfl, rfl, by decide +kernel⟩ rfl rfl rfl rfl (Nat.le_of_ble_eq_true rfl) hl.1 dX6_line_3 ⟨Nat.zero_le _, Nat.zero_le _⟩ (fun H locs wd => ?_)
  refine z_iconst C dX6_line_6 ?_
  refine z_isub C dX6_line_7 ?_
  refine z_csi C wd hA (As := [.int (iI k), .int (iI 0), .int (iI ((M 7 * M 1) - 1))]) (rest := []) (ws2 := [zO m0 6 [.ref m1, .ref m2, .int (iI st), .ref m3, .int (iI iss), .ref m4, .int (iI ty), .ref m5, .ref m6, .ref m7, .ref m8], zA cy m1 780 M]) (c_X6_in l D cy cs k 0 ((M 7 * M 1) - 1) (by omega) (by omega) (by omega)) (cwS 3 C.2.2.2.2 gX6_line_X6_in rfl rfl rfl (by decide +kernel) ⟨Nat.le_of_ble_eq_true rfl, Nat.le_of_ble_eq_true rfl⟩) [] rfl rfl rfl ⟨rfl, [0, 1], [zO m0 6 [.ref m1, .ref m2, .int (iI st), .ref m3, .int (iI iss), .ref m4, .int (iI ty), .ref m5, .ref m6, .ref m7, .ref m8], zA cy m1 780 M], 2, rfl, rfl, rfl, by decide +kernel⟩ rfl rfl (Nat.le_of_ble_eq_true rfl) hl.1 dX6_line_8 ⟨Nat.zero_le _, Nat.zero_le _⟩ (fun H locs wd => ?_)
  refine z_ifb_ne C (tgt := 16) dX6_line_11 (by decide) (fun c_1 => ?_) (fun c_1 => ?_)
  · skip
    refine lv_iload_n C.1 C.2.1 dX6_line_16 rfl (lv_at hl 2 rfl) ?_
    rcases Int.lt_or_le x 0 with c_2 | c_2
    · skip
      refine lv_tableOut (tgt := 82) C.1 C.2.1 dX6_line_17 (Or.inl (by rw [iI_toInt (by omega) (by omega)]; exact c_2)) (by decide) ?_
      refine z_bipush C dX6_line_82 (by decide +kernel) ?_
      exact z_iret C hr hlk wd (by unfold rdLine; (repeat (first | rw [if_pos (by omega)] | rw [if_neg (by omega)])); first | done | rfl) dX6_line_84
    rcases Int.lt_or_le 2 x with c_2 | c_2b
    · skip
      refine lv_tableOut (tgt := 82) C.1 C.2.1 dX6_line_17 (Or.inr (by rw [iI_toInt (by omega) (by omega)]; exact c_2)) (by decide) ?_
      refine z_bipush C dX6_line_82 (by decide +kernel) ?_
      exact z_iret C hr hlk wd (by unfold rdLine; (repeat (first | rw [if_pos (by omega)] | rw [if_neg (by omega)])); first | done | rfl) dX6_line_84
    rcases (show x = 0 ∨ x = 1 ∨ x = 2 by omega) with c_2c | c_2c | c_2c
    · skip
      refine lv_tableIn (tgt := 44) (off := 27) C.1 C.2.1 dX6_line_17 (by rw [iI_toInt (by omega) (by omega)]; omega) (by rw [iI_toInt (by omega) (by omega)]; omega) (by rw [iI_toInt (by omega) (by omega), c_2c]; rfl) (by decide) ?_
      refine lv_aload_n C.1 C.2.1 dX6_line_44 rfl (lv_at hl 0 rfl) ?_
      refine z_get C wd (Cn := RX6) (TT := TX6) (N := 11) (ci := 6) iX6 0 rfl rfl 0 (by decide) L7 (fun _ h => h) rfl dX6_line_45 ?_
      refine z_bipush C dX6_line_48 (by decide +kernel) ?_
      refine lv_iload_n C.1 C.2.1 dX6_line_50 rfl (lv_at hl 1 rfl) ?_
      refine z_iadd C dX6_line_51 ?_
      refine z_iald C wd 1 rfl (by omega) (by decide) dX6_line_52 ?_
      exact z_iret C hr hlk wd (by unfold rdLine; (repeat (first | rw [if_pos (by omega)] | rw [if_neg (by omega)])); first | done | rfl) dX6_line_53
    · skip
      refine lv_tableIn (tgt := 54) (off := 37) C.1 C.2.1 dX6_line_17 (by rw [iI_toInt (by omega) (by omega)]; omega) (by rw [iI_toInt (by omega) (by omega)]; omega) (by rw [iI_toInt (by omega) (by omega), c_2c]; rfl) (by decide) ?_
      refine lv_aload_n C.1 C.2.1 dX6_line_54 rfl (lv_at hl 0 rfl) ?_
      refine z_get C wd (Cn := RX6) (TT := TX6) (N := 11) (ci := 6) iX6 0 rfl rfl 0 (by decide) L7 (fun _ h => h) rfl dX6_line_55 ?_
      refine z_sipush C dX6_line_58 (by decide +kernel) ?_
      refine lv_iload_n C.1 C.2.1 dX6_line_61 rfl (lv_at hl 1 rfl) ?_
      refine z_iadd C dX6_line_62 ?_
      refine z_iald C wd 1 rfl (by omega) (by decide) dX6_line_63 ?_
      exact z_iret C hr hlk wd (by unfold rdLine; (repeat (first | rw [if_pos (by omega)] | rw [if_neg (by omega)])); first | done | rfl) dX6_line_64
    · skip
      refine lv_tableIn (tgt := 65) (off := 48) C.1 C.2.1 dX6_line_17 (by rw [iI_toInt (by omega) (by omega)]; omega) (by rw [iI_toInt (by omega) (by omega)]; omega) (by rw [iI_toInt (by omega) (by omega), c_2c]; rfl) (by decide) ?_
      refine lv_iload_n C.1 C.2.1 dX6_line_65 rfl (lv_at hl 1 rfl) ?_
      refine lv_aload_n C.1 C.2.1 dX6_line_66 rfl (lv_at hl 0 rfl) ?_
      refine z_get C wd (Cn := RX6) (TT := TX6) (N := 11) (ci := 6) iX6 0 rfl rfl 0 (by decide) L7 (fun _ h => h) rfl dX6_line_67 ?_
      refine z_bipush C dX6_line_70 (by decide +kernel) ?_
      refine z_iald C wd 1 rfl (by omega) (by decide) dX6_line_72 ?_
      refine z_icmp_ge C (tgt := 80) dX6_line_73 (by decide) (by omega) (fun c_3 => ?_) (fun c_3 => ?_)
      · skip
        refine z_iconst C dX6_line_80 ?_
        exact z_iret C hr hlk wd (by unfold rdLine; (repeat (first | rw [if_pos (by omega)] | rw [if_neg (by omega)])); first | done | rfl) dX6_line_81
      · skip
        refine z_iconst C dX6_line_76 ?_
        refine z_goto C (tgt := 81) dX6_line_77 (by decide) ?_
        exact z_iret C hr hlk wd (by unfold rdLine; (repeat (first | rw [if_pos (by omega)] | rw [if_neg (by omega)])); first | done | rfl) dX6_line_81
  · skip
    refine z_iconst C dX6_line_14 ?_
    exact z_iret C hr hlk wd (by unfold rdLine; (repeat (first | rw [if_pos (by omega)] | rw [if_neg (by omega)])); first | done | rfl) dX6_line_15
set_option maxRecDepth 100000 in
set_option maxHeartbeats 4000000 in
theorem c_X6_sent (l : Launch) (D : va_G) (cy cs : ClassId) (m0 m1 m2 m3 m4 m5 m6 m7 m8 : Nat) (st iss ty : Int) (M : Int → Int) (k : Int) (h7 : 0 ≤ M 7 ∧ M 7 ≤ 80) (hk : -2147483648 ≤ k ∧ k < 2147483648) : zCi l D (zT cy cs) yX6_sent wsX6_sent ({ frames := 1, cells := 0, slots := 0, locals := 22 } : Room) [.ref m0, .int (iI k)] [zO m0 6 [.ref m1, .ref m2, .int (iI st), .ref m3, .int (iI iss), .ref m4, .int (iI ty), .ref m5, .ref m6, .ref m7, .ref m8], zA cy m1 780 M] (rdSent M k) [zO m0 6 [.ref m1, .ref m2, .int (iI st), .ref m3, .int (iI iss), .ref m4, .int (iI ty), .ref m5, .ref m6, .ref m7, .ref m8], zA cy m1 780 M] := by
  intro sz
  refine zM_mk (cc := cX6_sent) (maxL := 2) (ret := (some .int)) (own := RX6) (Qc := fun sz => va_Qi (fun r (_ : Unit) => r = iI (rdSent M k)) (fun _ t => zQ D (zT cy cs) (va_A [zO m0 6 [.ref m1, .ref m2, .int (iI st), .ref m3, .int (iI iss), .ref m4, .int (iI ty), .ref m5, .ref m6, .ref m7, .ref m8], zA cy m1 780 M] sz) [zO m0 6 [.ref m1, .ref m2, .int (iI st), .ref m3, .int (iI iss), .ref m4, .int (iI ty), .ref m5, .ref m6, .ref m7, .ref m8], zA cy m1 780 M] t) (va_A [zO m0 6 [.ref m1, .ref m2, .int (iI st), .ref m3, .int (iI iss), .ref m4, .int (iI ty), .ref m5, .ref m6, .ref m7, .ref m8], zA cy m1 780 M] sz)) (by decide) rfl rfl (Nat.le_of_ble_eq_true rfl) rfl sz ?_
  intro p e s m args below meth c ls C hr hlk hnm hl hsz hA wd
  subst hsz
  have hl : lv_has ls 2 [(0, .ref m0), (1, .int (iI k))] := hl
  have iX6 : ∀ w ∈ u_ws RX6 TX6 11, w ∈ wsX6_sent := by decide +kernel
  have L7 := C.2.2.2.2 (.fieldLink RX6 7 "LikelyWalksModel" "now" "[I") (by decide +kernel)
  refine lv_iload_n C.1 C.2.1 dX6_sent_0 rfl (lv_at hl 1 rfl) ?_
  refine z_iconst C dX6_sent_1 ?_
  refine lv_aload_n C.1 C.2.1 dX6_sent_2 rfl (lv_at hl 0 rfl) ?_
  refine z_get C wd (Cn := RX6) (TT := TX6) (N := 11) (ci := 6) iX6 0 rfl rfl 0 (by decide) L7 (fun _ h => h) rfl dX6_sent_3 ?_
  refine z_bipush C dX6_sent_6 (by decide +kernel) ?_
  refine z_iald C wd 1 rfl (by omega) (by decide) dX6_sent_8 ?_
  refine z_iconst C dX6_sent_9 ?_
  refine z_isub C dX6_sent_10 ?_
  refine z_csi C wd hA (As := [.int (iI k), .int (iI 0), .int (iI ((M 7) - 1))]) (rest := []) (ws2 := [zO m0 6 [.ref m1, .ref m2, .int (iI st), .ref m3, .int (iI iss), .ref m4, .int (iI ty), .ref m5, .ref m6, .ref m7, .ref m8], zA cy m1 780 M]) (c_X6_in l D cy cs k 0 ((M 7) - 1) (by omega) (by omega) (by omega)) (cwS 3 C.2.2.2.2 gX6_sent_X6_in rfl rfl rfl (by decide +kernel) ⟨Nat.le_of_ble_eq_true rfl, Nat.le_of_ble_eq_true rfl⟩) [] rfl rfl rfl ⟨rfl, [0, 1], [zO m0 6 [.ref m1, .ref m2, .int (iI st), .ref m3, .int (iI iss), .ref m4, .int (iI ty), .ref m5, .ref m6, .ref m7, .ref m8], zA cy m1 780 M], 2, rfl, rfl, rfl, by decide +kernel⟩ rfl rfl (Nat.le_of_ble_eq_true rfl) hl.1 dX6_sent_11 ⟨Nat.zero_le _, Nat.zero_le _⟩ (fun H locs wd => ?_)
  refine z_ifb_eq C (tgt := 29) dX6_sent_14 (by decide) (fun c_1 => ?_) (fun c_1 => ?_)
  · skip
    refine z_iconst C dX6_sent_29 ?_
    exact z_iret C hr hlk wd (by unfold rdSent; (repeat (first | rw [if_pos (by omega)] | rw [if_neg (by omega)])); first | done | rfl) dX6_sent_30
  · skip
    refine lv_aload_n C.1 C.2.1 dX6_sent_17 rfl (lv_at hl 0 rfl) ?_
    refine z_get C wd (Cn := RX6) (TT := TX6) (N := 11) (ci := 6) iX6 0 rfl rfl 0 (by decide) L7 (fun _ h => h) rfl dX6_sent_18 ?_
    refine z_bipush C dX6_sent_21 (by decide +kernel) ?_
    refine lv_iload_n C.1 C.2.1 dX6_sent_23 rfl (lv_at hl 1 rfl) ?_
    refine z_iadd C dX6_sent_24 ?_
    refine z_iald C wd 1 rfl (by omega) (by decide) dX6_sent_25 ?_
    refine z_goto C (tgt := 30) dX6_sent_26 (by decide) ?_
    exact z_iret C hr hlk wd (by unfold rdSent; (repeat (first | rw [if_pos (by omega)] | rw [if_neg (by omega)])); first | done | rfl) dX6_sent_30
set_option maxRecDepth 100000 in
set_option maxHeartbeats 4000000 in
theorem c_X6_released (l : Launch) (D : va_G) (cy cs : ClassId) (m0 m1 m2 m3 m4 m5 m6 m7 m8 : Nat) (st iss ty : Int) (M : Int → Int) (k : Int) (h10 : 0 ≤ M 10 ∧ M 10 ≤ 80) (hk : -2147483648 ≤ k ∧ k < 2147483648) : zCi l D (zT cy cs) yX6_released wsX6_released ({ frames := 1, cells := 0, slots := 0, locals := 22 } : Room) [.ref m0, .int (iI k)] [zO m0 6 [.ref m1, .ref m2, .int (iI st), .ref m3, .int (iI iss), .ref m4, .int (iI ty), .ref m5, .ref m6, .ref m7, .ref m8], zA cy m1 780 M] (rdRel M k) [zO m0 6 [.ref m1, .ref m2, .int (iI st), .ref m3, .int (iI iss), .ref m4, .int (iI ty), .ref m5, .ref m6, .ref m7, .ref m8], zA cy m1 780 M] := by
  intro sz
  refine zM_mk (cc := cX6_released) (maxL := 2) (ret := (some .int)) (own := RX6) (Qc := fun sz => va_Qi (fun r (_ : Unit) => r = iI (rdRel M k)) (fun _ t => zQ D (zT cy cs) (va_A [zO m0 6 [.ref m1, .ref m2, .int (iI st), .ref m3, .int (iI iss), .ref m4, .int (iI ty), .ref m5, .ref m6, .ref m7, .ref m8], zA cy m1 780 M] sz) [zO m0 6 [.ref m1, .ref m2, .int (iI st), .ref m3, .int (iI iss), .ref m4, .int (iI ty), .ref m5, .ref m6, .ref m7, .ref m8], zA cy m1 780 M] t) (va_A [zO m0 6 [.ref m1, .ref m2, .int (iI st), .ref m3, .int (iI iss), .ref m4, .int (iI ty), .ref m5, .ref m6, .ref m7, .ref m8], zA cy m1 780 M] sz)) (by decide) rfl rfl (Nat.le_of_ble_eq_true rfl) rfl sz ?_
  intro p e s m args below meth c ls C hr hlk hnm hl hsz hA wd
  subst hsz
  have hl : lv_has ls 2 [(0, .ref m0), (1, .int (iI k))] := hl
  have iX6 : ∀ w ∈ u_ws RX6 TX6 11, w ∈ wsX6_released := by decide +kernel
  have L7 := C.2.2.2.2 (.fieldLink RX6 7 "LikelyWalksModel" "now" "[I") (by decide +kernel)
  refine lv_iload_n C.1 C.2.1 dX6_released_0 rfl (lv_at hl 1 rfl) ?_
  refine z_iconst C dX6_released_1 ?_
  refine lv_aload_n C.1 C.2.1 dX6_released_2 rfl (lv_at hl 0 rfl) ?_
  refine z_get C wd (Cn := RX6) (TT := TX6) (N := 11) (ci := 6) iX6 0 rfl rfl 0 (by decide) L7 (fun _ h => h) rfl dX6_released_3 ?_
  refine z_bipush C dX6_released_6 (by decide +kernel) ?_
  refine z_iald C wd 1 rfl (by omega) (by decide) dX6_released_8 ?_
  refine z_iconst C dX6_released_9 ?_
  refine z_isub C dX6_released_10 ?_
  refine z_csi C wd hA (As := [.int (iI k), .int (iI 0), .int (iI ((M 10) - 1))]) (rest := []) (ws2 := [zO m0 6 [.ref m1, .ref m2, .int (iI st), .ref m3, .int (iI iss), .ref m4, .int (iI ty), .ref m5, .ref m6, .ref m7, .ref m8], zA cy m1 780 M]) (c_X6_in l D cy cs k 0 ((M 10) - 1) (by omega) (by omega) (by omega)) (cwS 3 C.2.2.2.2 gX6_released_X6_in rfl rfl rfl (by decide +kernel) ⟨Nat.le_of_ble_eq_true rfl, Nat.le_of_ble_eq_true rfl⟩) [] rfl rfl rfl ⟨rfl, [0, 1], [zO m0 6 [.ref m1, .ref m2, .int (iI st), .ref m3, .int (iI iss), .ref m4, .int (iI ty), .ref m5, .ref m6, .ref m7, .ref m8], zA cy m1 780 M], 2, rfl, rfl, rfl, by decide +kernel⟩ rfl rfl (Nat.le_of_ble_eq_true rfl) hl.1 dX6_released_11 ⟨Nat.zero_le _, Nat.zero_le _⟩ (fun H locs wd => ?_)
  refine z_ifb_eq C (tgt := 30) dX6_released_14 (by decide) (fun c_1 => ?_) (fun c_1 => ?_)
  · skip
    refine z_iconst C dX6_released_30 ?_
    exact z_iret C hr hlk wd (by unfold rdRel; (repeat (first | rw [if_pos (by omega)] | rw [if_neg (by omega)])); first | done | rfl) dX6_released_31
  · skip
    refine lv_aload_n C.1 C.2.1 dX6_released_17 rfl (lv_at hl 0 rfl) ?_
    refine z_get C wd (Cn := RX6) (TT := TX6) (N := 11) (ci := 6) iX6 0 rfl rfl 0 (by decide) L7 (fun _ h => h) rfl dX6_released_18 ?_
    refine z_sipush C dX6_released_21 (by decide +kernel) ?_
    refine lv_iload_n C.1 C.2.1 dX6_released_24 rfl (lv_at hl 1 rfl) ?_
    refine z_iadd C dX6_released_25 ?_
    refine z_iald C wd 1 rfl (by omega) (by decide) dX6_released_26 ?_
    refine z_goto C (tgt := 31) dX6_released_27 (by decide) ?_
    exact z_iret C hr hlk wd (by unfold rdRel; (repeat (first | rw [if_pos (by omega)] | rw [if_neg (by omega)])); first | done | rfl) dX6_released_31
set_option maxRecDepth 100000 in
set_option maxHeartbeats 4000000 in
theorem c_X6_metric (l : Launch) (D : va_G) (cy cs : ClassId) (m0 m1 m2 m3 m4 m5 m6 m7 m8 : Nat) (st iss ty : Int) (M : Int → Int) (s0 : Int) (hm : 1 ≤ M 0 ∧ M 0 ≤ 5) (hme : ∀ k : Int, 0 ≤ k → k < 32 → -1 ≤ M (572 + k) ∧ M (572 + k) ≤ 1000) (hs0 : -2147483648 ≤ s0 ∧ s0 < 2147483648) : zCi l D (zT cy cs) yX6_metric wsX6_metric ({ frames := 2, cells := 0, slots := 0, locals := 43 } : Room) [.ref m0, .int (iI s0)] [zO m0 6 [.ref m1, .ref m2, .int (iI st), .ref m3, .int (iI iss), .ref m4, .int (iI ty), .ref m5, .ref m6, .ref m7, .ref m8], zA cy m1 780 M] (rdMet M s0) [zO m0 6 [.ref m1, .ref m2, .int (iI st), .ref m3, .int (iI iss), .ref m4, .int (iI ty), .ref m5, .ref m6, .ref m7, .ref m8], zA cy m1 780 M] := by
  intro sz
  refine zM_mk (cc := cX6_metric) (maxL := 2) (ret := (some .int)) (own := RX6) (Qc := fun sz => va_Qi (fun r (_ : Unit) => r = iI (rdMet M s0)) (fun _ t => zQ D (zT cy cs) (va_A [zO m0 6 [.ref m1, .ref m2, .int (iI st), .ref m3, .int (iI iss), .ref m4, .int (iI ty), .ref m5, .ref m6, .ref m7, .ref m8], zA cy m1 780 M] sz) [zO m0 6 [.ref m1, .ref m2, .int (iI st), .ref m3, .int (iI iss), .ref m4, .int (iI ty), .ref m5, .ref m6, .ref m7, .ref m8], zA cy m1 780 M] t) (va_A [zO m0 6 [.ref m1, .ref m2, .int (iI st), .ref m3, .int (iI iss), .ref m4, .int (iI ty), .ref m5, .ref m6, .ref m7, .ref m8], zA cy m1 780 M] sz)) (by decide) rfl rfl (Nat.le_of_ble_eq_true rfl) rfl sz ?_
  intro p e s m args below meth c ls C hr hlk hnm hl hsz hA wd
  subst hsz
  have hl : lv_has ls 2 [(0, .ref m0), (1, .int (iI s0))] := hl
  have iX6 : ∀ w ∈ u_ws RX6 TX6 11, w ∈ wsX6_metric := by decide +kernel
  have L7 := C.2.2.2.2 (.fieldLink RX6 7 "LikelyWalksModel" "now" "[I") (by decide +kernel)
  have hp := p2_all hm.1 hm.2
  refine lv_aload_n C.1 C.2.1 dX6_metric_0 rfl (lv_at hl 0 rfl) ?_
  refine lv_iload_n C.1 C.2.1 dX6_metric_1 rfl (lv_at hl 1 rfl) ?_
  refine z_cvi C wd hA (As := [.int (iI s0)]) (rest := []) (ws2 := [zO m0 6 [.ref m1, .ref m2, .int (iI st), .ref m3, .int (iI iss), .ref m4, .int (iI ty), .ref m5, .ref m6, .ref m7, .ref m8], zA cy m1 780 M]) (c_X6_isState l D cy cs m0 m1 m2 m3 m4 m5 m6 m7 m8 st iss ty M s0 (by omega) (by omega)) (cwV 1 C.2.2.2.2 gX6_metric_X6_isState rfl rfl rfl (by decide +kernel) ⟨Nat.le_of_ble_eq_true rfl, Nat.le_of_ble_eq_true rfl⟩) [0, 1] rfl rfl rfl ⟨rfl, [], [], 2, rfl, rfl, rfl, by decide +kernel⟩ rfl rfl rfl rfl (Nat.le_of_ble_eq_true rfl) hl.1 dX6_metric_2 ⟨Nat.zero_le _, Nat.zero_le _⟩ (fun H locs wd => ?_)
  refine z_ifb_ne C (tgt := 10) dX6_metric_5 (by decide) (fun c_1 => ?_) (fun c_1 => ?_)
  · skip
    refine lv_aload_n C.1 C.2.1 dX6_metric_10 rfl (lv_at hl 0 rfl) ?_
    refine z_get C wd (Cn := RX6) (TT := TX6) (N := 11) (ci := 6) iX6 0 rfl rfl 0 (by decide) L7 (fun _ h => h) rfl dX6_metric_11 ?_
    refine z_sipush C dX6_metric_14 (by decide +kernel) ?_
    refine lv_iload_n C.1 C.2.1 dX6_metric_17 rfl (lv_at hl 1 rfl) ?_
    refine z_iadd C dX6_metric_18 ?_
    have hx := hme s0 (by omega) (by omega)
    refine z_iald C wd 1 rfl (by omega) (by decide) dX6_metric_19 ?_
    refine z_if_ge C (tgt := 28) dX6_metric_20 (by decide) (by omega) (fun c_2 => ?_) (fun c_2 => ?_)
    · skip
      refine lv_aload_n C.1 C.2.1 dX6_metric_28 rfl (lv_at hl 0 rfl) ?_
      refine z_get C wd (Cn := RX6) (TT := TX6) (N := 11) (ci := 6) iX6 0 rfl rfl 0 (by decide) L7 (fun _ h => h) rfl dX6_metric_29 ?_
      refine z_sipush C dX6_metric_32 (by decide +kernel) ?_
      refine lv_iload_n C.1 C.2.1 dX6_metric_35 rfl (lv_at hl 1 rfl) ?_
      refine z_iadd C dX6_metric_36 ?_
      refine z_iald C wd 1 rfl (by omega) (by decide) dX6_metric_37 ?_
      exact z_iret C hr hlk wd (by unfold rdMet; have e9 : sl M 572 s0 = M (572 + s0) := rfl; rw [e9]; (repeat (first | rw [if_pos (by omega)] | rw [if_neg (by omega)]))) dX6_metric_38
    · skip
      refine z_bipush C dX6_metric_23 (by decide +kernel) ?_
      refine z_goto C (tgt := 38) dX6_metric_25 (by decide) ?_
      exact z_iret C hr hlk wd (by unfold rdMet; have e9 : sl M 572 s0 = M (572 + s0) := rfl; rw [e9]; (repeat (first | rw [if_pos (by omega)] | rw [if_neg (by omega)]))) dX6_metric_38
  · skip
    refine z_iconst C dX6_metric_8 ?_
    exact z_iret C hr hlk wd (by unfold rdMet; have e9 : sl M 572 s0 = M (572 + s0) := rfl; rw [e9]; (repeat (first | rw [if_pos (by omega)] | rw [if_neg (by omega)]))) dX6_metric_9
set_option maxRecDepth 100000 in
set_option maxHeartbeats 4000000 in
theorem c_X6_survivor (l : Launch) (D : va_G) (cy cs : ClassId) (m0 m1 m2 m3 m4 m5 m6 m7 m8 : Nat) (st iss ty : Int) (M : Int → Int) (s0 x : Int) (hm : 1 ≤ M 0 ∧ M 0 ≤ 5) (hme : ∀ k : Int, 0 ≤ k → k < 32 → -1 ≤ M (572 + k) ∧ M (572 + k) ≤ 1000) (h9 : 0 ≤ M 9 ∧ M 9 ≤ 80) (hwk : ∀ t c : Int, 0 ≤ t → t < 32 → 0 ≤ c → c < 3 → 0 ≤ M (684 + 3 * t + c) ∧ M (684 + 3 * t + c) < 1073741824) (hs0 : -2147483648 ≤ s0 ∧ s0 < 2147483648) (hx : -2147483648 ≤ x ∧ x < 2147483648) : zCi l D (zT cy cs) yX6_survivor wsX6_survivor ({ frames := 2, cells := 0, slots := 0, locals := 43 } : Room) [.ref m0, .int (iI s0), .int (iI x)] [zO m0 6 [.ref m1, .ref m2, .int (iI st), .ref m3, .int (iI iss), .ref m4, .int (iI ty), .ref m5, .ref m6, .ref m7, .ref m8], zA cy m1 780 M] (rdSurM M s0 x) [zO m0 6 [.ref m1, .ref m2, .int (iI st), .ref m3, .int (iI iss), .ref m4, .int (iI ty), .ref m5, .ref m6, .ref m7, .ref m8], zA cy m1 780 M] := by
  intro sz
  refine zM_mk (cc := cX6_survivor) (maxL := 3) (ret := (some .int)) (own := RX6) (Qc := fun sz => va_Qi (fun r (_ : Unit) => r = iI (rdSurM M s0 x)) (fun _ t => zQ D (zT cy cs) (va_A [zO m0 6 [.ref m1, .ref m2, .int (iI st), .ref m3, .int (iI iss), .ref m4, .int (iI ty), .ref m5, .ref m6, .ref m7, .ref m8], zA cy m1 780 M] sz) [zO m0 6 [.ref m1, .ref m2, .int (iI st), .ref m3, .int (iI iss), .ref m4, .int (iI ty), .ref m5, .ref m6, .ref m7, .ref m8], zA cy m1 780 M] t) (va_A [zO m0 6 [.ref m1, .ref m2, .int (iI st), .ref m3, .int (iI iss), .ref m4, .int (iI ty), .ref m5, .ref m6, .ref m7, .ref m8], zA cy m1 780 M] sz)) (by decide) rfl rfl (Nat.le_of_ble_eq_true rfl) rfl sz ?_
  intro p e s m args below meth c ls C hr hlk hnm hl hsz hA wd
  subst hsz
  have hl : lv_has ls 3 [(0, .ref m0), (1, .int (iI s0)), (2, .int (iI x))] := hl
  have iX6 : ∀ w ∈ u_ws RX6 TX6 11, w ∈ wsX6_survivor := by decide +kernel
  have L7 := C.2.2.2.2 (.fieldLink RX6 7 "LikelyWalksModel" "now" "[I") (by decide +kernel)
  have hp := p2_all hm.1 hm.2
  refine lv_aload_n C.1 C.2.1 dX6_survivor_0 rfl (lv_at hl 0 rfl) ?_
  refine lv_iload_n C.1 C.2.1 dX6_survivor_1 rfl (lv_at hl 1 rfl) ?_
  refine z_cvi C wd hA (As := [.int (iI s0)]) (rest := []) (ws2 := [zO m0 6 [.ref m1, .ref m2, .int (iI st), .ref m3, .int (iI iss), .ref m4, .int (iI ty), .ref m5, .ref m6, .ref m7, .ref m8], zA cy m1 780 M]) (c_X6_isState l D cy cs m0 m1 m2 m3 m4 m5 m6 m7 m8 st iss ty M s0 (by omega) (by omega)) (cwV 1 C.2.2.2.2 gX6_survivor_X6_isState rfl rfl rfl (by decide +kernel) ⟨Nat.le_of_ble_eq_true rfl, Nat.le_of_ble_eq_true rfl⟩) [0, 1] rfl rfl rfl ⟨rfl, [], [], 2, rfl, rfl, rfl, by decide +kernel⟩ rfl rfl rfl rfl (Nat.le_of_ble_eq_true rfl) hl.1 dX6_survivor_2 ⟨Nat.zero_le _, Nat.zero_le _⟩ (fun H locs wd => ?_)
  refine z_ifb_ne C (tgt := 10) dX6_survivor_5 (by decide) (fun c_1 => ?_) (fun c_1 => ?_)
  · skip
    refine lv_iload_n C.1 C.2.1 dX6_survivor_10 rfl (lv_at hl 2 rfl) ?_
    refine z_if_ge C (tgt := 17) dX6_survivor_11 (by decide) (by omega) (fun c_2 => ?_) (fun c_2 => ?_)
    · skip
      refine lv_aload_n C.1 C.2.1 dX6_survivor_17 rfl (lv_at hl 0 rfl) ?_
      refine z_get C wd (Cn := RX6) (TT := TX6) (N := 11) (ci := 6) iX6 0 rfl rfl 0 (by decide) L7 (fun _ h => h) rfl dX6_survivor_18 ?_
      refine z_sipush C dX6_survivor_21 (by decide +kernel) ?_
      refine lv_iload_n C.1 C.2.1 dX6_survivor_24 rfl (lv_at hl 1 rfl) ?_
      refine z_iadd C dX6_survivor_25 ?_
      have hx := hme s0 (by omega) (by omega)
      refine z_iald C wd 1 rfl (by omega) (by decide) dX6_survivor_26 ?_
      refine z_if_lt C (tgt := 41) dX6_survivor_27 (by decide) (by omega) (fun c_3 => ?_) (fun c_3 => ?_)
      · skip
        refine z_bipush C dX6_survivor_41 (by decide +kernel) ?_
        refine z_goto C (tgt := 62) dX6_survivor_43 (by decide) ?_
        exact z_iret C hr hlk wd (by unfold rdSurM; (repeat (first | rw [if_pos (by omega)] | rw [if_neg (by omega)])); first | done | rfl) dX6_survivor_62
      · skip
        refine lv_iload_n C.1 C.2.1 dX6_survivor_30 rfl (lv_at hl 2 rfl) ?_
        refine lv_aload_n C.1 C.2.1 dX6_survivor_31 rfl (lv_at hl 0 rfl) ?_
        refine z_get C wd (Cn := RX6) (TT := TX6) (N := 11) (ci := 6) iX6 0 rfl rfl 0 (by decide) L7 (fun _ h => h) rfl dX6_survivor_32 ?_
        refine z_bipush C dX6_survivor_35 (by decide +kernel) ?_
        refine z_iald C wd 1 rfl (by omega) (by decide) dX6_survivor_37 ?_
        refine z_icmp_lt C (tgt := 46) dX6_survivor_38 (by decide) (by omega) (fun c_4 => ?_) (fun c_4 => ?_)
        · skip
          refine lv_aload_n C.1 C.2.1 dX6_survivor_46 rfl (lv_at hl 0 rfl) ?_
          refine lv_iload_n C.1 C.2.1 dX6_survivor_47 rfl (lv_at hl 1 rfl) ?_
          refine lv_aload_n C.1 C.2.1 dX6_survivor_48 rfl (lv_at hl 0 rfl) ?_
          refine z_get C wd (Cn := RX6) (TT := TX6) (N := 11) (ci := 6) iX6 0 rfl rfl 0 (by decide) L7 (fun _ h => h) rfl dX6_survivor_49 ?_
          refine z_bipush C dX6_survivor_52 (by decide +kernel) ?_
          refine z_iald C wd 1 rfl (by omega) (by decide) dX6_survivor_54 ?_
          refine z_iconst C dX6_survivor_55 ?_
          refine z_isub C dX6_survivor_56 ?_
          refine lv_iload_n C.1 C.2.1 dX6_survivor_57 rfl (lv_at hl 2 rfl) ?_
          refine z_isub C dX6_survivor_58 ?_
          refine z_cvi C wd hA (As := [.int (iI s0), .int (iI (((M 9) - 1) - x))]) (rest := []) (ws2 := [zO m0 6 [.ref m1, .ref m2, .int (iI st), .ref m3, .int (iI iss), .ref m4, .int (iI ty), .ref m5, .ref m6, .ref m7, .ref m8], zA cy m1 780 M]) (c_X6_walkBit l D cy cs m0 m1 m2 m3 m4 m5 m6 m7 m8 st iss ty M s0 (((M 9) - 1) - x) (by omega) (by omega) (hwk s0 ((M 9 - 1 - x) / 30) (by omega) (by omega) (by omega) (by omega))) (cwV 2 C.2.2.2.2 gX6_survivor_X6_walkBit rfl rfl rfl (by decide +kernel) ⟨Nat.le_of_ble_eq_true rfl, Nat.le_of_ble_eq_true rfl⟩) [0, 1] rfl rfl rfl ⟨rfl, [], [], 2, rfl, rfl, rfl, by decide +kernel⟩ rfl rfl rfl rfl (Nat.le_of_ble_eq_true rfl) hl.1 dX6_survivor_59 ⟨Nat.zero_le _, Nat.zero_le _⟩ (fun H locs wd => ?_)
          exact z_iret C hr hlk wd (by unfold rdSurM; (repeat (first | rw [if_pos (by omega)] | rw [if_neg (by omega)])); first | done | rfl) dX6_survivor_62
        · skip
          refine z_bipush C dX6_survivor_41 (by decide +kernel) ?_
          refine z_goto C (tgt := 62) dX6_survivor_43 (by decide) ?_
          exact z_iret C hr hlk wd (by unfold rdSurM; (repeat (first | rw [if_pos (by omega)] | rw [if_neg (by omega)])); first | done | rfl) dX6_survivor_62
    · skip
      refine z_bipush C dX6_survivor_14 (by decide +kernel) ?_
      exact z_iret C hr hlk wd (by unfold rdSurM; (repeat (first | rw [if_pos (by omega)] | rw [if_neg (by omega)])); first | done | rfl) dX6_survivor_16
  · skip
    refine z_iconst C dX6_survivor_8 ?_
    exact z_iret C hr hlk wd (by unfold rdSurM; (repeat (first | rw [if_pos (by omega)] | rw [if_neg (by omega)])); first | done | rfl) dX6_survivor_9
set_option maxRecDepth 100000 in
set_option maxHeartbeats 4000000 in
theorem c_X6_wrongBits (l : Launch) (D : va_G) (cy cs : ClassId) (m0 m1 m2 m3 m4 m5 m6 m7 m8 : Nat) (st iss ty : Int) (M : Int → Int) (h7 : 0 ≤ M 7 ∧ M 7 ≤ 80) (h10 : 0 ≤ M 10 ∧ M 10 ≤ 80) (hb1 : ∀ j : Int, 0 ≤ j → j < 80 → 0 ≤ M (12 + j) ∧ M (12 + j) ≤ 1) (hb2 : ∀ j : Int, 0 ≤ j → j < 80 → 0 ≤ M (604 + j) ∧ M (604 + j) ≤ 1) : zCi l D (zT cy cs) yX6_wrongBits wsX6_wrongBits ({ frames := 0, cells := 0, slots := 0, locals := 0 } : Room) [.ref m0] [zO m0 6 [.ref m1, .ref m2, .int (iI st), .ref m3, .int (iI iss), .ref m4, .int (iI ty), .ref m5, .ref m6, .ref m7, .ref m8], zA cy m1 780 M] (rdWrong M) [zO m0 6 [.ref m1, .ref m2, .int (iI st), .ref m3, .int (iI iss), .ref m4, .int (iI ty), .ref m5, .ref m6, .ref m7, .ref m8], zA cy m1 780 M] := by
  intro sz
  refine zM_mk (cc := cX6_wrongBits) (maxL := 3) (ret := (some .int)) (own := RX6) (Qc := fun sz => va_Qi (fun r (_ : Unit) => r = iI (rdWrong M)) (fun _ t => zQ D (zT cy cs) (va_A [zO m0 6 [.ref m1, .ref m2, .int (iI st), .ref m3, .int (iI iss), .ref m4, .int (iI ty), .ref m5, .ref m6, .ref m7, .ref m8], zA cy m1 780 M] sz) [zO m0 6 [.ref m1, .ref m2, .int (iI st), .ref m3, .int (iI iss), .ref m4, .int (iI ty), .ref m5, .ref m6, .ref m7, .ref m8], zA cy m1 780 M] t) (va_A [zO m0 6 [.ref m1, .ref m2, .int (iI st), .ref m3, .int (iI iss), .ref m4, .int (iI ty), .ref m5, .ref m6, .ref m7, .ref m8], zA cy m1 780 M] sz)) (by decide) rfl rfl (Nat.le_of_ble_eq_true rfl) rfl sz ?_
  intro p e s m args below meth c ls C hr hlk hnm hl hsz hA wd
  subst hsz
  have hl : lv_has ls 3 [(0, .ref m0)] := hl
  have iX6 : ∀ w ∈ u_ws RX6 TX6 11, w ∈ wsX6_wrongBits := by decide +kernel
  have L7 := C.2.2.2.2 (.fieldLink RX6 7 "LikelyWalksModel" "now" "[I") (by decide +kernel)
  have hmn := mn_le (M 10) (M 7)
  refine z_iconst C dX6_wrongBits_0 ?_
  refine lv_istore_n (lv' := [(1, .int (iI 0)), (0, .ref m0)]) C.1 C.2.1 dX6_wrongBits_1 rfl hl (by decide) rfl (fun ls hl => ?_)
  refine z_iconst C dX6_wrongBits_2 ?_
  refine lv_istore_n (lv' := [(2, .int (iI 0)), (1, .int (iI 0)), (0, .ref m0)]) C.1 C.2.1 dX6_wrongBits_3 rfl hl (by decide) rfl (fun ls hl => ?_)
  refine z_loop2 (P := fun (x : Int) (k : Int) => (0 ≤ k ∧ k ≤ mn (M 10) (M 7)) ∧ (x = sm (wr1 M) k.toNat)) (mu := fun (x : Int) (k : Int) => (mn (M 10) (M 7) - k).toNat) (ws := fun (x : Int) (k : Int) => [zO m0 6 [.ref m1, .ref m2, .int (iI st), .ref m3, .int (iI iss), .ref m4, .int (iI ty), .ref m5, .ref m6, .ref m7, .ref m8], zA cy m1 780 M]) (lv := fun (x : Int) (k : Int) => [(0, .ref m0), (1, .int (iI x)), (2, .int (iI k))]) 0 0 C ⟨(by omega), rfl⟩ wd (lv_sub hl [2, 1, 0] rfl) ?_
  intro x k hP4 ih4 H locs ls wd hl
  obtain ⟨h4_0, h4_1⟩ := hP4
  try dsimp only at h4_0 h4_1
  have wd : Wd D (zT cy cs) _ s.heap s [zO m0 6 [.ref m1, .ref m2, .int (iI st), .ref m3, .int (iI iss), .ref m4, .int (iI ty), .ref m5, .ref m6, .ref m7, .ref m8], zA cy m1 780 M] H locs := wd
  have hl : lv_has ls 3 [(0, .ref m0), (1, .int (iI x)), (2, .int (iI k))] := hl
  refine lv_iload_n C.1 C.2.1 dX6_wrongBits_4 rfl (lv_at hl 2 rfl) ?_
  refine lv_aload_n C.1 C.2.1 dX6_wrongBits_5 rfl (lv_at hl 0 rfl) ?_
  refine z_get C wd (Cn := RX6) (TT := TX6) (N := 11) (ci := 6) iX6 0 rfl rfl 0 (by decide) L7 (fun _ h => h) rfl dX6_wrongBits_6 ?_
  refine z_bipush C dX6_wrongBits_9 (by decide +kernel) ?_
  refine z_iald C wd 1 rfl (by omega) (by decide) dX6_wrongBits_11 ?_
  refine z_icmp_ge C (tgt := 62) dX6_wrongBits_12 (by decide) (by omega) (fun c_1 => ?_) (fun c_1 => ?_)
  · skip
    refine lv_iload_n C.1 C.2.1 dX6_wrongBits_62 rfl (lv_at hl 1 rfl) ?_
    exact z_iret C hr hlk wd (by rw [h4_1, rdWrong, show k = mn (M 10) (M 7) by omega]) dX6_wrongBits_63
  · skip
    refine lv_iload_n C.1 C.2.1 dX6_wrongBits_15 rfl (lv_at hl 2 rfl) ?_
    refine lv_aload_n C.1 C.2.1 dX6_wrongBits_16 rfl (lv_at hl 0 rfl) ?_
    refine z_get C wd (Cn := RX6) (TT := TX6) (N := 11) (ci := 6) iX6 0 rfl rfl 0 (by decide) L7 (fun _ h => h) rfl dX6_wrongBits_17 ?_
    refine z_bipush C dX6_wrongBits_20 (by decide +kernel) ?_
    refine z_iald C wd 1 rfl (by omega) (by decide) dX6_wrongBits_22 ?_
    refine z_icmp_ge C (tgt := 62) dX6_wrongBits_23 (by decide) (by omega) (fun c_2 => ?_) (fun c_2 => ?_)
    · skip
      refine lv_iload_n C.1 C.2.1 dX6_wrongBits_62 rfl (lv_at hl 1 rfl) ?_
      exact z_iret C hr hlk wd (by rw [h4_1, rdWrong, show k = mn (M 10) (M 7) by omega]) dX6_wrongBits_63
    · skip
      have hx := hb1 k h4_0.1 (by omega)
      have hy := hb2 k h4_0.1 (by omega)
      refine lv_iload_n C.1 C.2.1 dX6_wrongBits_26 rfl (lv_at hl 1 rfl) ?_
      refine lv_aload_n C.1 C.2.1 dX6_wrongBits_27 rfl (lv_at hl 0 rfl) ?_
      refine z_get C wd (Cn := RX6) (TT := TX6) (N := 11) (ci := 6) iX6 0 rfl rfl 0 (by decide) L7 (fun _ h => h) rfl dX6_wrongBits_28 ?_
      refine z_sipush C dX6_wrongBits_31 (by decide +kernel) ?_
      refine lv_iload_n C.1 C.2.1 dX6_wrongBits_34 rfl (lv_at hl 2 rfl) ?_
      refine z_iadd C dX6_wrongBits_35 ?_
      refine z_iald C wd 1 rfl (by omega) (by decide) dX6_wrongBits_36 ?_
      refine lv_aload_n C.1 C.2.1 dX6_wrongBits_37 rfl (lv_at hl 0 rfl) ?_
      refine z_get C wd (Cn := RX6) (TT := TX6) (N := 11) (ci := 6) iX6 0 rfl rfl 0 (by decide) L7 (fun _ h => h) rfl dX6_wrongBits_38 ?_
      refine z_bipush C dX6_wrongBits_41 (by decide +kernel) ?_
      refine lv_iload_n C.1 C.2.1 dX6_wrongBits_43 rfl (lv_at hl 2 rfl) ?_
      refine z_iadd C dX6_wrongBits_44 ?_
      refine z_iald C wd 1 rfl (by omega) (by decide) dX6_wrongBits_45 ?_
      refine z_icmp_ne C (tgt := 53) dX6_wrongBits_46 (by decide) (by omega) (fun c_3 => ?_) (fun c_3 => ?_)
      · skip
        refine z_iconst C dX6_wrongBits_53 ?_
        refine z_iadd C dX6_wrongBits_54 ?_
        refine lv_istore_n (lv' := [(1, .int (iI (x + 1))), (0, .ref m0), (2, .int (iI k))]) C.1 C.2.1 dX6_wrongBits_55 rfl hl (by decide) rfl (fun ls hl => ?_)
        refine z_iinc C (lv' := [(2, .int (iI (k + 1))), (1, .int (iI (x + 1))), (0, .ref m0)]) hl 2 dX6_wrongBits_56 rfl (by decide) rfl (fun ls hl => ?_)
        refine z_goto C (tgt := 4) dX6_wrongBits_59 (by decide) ?_
        exact ih4 (x + 1) (k + 1) ⟨(by omega), (by first | exact sm_one h4_0.1 h4_1 (by first | exact if_pos (show M (604 + k) = M (12 + k) by omega) | exact if_neg (show ¬ M (604 + k) = M (12 + k) by omega)))⟩ (by omega) H locs _ wd (lv_sub hl [2, 1, 0] rfl)
      · skip
        refine z_iconst C dX6_wrongBits_49 ?_
        refine z_goto C (tgt := 54) dX6_wrongBits_50 (by decide) ?_
        refine z_iadd C dX6_wrongBits_54 ?_
        refine lv_istore_n (lv' := [(1, .int (iI (x + 0))), (0, .ref m0), (2, .int (iI k))]) C.1 C.2.1 dX6_wrongBits_55 rfl hl (by decide) rfl (fun ls hl => ?_)
        refine z_iinc C (lv' := [(2, .int (iI (k + 1))), (1, .int (iI (x + 0))), (0, .ref m0)]) hl 2 dX6_wrongBits_56 rfl (by decide) rfl (fun ls hl => ?_)
        refine z_goto C (tgt := 4) dX6_wrongBits_59 (by decide) ?_
        exact ih4 (x + 0) (k + 1) ⟨(by omega), (by first | exact sm_one h4_0.1 h4_1 (by first | exact if_pos (show M (604 + k) = M (12 + k) by omega) | exact if_neg (show ¬ M (604 + k) = M (12 + k) by omega)))⟩ (by omega) H locs _ wd (lv_sub hl [2, 1, 0] rfl)
set_option maxRecDepth 100000 in
set_option maxHeartbeats 4000000 in
theorem c_chE (l : Launch) (D : va_G) (cy cs : ClassId) (m0 m1 m2 m3 m4 m5 m6 m7 m8 : Nat) (st iss ty : Int) (M : Int → Int) (hln : 0 ≤ M 7 * M 1 ∧ M 7 * M 1 ≤ 240) (hli : ∀ j : Int, 0 ≤ j → j < 240 → 0 ≤ M (92 + j) ∧ M (92 + j) ≤ 2) (hwa : ∀ j : Int, 0 ≤ j → j < 240 → 0 ≤ M (332 + j) ∧ M (332 + j) ≤ 1) : zCi l D (zT cy cs) yX6_changedSymbols wsX6_changedSymbols ({ frames := 1, cells := 0, slots := 0, locals := 20 } : Room) [.ref m0, .int (iI 1)] [zO m0 6 [.ref m1, .ref m2, .int (iI st), .ref m3, .int (iI iss), .ref m4, .int (iI ty), .ref m5, .ref m6, .ref m7, .ref m8], zA cy m1 780 M] (cntE M) [zO m0 6 [.ref m1, .ref m2, .int (iI st), .ref m3, .int (iI iss), .ref m4, .int (iI ty), .ref m5, .ref m6, .ref m7, .ref m8], zA cy m1 780 M] := by
  intro sz
  refine zM_mk (cc := cX6_changedSymbols) (maxL := 5) (ret := (some .int)) (own := RX6) (Qc := fun sz => va_Qi (fun r (_ : Unit) => r = iI (cntE M)) (fun _ t => zQ D (zT cy cs) (va_A [zO m0 6 [.ref m1, .ref m2, .int (iI st), .ref m3, .int (iI iss), .ref m4, .int (iI ty), .ref m5, .ref m6, .ref m7, .ref m8], zA cy m1 780 M] sz) [zO m0 6 [.ref m1, .ref m2, .int (iI st), .ref m3, .int (iI iss), .ref m4, .int (iI ty), .ref m5, .ref m6, .ref m7, .ref m8], zA cy m1 780 M] t) (va_A [zO m0 6 [.ref m1, .ref m2, .int (iI st), .ref m3, .int (iI iss), .ref m4, .int (iI ty), .ref m5, .ref m6, .ref m7, .ref m8], zA cy m1 780 M] sz)) (by decide) rfl rfl (Nat.le_of_ble_eq_true rfl) rfl sz ?_
  intro p e s m args below meth c ls C hr hlk hnm hl hsz hA wd
  subst hsz
  have hl : lv_has ls 5 [(0, .ref m0), (1, .int (iI 1))] := hl
  have iX6 : ∀ w ∈ u_ws RX6 TX6 11, w ∈ wsX6_changedSymbols := by decide +kernel
  have L7 := C.2.2.2.2 (.fieldLink RX6 7 "LikelyWalksModel" "now" "[I") (by decide +kernel)
  refine z_iconst C dX6_changedSymbols_0 ?_
  refine lv_istore_n (lv' := [(2, .int (iI 0)), (0, .ref m0), (1, .int (iI 1))]) C.1 C.2.1 dX6_changedSymbols_1 rfl hl (by decide) rfl (fun ls hl => ?_)
  refine z_iconst C dX6_changedSymbols_2 ?_
  refine lv_istore_n (lv' := [(3, .int (iI 0)), (2, .int (iI 0)), (0, .ref m0), (1, .int (iI 1))]) C.1 C.2.1 dX6_changedSymbols_3 rfl hl (by decide) rfl (fun ls hl => ?_)
  refine z_loop2 (P := fun (x : Int) (k : Int) => (0 ≤ k ∧ k ≤ M 7 * M 1) ∧ (x = sm (er1 M) k.toNat)) (mu := fun (x : Int) (k : Int) => (M 7 * M 1 - k).toNat) (ws := fun (x : Int) (k : Int) => [zO m0 6 [.ref m1, .ref m2, .int (iI st), .ref m3, .int (iI iss), .ref m4, .int (iI ty), .ref m5, .ref m6, .ref m7, .ref m8], zA cy m1 780 M]) (lv := fun (x : Int) (k : Int) => [(0, .ref m0), (1, .int (iI 1)), (2, .int (iI x)), (3, .int (iI k))]) 0 0 C ⟨(by omega), rfl⟩ wd (lv_sub hl [2, 3, 1, 0] rfl) ?_
  intro x k hP4 ih4 H locs ls wd hl
  obtain ⟨h4_0, h4_1⟩ := hP4
  try dsimp only at h4_0 h4_1
  have wd : Wd D (zT cy cs) _ s.heap s [zO m0 6 [.ref m1, .ref m2, .int (iI st), .ref m3, .int (iI iss), .ref m4, .int (iI ty), .ref m5, .ref m6, .ref m7, .ref m8], zA cy m1 780 M] H locs := wd
  have hl : lv_has ls 5 [(0, .ref m0), (1, .int (iI 1)), (2, .int (iI x)), (3, .int (iI k))] := hl
  refine lv_iload_n C.1 C.2.1 dX6_changedSymbols_4 rfl (lv_at hl 3 rfl) ?_
  refine lv_aload_n C.1 C.2.1 dX6_changedSymbols_5 rfl (lv_at hl 0 rfl) ?_
  refine z_cvi C wd hA (As := []) (rest := [.int (iI k)]) (ws2 := [zO m0 6 [.ref m1, .ref m2, .int (iI st), .ref m3, .int (iI iss), .ref m4, .int (iI ty), .ref m5, .ref m6, .ref m7, .ref m8], zA cy m1 780 M]) (c_X6_symbols l D cy cs m0 m1 m2 m3 m4 m5 m6 m7 m8 st iss ty M ) (cwV 0 C.2.2.2.2 gX6_changedSymbols_X6_symbols rfl rfl rfl (by decide +kernel) ⟨Nat.le_of_ble_eq_true rfl, Nat.le_of_ble_eq_true rfl⟩) [0, 1] rfl rfl rfl ⟨rfl, [], [], 2, rfl, rfl, rfl, by decide +kernel⟩ rfl rfl rfl rfl (Nat.le_of_ble_eq_true rfl) hl.1 dX6_changedSymbols_6 ⟨Nat.zero_le _, Nat.zero_le _⟩ (fun H locs wd => ?_)
  refine z_icmp_ge C (tgt := 87) dX6_changedSymbols_9 (by decide) (by omega) (fun c_1 => ?_) (fun c_1 => ?_)
  · skip
    refine lv_iload_n C.1 C.2.1 dX6_changedSymbols_87 rfl (lv_at hl 2 rfl) ?_
    exact z_iret C hr hlk wd (by rw [h4_1, cntE, show k = M 7 * M 1 by omega]) dX6_changedSymbols_88
  · skip
    have hx := hli k h4_0.1 (by omega)
    have hy := hwa k h4_0.1 (by omega)
    have hf : er1 M k = if M (92 + k) = 2 then 1 else 0 := rfl
    refine lv_iload_n C.1 C.2.1 dX6_changedSymbols_12 rfl (lv_at hl 1 rfl) ?_
    refine z_if_eq C (tgt := 37) dX6_changedSymbols_13 (by decide) (by omega) (fun c_2 => ?_) (fun c_2 => ?_)
    · skip
      exact False.elim (by omega)
    · skip
      refine lv_aload_n C.1 C.2.1 dX6_changedSymbols_16 rfl (lv_at hl 0 rfl) ?_
      refine z_get C wd (Cn := RX6) (TT := TX6) (N := 11) (ci := 6) iX6 0 rfl rfl 0 (by decide) L7 (fun _ h => h) rfl dX6_changedSymbols_17 ?_
      refine z_bipush C dX6_changedSymbols_20 (by decide +kernel) ?_
      refine lv_iload_n C.1 C.2.1 dX6_changedSymbols_22 rfl (lv_at hl 3 rfl) ?_
      refine z_iadd C dX6_changedSymbols_23 ?_
      refine z_iald C wd 1 rfl (by omega) (by decide) dX6_changedSymbols_24 ?_
      refine z_iconst C dX6_changedSymbols_25 ?_
      refine z_icmp_ne C (tgt := 33) dX6_changedSymbols_26 (by decide) (by omega) (fun c_3 => ?_) (fun c_3 => ?_)
      · skip
        refine z_iconst C dX6_changedSymbols_33 ?_
        refine z_goto C (tgt := 66) dX6_changedSymbols_34 (by decide) ?_
        refine lv_istore (lv' := [(4, .int (iI 0)), (0, .ref m0), (1, .int (iI 1)), (2, .int (iI x)), (3, .int (iI k))]) C.1 C.2.1 dX6_changedSymbols_66 hl (by decide) rfl (fun ls hl => ?_)
        refine lv_iload_n C.1 C.2.1 dX6_changedSymbols_68 rfl (lv_at hl 3 rfl) ?_
        refine lv_iload C.1 C.2.1 dX6_changedSymbols_69 (lv_at hl 0 rfl) ?_
        refine z_if_eq C (tgt := 78) dX6_changedSymbols_71 (by decide) (by omega) (fun c_4 => ?_) (fun c_4 => ?_)
        · skip
          refine z_iconst C dX6_changedSymbols_78 ?_
          refine z_iadd C dX6_changedSymbols_79 ?_
          refine lv_istore_n (lv' := [(2, .int (iI (x + 0))), (4, .int (iI 0)), (0, .ref m0), (1, .int (iI 1)), (3, .int (iI k))]) C.1 C.2.1 dX6_changedSymbols_80 rfl hl (by decide) rfl (fun ls hl => ?_)
          refine z_iinc C (lv' := [(3, .int (iI (k + 1))), (2, .int (iI (x + 0))), (4, .int (iI 0)), (0, .ref m0), (1, .int (iI 1))]) hl 4 dX6_changedSymbols_81 rfl (by decide) rfl (fun ls hl => ?_)
          refine z_goto C (tgt := 4) dX6_changedSymbols_84 (by decide) ?_
          exact ih4 (x + 0) (k + 1) ⟨(by omega), (sm_one h4_0.1 h4_1 (by rw [hf]; first | exact if_pos (by omega) | exact if_neg (by omega)))⟩ (by omega) H locs _ wd (lv_sub hl [3, 4, 1, 0] rfl)
        · skip
          exact False.elim (by omega)
      · skip
        refine z_iconst C dX6_changedSymbols_29 ?_
        refine z_goto C (tgt := 66) dX6_changedSymbols_30 (by decide) ?_
        refine lv_istore (lv' := [(4, .int (iI 1)), (0, .ref m0), (1, .int (iI 1)), (2, .int (iI x)), (3, .int (iI k))]) C.1 C.2.1 dX6_changedSymbols_66 hl (by decide) rfl (fun ls hl => ?_)
        refine lv_iload_n C.1 C.2.1 dX6_changedSymbols_68 rfl (lv_at hl 3 rfl) ?_
        refine lv_iload C.1 C.2.1 dX6_changedSymbols_69 (lv_at hl 0 rfl) ?_
        refine z_if_eq C (tgt := 78) dX6_changedSymbols_71 (by decide) (by omega) (fun c_5 => ?_) (fun c_5 => ?_)
        · skip
          exact False.elim (by omega)
        · skip
          refine z_iconst C dX6_changedSymbols_74 ?_
          refine z_goto C (tgt := 79) dX6_changedSymbols_75 (by decide) ?_
          refine z_iadd C dX6_changedSymbols_79 ?_
          refine lv_istore_n (lv' := [(2, .int (iI (x + 1))), (4, .int (iI 1)), (0, .ref m0), (1, .int (iI 1)), (3, .int (iI k))]) C.1 C.2.1 dX6_changedSymbols_80 rfl hl (by decide) rfl (fun ls hl => ?_)
          refine z_iinc C (lv' := [(3, .int (iI (k + 1))), (2, .int (iI (x + 1))), (4, .int (iI 1)), (0, .ref m0), (1, .int (iI 1))]) hl 4 dX6_changedSymbols_81 rfl (by decide) rfl (fun ls hl => ?_)
          refine z_goto C (tgt := 4) dX6_changedSymbols_84 (by decide) ?_
          exact ih4 (x + 1) (k + 1) ⟨(by omega), (sm_one h4_0.1 h4_1 (by rw [hf]; first | exact if_pos (by omega) | exact if_neg (by omega)))⟩ (by omega) H locs _ wd (lv_sub hl [3, 4, 1, 0] rfl)
set_option maxRecDepth 100000 in
set_option maxHeartbeats 4000000 in
theorem c_chF (l : Launch) (D : va_G) (cy cs : ClassId) (m0 m1 m2 m3 m4 m5 m6 m7 m8 : Nat) (st iss ty : Int) (M : Int → Int) (hln : 0 ≤ M 7 * M 1 ∧ M 7 * M 1 ≤ 240) (hli : ∀ j : Int, 0 ≤ j → j < 240 → 0 ≤ M (92 + j) ∧ M (92 + j) ≤ 2) (hwa : ∀ j : Int, 0 ≤ j → j < 240 → 0 ≤ M (332 + j) ∧ M (332 + j) ≤ 1) : zCi l D (zT cy cs) yX6_changedSymbols wsX6_changedSymbols ({ frames := 1, cells := 0, slots := 0, locals := 20 } : Room) [.ref m0, .int (iI 0)] [zO m0 6 [.ref m1, .ref m2, .int (iI st), .ref m3, .int (iI iss), .ref m4, .int (iI ty), .ref m5, .ref m6, .ref m7, .ref m8], zA cy m1 780 M] (cntF M) [zO m0 6 [.ref m1, .ref m2, .int (iI st), .ref m3, .int (iI iss), .ref m4, .int (iI ty), .ref m5, .ref m6, .ref m7, .ref m8], zA cy m1 780 M] := by
  intro sz
  refine zM_mk (cc := cX6_changedSymbols) (maxL := 5) (ret := (some .int)) (own := RX6) (Qc := fun sz => va_Qi (fun r (_ : Unit) => r = iI (cntF M)) (fun _ t => zQ D (zT cy cs) (va_A [zO m0 6 [.ref m1, .ref m2, .int (iI st), .ref m3, .int (iI iss), .ref m4, .int (iI ty), .ref m5, .ref m6, .ref m7, .ref m8], zA cy m1 780 M] sz) [zO m0 6 [.ref m1, .ref m2, .int (iI st), .ref m3, .int (iI iss), .ref m4, .int (iI ty), .ref m5, .ref m6, .ref m7, .ref m8], zA cy m1 780 M] t) (va_A [zO m0 6 [.ref m1, .ref m2, .int (iI st), .ref m3, .int (iI iss), .ref m4, .int (iI ty), .ref m5, .ref m6, .ref m7, .ref m8], zA cy m1 780 M] sz)) (by decide) rfl rfl (Nat.le_of_ble_eq_true rfl) rfl sz ?_
  intro p e s m args below meth c ls C hr hlk hnm hl hsz hA wd
  subst hsz
  have hl : lv_has ls 5 [(0, .ref m0), (1, .int (iI 0))] := hl
  have iX6 : ∀ w ∈ u_ws RX6 TX6 11, w ∈ wsX6_changedSymbols := by decide +kernel
  have L7 := C.2.2.2.2 (.fieldLink RX6 7 "LikelyWalksModel" "now" "[I") (by decide +kernel)
  refine z_iconst C dX6_changedSymbols_0 ?_
  refine lv_istore_n (lv' := [(2, .int (iI 0)), (0, .ref m0), (1, .int (iI 0))]) C.1 C.2.1 dX6_changedSymbols_1 rfl hl (by decide) rfl (fun ls hl => ?_)
  refine z_iconst C dX6_changedSymbols_2 ?_
  refine lv_istore_n (lv' := [(3, .int (iI 0)), (2, .int (iI 0)), (0, .ref m0), (1, .int (iI 0))]) C.1 C.2.1 dX6_changedSymbols_3 rfl hl (by decide) rfl (fun ls hl => ?_)
  refine z_loop2 (P := fun (x : Int) (k : Int) => (0 ≤ k ∧ k ≤ M 7 * M 1) ∧ (x = sm (fl1 M) k.toNat)) (mu := fun (x : Int) (k : Int) => (M 7 * M 1 - k).toNat) (ws := fun (x : Int) (k : Int) => [zO m0 6 [.ref m1, .ref m2, .int (iI st), .ref m3, .int (iI iss), .ref m4, .int (iI ty), .ref m5, .ref m6, .ref m7, .ref m8], zA cy m1 780 M]) (lv := fun (x : Int) (k : Int) => [(0, .ref m0), (1, .int (iI 0)), (2, .int (iI x)), (3, .int (iI k))]) 0 0 C ⟨(by omega), rfl⟩ wd (lv_sub hl [2, 3, 1, 0] rfl) ?_
  intro x k hP4 ih4 H locs ls wd hl
  obtain ⟨h4_0, h4_1⟩ := hP4
  try dsimp only at h4_0 h4_1
  have wd : Wd D (zT cy cs) _ s.heap s [zO m0 6 [.ref m1, .ref m2, .int (iI st), .ref m3, .int (iI iss), .ref m4, .int (iI ty), .ref m5, .ref m6, .ref m7, .ref m8], zA cy m1 780 M] H locs := wd
  have hl : lv_has ls 5 [(0, .ref m0), (1, .int (iI 0)), (2, .int (iI x)), (3, .int (iI k))] := hl
  refine lv_iload_n C.1 C.2.1 dX6_changedSymbols_4 rfl (lv_at hl 3 rfl) ?_
  refine lv_aload_n C.1 C.2.1 dX6_changedSymbols_5 rfl (lv_at hl 0 rfl) ?_
  refine z_cvi C wd hA (As := []) (rest := [.int (iI k)]) (ws2 := [zO m0 6 [.ref m1, .ref m2, .int (iI st), .ref m3, .int (iI iss), .ref m4, .int (iI ty), .ref m5, .ref m6, .ref m7, .ref m8], zA cy m1 780 M]) (c_X6_symbols l D cy cs m0 m1 m2 m3 m4 m5 m6 m7 m8 st iss ty M ) (cwV 0 C.2.2.2.2 gX6_changedSymbols_X6_symbols rfl rfl rfl (by decide +kernel) ⟨Nat.le_of_ble_eq_true rfl, Nat.le_of_ble_eq_true rfl⟩) [0, 1] rfl rfl rfl ⟨rfl, [], [], 2, rfl, rfl, rfl, by decide +kernel⟩ rfl rfl rfl rfl (Nat.le_of_ble_eq_true rfl) hl.1 dX6_changedSymbols_6 ⟨Nat.zero_le _, Nat.zero_le _⟩ (fun H locs wd => ?_)
  refine z_icmp_ge C (tgt := 87) dX6_changedSymbols_9 (by decide) (by omega) (fun c_1 => ?_) (fun c_1 => ?_)
  · skip
    refine lv_iload_n C.1 C.2.1 dX6_changedSymbols_87 rfl (lv_at hl 2 rfl) ?_
    exact z_iret C hr hlk wd (by rw [h4_1, cntF, show k = M 7 * M 1 by omega]) dX6_changedSymbols_88
  · skip
    have hx := hli k h4_0.1 (by omega)
    have hy := hwa k h4_0.1 (by omega)
    have hf : fl1 M k = if M (92 + k) = 2 ∨ M (92 + k) = M (332 + k) then 0 else 1 := rfl
    refine lv_iload_n C.1 C.2.1 dX6_changedSymbols_12 rfl (lv_at hl 1 rfl) ?_
    refine z_if_eq C (tgt := 37) dX6_changedSymbols_13 (by decide) (by omega) (fun c_2 => ?_) (fun c_2 => ?_)
    · skip
      refine lv_aload_n C.1 C.2.1 dX6_changedSymbols_37 rfl (lv_at hl 0 rfl) ?_
      refine z_get C wd (Cn := RX6) (TT := TX6) (N := 11) (ci := 6) iX6 0 rfl rfl 0 (by decide) L7 (fun _ h => h) rfl dX6_changedSymbols_38 ?_
      refine z_bipush C dX6_changedSymbols_41 (by decide +kernel) ?_
      refine lv_iload_n C.1 C.2.1 dX6_changedSymbols_43 rfl (lv_at hl 3 rfl) ?_
      refine z_iadd C dX6_changedSymbols_44 ?_
      refine z_iald C wd 1 rfl (by omega) (by decide) dX6_changedSymbols_45 ?_
      refine z_iconst C dX6_changedSymbols_46 ?_
      refine lv_aload_n C.1 C.2.1 dX6_changedSymbols_47 rfl (lv_at hl 0 rfl) ?_
      refine z_get C wd (Cn := RX6) (TT := TX6) (N := 11) (ci := 6) iX6 0 rfl rfl 0 (by decide) L7 (fun _ h => h) rfl dX6_changedSymbols_48 ?_
      refine z_sipush C dX6_changedSymbols_51 (by decide +kernel) ?_
      refine lv_iload_n C.1 C.2.1 dX6_changedSymbols_54 rfl (lv_at hl 3 rfl) ?_
      refine z_iadd C dX6_changedSymbols_55 ?_
      refine z_iald C wd 1 rfl (by omega) (by decide) dX6_changedSymbols_56 ?_
      refine z_isub C dX6_changedSymbols_57 ?_
      refine z_icmp_ne C (tgt := 65) dX6_changedSymbols_58 (by decide) (by omega) (fun c_3 => ?_) (fun c_3 => ?_)
      · skip
        refine z_iconst C dX6_changedSymbols_65 ?_
        refine lv_istore (lv' := [(4, .int (iI 0)), (0, .ref m0), (1, .int (iI 0)), (2, .int (iI x)), (3, .int (iI k))]) C.1 C.2.1 dX6_changedSymbols_66 hl (by decide) rfl (fun ls hl => ?_)
        refine lv_iload_n C.1 C.2.1 dX6_changedSymbols_68 rfl (lv_at hl 3 rfl) ?_
        refine lv_iload C.1 C.2.1 dX6_changedSymbols_69 (lv_at hl 0 rfl) ?_
        refine z_if_eq C (tgt := 78) dX6_changedSymbols_71 (by decide) (by omega) (fun c_4 => ?_) (fun c_4 => ?_)
        · skip
          refine z_iconst C dX6_changedSymbols_78 ?_
          refine z_iadd C dX6_changedSymbols_79 ?_
          refine lv_istore_n (lv' := [(2, .int (iI (x + 0))), (4, .int (iI 0)), (0, .ref m0), (1, .int (iI 0)), (3, .int (iI k))]) C.1 C.2.1 dX6_changedSymbols_80 rfl hl (by decide) rfl (fun ls hl => ?_)
          refine z_iinc C (lv' := [(3, .int (iI (k + 1))), (2, .int (iI (x + 0))), (4, .int (iI 0)), (0, .ref m0), (1, .int (iI 0))]) hl 4 dX6_changedSymbols_81 rfl (by decide) rfl (fun ls hl => ?_)
          refine z_goto C (tgt := 4) dX6_changedSymbols_84 (by decide) ?_
          exact ih4 (x + 0) (k + 1) ⟨(by omega), (sm_one h4_0.1 h4_1 (by rw [hf]; first | exact if_pos (by omega) | exact if_neg (by omega)))⟩ (by omega) H locs _ wd (lv_sub hl [3, 4, 1, 0] rfl)
        · skip
          exact False.elim (by omega)
      · skip
        refine z_iconst C dX6_changedSymbols_61 ?_
        refine z_goto C (tgt := 66) dX6_changedSymbols_62 (by decide) ?_
        refine lv_istore (lv' := [(4, .int (iI 1)), (0, .ref m0), (1, .int (iI 0)), (2, .int (iI x)), (3, .int (iI k))]) C.1 C.2.1 dX6_changedSymbols_66 hl (by decide) rfl (fun ls hl => ?_)
        refine lv_iload_n C.1 C.2.1 dX6_changedSymbols_68 rfl (lv_at hl 3 rfl) ?_
        refine lv_iload C.1 C.2.1 dX6_changedSymbols_69 (lv_at hl 0 rfl) ?_
        refine z_if_eq C (tgt := 78) dX6_changedSymbols_71 (by decide) (by omega) (fun c_5 => ?_) (fun c_5 => ?_)
        · skip
          exact False.elim (by omega)
        · skip
          refine z_iconst C dX6_changedSymbols_74 ?_
          refine z_goto C (tgt := 79) dX6_changedSymbols_75 (by decide) ?_
          refine z_iadd C dX6_changedSymbols_79 ?_
          refine lv_istore_n (lv' := [(2, .int (iI (x + 1))), (4, .int (iI 1)), (0, .ref m0), (1, .int (iI 0)), (3, .int (iI k))]) C.1 C.2.1 dX6_changedSymbols_80 rfl hl (by decide) rfl (fun ls hl => ?_)
          refine z_iinc C (lv' := [(3, .int (iI (k + 1))), (2, .int (iI (x + 1))), (4, .int (iI 1)), (0, .ref m0), (1, .int (iI 0))]) hl 4 dX6_changedSymbols_81 rfl (by decide) rfl (fun ls hl => ?_)
          refine z_goto C (tgt := 4) dX6_changedSymbols_84 (by decide) ?_
          exact ih4 (x + 1) (k + 1) ⟨(by omega), (sm_one h4_0.1 h4_1 (by rw [hf]; first | exact if_pos (by omega) | exact if_neg (by omega)))⟩ (by omega) H locs _ wd (lv_sub hl [3, 4, 1, 0] rfl)
    · skip
      exact False.elim (by omega)
set_option maxRecDepth 100000 in
set_option maxHeartbeats 4000000 in
theorem c_X6_reached (l : Launch) (D : va_G) (cy cs : ClassId) (m0 m1 m2 m3 m4 m5 m6 m7 m8 : Nat) (st iss ty : Int) (M : Int → Int) (hm : 1 ≤ M 0 ∧ M 0 ≤ 5) (hme : ∀ k : Int, 0 ≤ k → k < 32 → -1 ≤ M (572 + k) ∧ M (572 + k) ≤ 1000) : zCi l D (zT cy cs) yX6_reached wsX6_reached ({ frames := 1, cells := 0, slots := 0, locals := 20 } : Room) [.ref m0] [zO m0 6 [.ref m1, .ref m2, .int (iI st), .ref m3, .int (iI iss), .ref m4, .int (iI ty), .ref m5, .ref m6, .ref m7, .ref m8], zA cy m1 780 M] (sm (rB (sl M 572)) (p2 (M 0)).toNat) [zO m0 6 [.ref m1, .ref m2, .int (iI st), .ref m3, .int (iI iss), .ref m4, .int (iI ty), .ref m5, .ref m6, .ref m7, .ref m8], zA cy m1 780 M] := by
  intro sz
  refine zM_mk (cc := cX6_reached) (maxL := 3) (ret := (some .int)) (own := RX6) (Qc := fun sz => va_Qi (fun r (_ : Unit) => r = iI (sm (rB (sl M 572)) (p2 (M 0)).toNat)) (fun _ t => zQ D (zT cy cs) (va_A [zO m0 6 [.ref m1, .ref m2, .int (iI st), .ref m3, .int (iI iss), .ref m4, .int (iI ty), .ref m5, .ref m6, .ref m7, .ref m8], zA cy m1 780 M] sz) [zO m0 6 [.ref m1, .ref m2, .int (iI st), .ref m3, .int (iI iss), .ref m4, .int (iI ty), .ref m5, .ref m6, .ref m7, .ref m8], zA cy m1 780 M] t) (va_A [zO m0 6 [.ref m1, .ref m2, .int (iI st), .ref m3, .int (iI iss), .ref m4, .int (iI ty), .ref m5, .ref m6, .ref m7, .ref m8], zA cy m1 780 M] sz)) (by decide) rfl rfl (Nat.le_of_ble_eq_true rfl) rfl sz ?_
  intro p e s m args below meth c ls C hr hlk hnm hl hsz hA wd
  subst hsz
  have hl : lv_has ls 3 [(0, .ref m0)] := hl
  have iX6 : ∀ w ∈ u_ws RX6 TX6 11, w ∈ wsX6_reached := by decide +kernel
  have L7 := C.2.2.2.2 (.fieldLink RX6 7 "LikelyWalksModel" "now" "[I") (by decide +kernel)
  have hp := p2_all hm.1 hm.2
  refine z_iconst C dX6_reached_0 ?_
  refine lv_istore_n (lv' := [(1, .int (iI 0)), (0, .ref m0)]) C.1 C.2.1 dX6_reached_1 rfl hl (by decide) rfl (fun ls hl => ?_)
  refine z_iconst C dX6_reached_2 ?_
  refine lv_istore_n (lv' := [(2, .int (iI 0)), (1, .int (iI 0)), (0, .ref m0)]) C.1 C.2.1 dX6_reached_3 rfl hl (by decide) rfl (fun ls hl => ?_)
  refine z_loop2 (P := fun (x : Int) (k : Int) => (0 ≤ k ∧ k ≤ p2 (M 0)) ∧ (x = sm (rB (sl M 572)) k.toNat)) (mu := fun (x : Int) (k : Int) => (p2 (M 0) - k).toNat) (ws := fun (x : Int) (k : Int) => [zO m0 6 [.ref m1, .ref m2, .int (iI st), .ref m3, .int (iI iss), .ref m4, .int (iI ty), .ref m5, .ref m6, .ref m7, .ref m8], zA cy m1 780 M]) (lv := fun (x : Int) (k : Int) => [(0, .ref m0), (1, .int (iI x)), (2, .int (iI k))]) 0 0 C ⟨(by omega), rfl⟩ wd (lv_sub hl [2, 1, 0] rfl) ?_
  intro x k hP4 ih4 H locs ls wd hl
  obtain ⟨h4_0, h4_1⟩ := hP4
  try dsimp only at h4_0 h4_1
  have wd : Wd D (zT cy cs) _ s.heap s [zO m0 6 [.ref m1, .ref m2, .int (iI st), .ref m3, .int (iI iss), .ref m4, .int (iI ty), .ref m5, .ref m6, .ref m7, .ref m8], zA cy m1 780 M] H locs := wd
  have hl : lv_has ls 3 [(0, .ref m0), (1, .int (iI x)), (2, .int (iI k))] := hl
  refine lv_iload_n C.1 C.2.1 dX6_reached_4 rfl (lv_at hl 2 rfl) ?_
  refine lv_aload_n C.1 C.2.1 dX6_reached_5 rfl (lv_at hl 0 rfl) ?_
  refine z_cvi C wd hA (As := []) (rest := [.int (iI k)]) (ws2 := [zO m0 6 [.ref m1, .ref m2, .int (iI st), .ref m3, .int (iI iss), .ref m4, .int (iI ty), .ref m5, .ref m6, .ref m7, .ref m8], zA cy m1 780 M]) (c_X6_registers l D cy cs m0 m1 m2 m3 m4 m5 m6 m7 m8 st iss ty M (by omega)) (cwV 0 C.2.2.2.2 gX6_reached_X6_registers rfl rfl rfl (by decide +kernel) ⟨Nat.le_of_ble_eq_true rfl, Nat.le_of_ble_eq_true rfl⟩) [0, 1] rfl rfl rfl ⟨rfl, [], [], 2, rfl, rfl, rfl, by decide +kernel⟩ rfl rfl rfl rfl (Nat.le_of_ble_eq_true rfl) hl.1 dX6_reached_6 ⟨Nat.zero_le _, Nat.zero_le _⟩ (fun H locs wd => ?_)
  refine z_icmp_ge C (tgt := 39) dX6_reached_9 (by decide) (by omega) (fun c_1 => ?_) (fun c_1 => ?_)
  · skip
    refine lv_iload_n C.1 C.2.1 dX6_reached_39 rfl (lv_at hl 1 rfl) ?_
    exact z_iret C hr hlk wd (by rw [h4_1, show k = p2 (M 0) by omega]) dX6_reached_40
  · skip
    have hx := hme k h4_0.1 (by omega)
    have hf : rB (sl M 572) k = if M (572 + k) = -1 then 0 else 1 := rfl
    refine lv_iload_n C.1 C.2.1 dX6_reached_12 rfl (lv_at hl 1 rfl) ?_
    refine lv_aload_n C.1 C.2.1 dX6_reached_13 rfl (lv_at hl 0 rfl) ?_
    refine z_get C wd (Cn := RX6) (TT := TX6) (N := 11) (ci := 6) iX6 0 rfl rfl 0 (by decide) L7 (fun _ h => h) rfl dX6_reached_14 ?_
    refine z_sipush C dX6_reached_17 (by decide +kernel) ?_
    refine lv_iload_n C.1 C.2.1 dX6_reached_20 rfl (lv_at hl 2 rfl) ?_
    refine z_iadd C dX6_reached_21 ?_
    refine z_iald C wd 1 rfl (by omega) (by decide) dX6_reached_22 ?_
    refine z_if_ge C (tgt := 30) dX6_reached_23 (by decide) (by omega) (fun c_2 => ?_) (fun c_2 => ?_)
    · skip
      refine z_iconst C dX6_reached_30 ?_
      refine z_iadd C dX6_reached_31 ?_
      refine lv_istore_n (lv' := [(1, .int (iI (x + 1))), (0, .ref m0), (2, .int (iI k))]) C.1 C.2.1 dX6_reached_32 rfl hl (by decide) rfl (fun ls hl => ?_)
      refine z_iinc C (lv' := [(2, .int (iI (k + 1))), (1, .int (iI (x + 1))), (0, .ref m0)]) hl 2 dX6_reached_33 rfl (by decide) rfl (fun ls hl => ?_)
      refine z_goto C (tgt := 4) dX6_reached_36 (by decide) ?_
      exact ih4 (x + 1) (k + 1) ⟨(by omega), (sm_one h4_0.1 h4_1 (by rw [hf]; first | exact if_pos (by omega) | exact if_neg (by omega)))⟩ (by omega) H locs _ wd (lv_sub hl [2, 1, 0] rfl)
    · skip
      refine z_iconst C dX6_reached_26 ?_
      refine z_goto C (tgt := 31) dX6_reached_27 (by decide) ?_
      refine z_iadd C dX6_reached_31 ?_
      refine lv_istore_n (lv' := [(1, .int (iI (x + 0))), (0, .ref m0), (2, .int (iI k))]) C.1 C.2.1 dX6_reached_32 rfl hl (by decide) rfl (fun ls hl => ?_)
      refine z_iinc C (lv' := [(2, .int (iI (k + 1))), (1, .int (iI (x + 0))), (0, .ref m0)]) hl 2 dX6_reached_33 rfl (by decide) rfl (fun ls hl => ?_)
      refine z_goto C (tgt := 4) dX6_reached_36 (by decide) ?_
      exact ih4 (x + 0) (k + 1) ⟨(by omega), (sm_one h4_0.1 h4_1 (by rw [hf]; first | exact if_pos (by omega) | exact if_neg (by omega)))⟩ (by omega) H locs _ wd (lv_sub hl [2, 1, 0] rfl)
set_option maxRecDepth 100000 in
set_option maxHeartbeats 4000000 in
theorem c_X6_count (l : Launch) (D : va_G) (cy cs : ClassId) (m0 m1 m2 m3 m4 m5 m6 m7 m8 : Nat) (st iss ty : Int) (M : Int → Int) (x : Int) (hm : 1 ≤ M 0 ∧ M 0 ≤ 5) (ho : 2 ≤ M 1 ∧ M 1 ≤ 3) (hme : ∀ k : Int, 0 ≤ k → k < 32 → -1 ≤ M (572 + k) ∧ M (572 + k) ≤ 1000) (hln : 0 ≤ M 7 * M 1 ∧ M 7 * M 1 ≤ 240) (hli : ∀ j : Int, 0 ≤ j → j < 240 → 0 ≤ M (92 + j) ∧ M (92 + j) ≤ 2) (hwa : ∀ j : Int, 0 ≤ j → j < 240 → 0 ≤ M (332 + j) ∧ M (332 + j) ≤ 1) (hx : -2147483648 ≤ x ∧ x < 2147483648) (hbs : 0 ≤ bst (sl M 572) (p2 (M 0)).toNat) : zCi l D (zT cy cs) yX6_count wsX6_count ({ frames := 2, cells := 0, slots := 0, locals := 44 } : Room) [.ref m0, .int (iI x)] [zO m0 6 [.ref m1, .ref m2, .int (iI st), .ref m3, .int (iI iss), .ref m4, .int (iI ty), .ref m5, .ref m6, .ref m7, .ref m8], zA cy m1 780 M] (rdCount M st ty x) [zO m0 6 [.ref m1, .ref m2, .int (iI st), .ref m3, .int (iI iss), .ref m4, .int (iI ty), .ref m5, .ref m6, .ref m7, .ref m8], zA cy m1 780 M] := by
  intro sz
  refine zM_mk (cc := cX6_count) (maxL := 2) (ret := (some .int)) (own := RX6) (Qc := fun sz => va_Qi (fun r (_ : Unit) => r = iI (rdCount M st ty x)) (fun _ t => zQ D (zT cy cs) (va_A [zO m0 6 [.ref m1, .ref m2, .int (iI st), .ref m3, .int (iI iss), .ref m4, .int (iI ty), .ref m5, .ref m6, .ref m7, .ref m8], zA cy m1 780 M] sz) [zO m0 6 [.ref m1, .ref m2, .int (iI st), .ref m3, .int (iI iss), .ref m4, .int (iI ty), .ref m5, .ref m6, .ref m7, .ref m8], zA cy m1 780 M] t) (va_A [zO m0 6 [.ref m1, .ref m2, .int (iI st), .ref m3, .int (iI iss), .ref m4, .int (iI ty), .ref m5, .ref m6, .ref m7, .ref m8], zA cy m1 780 M] sz)) (by decide) rfl rfl (Nat.le_of_ble_eq_true rfl) rfl sz ?_
  intro p e s m args below meth c ls C hr hlk hnm hl hsz hA wd
  subst hsz
  have hl : lv_has ls 2 [(0, .ref m0), (1, .int (iI x))] := hl
  have iX6 : ∀ w ∈ u_ws RX6 TX6 11, w ∈ wsX6_count := by decide +kernel
  have L7 := C.2.2.2.2 (.fieldLink RX6 7 "LikelyWalksModel" "now" "[I") (by decide +kernel)
  have L37 := C.2.2.2.2 (.fieldLink RX6 37 "LikelyWalksModel" "states" "I") (by decide +kernel)
  have L56 := C.2.2.2.2 (.fieldLink RX6 56 "LikelyWalksModel" "typed" "I") (by decide +kernel)
  have hp := p2_all hm.1 hm.2
  have hbb := bst_le (sl M 572) (p2 (M 0)).toNat
  refine lv_iload_n C.1 C.2.1 dX6_count_0 rfl (lv_at hl 1 rfl) ?_
  rcases Int.lt_or_le x 0 with c_1 | c_1
  · skip
    refine lv_tableOut (tgt := 220) C.1 C.2.1 dX6_count_1 (Or.inl (by rw [iI_toInt (by omega) (by omega)]; exact c_1)) (by decide) ?_
    refine z_bipush C dX6_count_220 (by decide +kernel) ?_
    exact z_iret C hr hlk wd (by unfold rdCount; (repeat (first | rw [if_pos (by omega)] | rw [if_neg (by omega)])); first | done | rfl | omega) dX6_count_222
  rcases Int.lt_or_le 18 x with c_1 | c_1b
  · skip
    refine lv_tableOut (tgt := 220) C.1 C.2.1 dX6_count_1 (Or.inr (by rw [iI_toInt (by omega) (by omega)]; exact c_1)) (by decide) ?_
    refine z_bipush C dX6_count_220 (by decide +kernel) ?_
    exact z_iret C hr hlk wd (by unfold rdCount; (repeat (first | rw [if_pos (by omega)] | rw [if_neg (by omega)])); first | done | rfl | omega) dX6_count_222
  rcases (show x = 0 ∨ x = 1 ∨ x = 2 ∨ x = 3 ∨ x = 4 ∨ x = 5 ∨ x = 6 ∨ x = 7 ∨ x = 8 ∨ x = 9 ∨ x = 10 ∨ x = 11 ∨ x = 12 ∨ x = 13 ∨ x = 14 ∨ x = 15 ∨ x = 16 ∨ x = 17 ∨ x = 18 by omega) with c_1c | c_1c | c_1c | c_1c | c_1c | c_1c | c_1c | c_1c | c_1c | c_1c | c_1c | c_1c | c_1c | c_1c | c_1c | c_1c | c_1c | c_1c | c_1c
  · skip
    refine lv_tableIn (tgt := 92) (off := 91) C.1 C.2.1 dX6_count_1 (by rw [iI_toInt (by omega) (by omega)]; omega) (by rw [iI_toInt (by omega) (by omega)]; omega) (by rw [iI_toInt (by omega) (by omega), c_1c]; rfl) (by decide) ?_
    refine lv_iload_n C.1 C.2.1 dX6_count_92 rfl (lv_at hl 1 rfl) ?_
    refine z_bipush C dX6_count_93 (by decide +kernel) ?_
    refine z_icmp_ne C (tgt := 108) dX6_count_95 (by decide) (by omega) (fun c_2 => ?_) (fun c_2 => ?_)
    · skip
      refine lv_aload_n C.1 C.2.1 dX6_count_108 rfl (lv_at hl 0 rfl) ?_
      refine z_get C wd (Cn := RX6) (TT := TX6) (N := 11) (ci := 6) iX6 0 rfl rfl 0 (by decide) L7 (fun _ h => h) rfl dX6_count_109 ?_
      refine lv_iload_n C.1 C.2.1 dX6_count_112 rfl (lv_at hl 1 rfl) ?_
      refine z_iald C wd 1 rfl (by omega) (by decide) dX6_count_113 ?_
      exact z_iret C hr hlk wd (by unfold rdCount; first | (rcases (show x = 0 ∨ x = 1 ∨ x = 2 ∨ x = 3 ∨ x = 5 ∨ x = 6 by omega) with rfl | rfl | rfl | rfl | rfl | rfl <;> first | rfl | (exfalso; omega))) dX6_count_114
    · skip
      refine lv_aload_n C.1 C.2.1 dX6_count_98 rfl (lv_at hl 0 rfl) ?_
      refine z_get C wd (Cn := RX6) (TT := TX6) (N := 11) (ci := 6) iX6 0 rfl rfl 0 (by decide) L7 (fun _ h => h) rfl dX6_count_99 ?_
      refine z_bipush C dX6_count_102 (by decide +kernel) ?_
      refine z_iald C wd 1 rfl (by omega) (by decide) dX6_count_104 ?_
      refine z_goto C (tgt := 114) dX6_count_105 (by decide) ?_
      exact z_iret C hr hlk wd (by unfold rdCount; first | (rcases (show x = 0 ∨ x = 1 ∨ x = 2 ∨ x = 3 ∨ x = 5 ∨ x = 6 by omega) with rfl | rfl | rfl | rfl | rfl | rfl <;> first | rfl | (exfalso; omega))) dX6_count_114
  · skip
    refine lv_tableIn (tgt := 92) (off := 91) C.1 C.2.1 dX6_count_1 (by rw [iI_toInt (by omega) (by omega)]; omega) (by rw [iI_toInt (by omega) (by omega)]; omega) (by rw [iI_toInt (by omega) (by omega), c_1c]; rfl) (by decide) ?_
    refine lv_iload_n C.1 C.2.1 dX6_count_92 rfl (lv_at hl 1 rfl) ?_
    refine z_bipush C dX6_count_93 (by decide +kernel) ?_
    refine z_icmp_ne C (tgt := 108) dX6_count_95 (by decide) (by omega) (fun c_3 => ?_) (fun c_3 => ?_)
    · skip
      refine lv_aload_n C.1 C.2.1 dX6_count_108 rfl (lv_at hl 0 rfl) ?_
      refine z_get C wd (Cn := RX6) (TT := TX6) (N := 11) (ci := 6) iX6 0 rfl rfl 0 (by decide) L7 (fun _ h => h) rfl dX6_count_109 ?_
      refine lv_iload_n C.1 C.2.1 dX6_count_112 rfl (lv_at hl 1 rfl) ?_
      refine z_iald C wd 1 rfl (by omega) (by decide) dX6_count_113 ?_
      exact z_iret C hr hlk wd (by unfold rdCount; first | (rcases (show x = 0 ∨ x = 1 ∨ x = 2 ∨ x = 3 ∨ x = 5 ∨ x = 6 by omega) with rfl | rfl | rfl | rfl | rfl | rfl <;> first | rfl | (exfalso; omega))) dX6_count_114
    · skip
      refine lv_aload_n C.1 C.2.1 dX6_count_98 rfl (lv_at hl 0 rfl) ?_
      refine z_get C wd (Cn := RX6) (TT := TX6) (N := 11) (ci := 6) iX6 0 rfl rfl 0 (by decide) L7 (fun _ h => h) rfl dX6_count_99 ?_
      refine z_bipush C dX6_count_102 (by decide +kernel) ?_
      refine z_iald C wd 1 rfl (by omega) (by decide) dX6_count_104 ?_
      refine z_goto C (tgt := 114) dX6_count_105 (by decide) ?_
      exact z_iret C hr hlk wd (by unfold rdCount; first | (rcases (show x = 0 ∨ x = 1 ∨ x = 2 ∨ x = 3 ∨ x = 5 ∨ x = 6 by omega) with rfl | rfl | rfl | rfl | rfl | rfl <;> first | rfl | (exfalso; omega))) dX6_count_114
  · skip
    refine lv_tableIn (tgt := 92) (off := 91) C.1 C.2.1 dX6_count_1 (by rw [iI_toInt (by omega) (by omega)]; omega) (by rw [iI_toInt (by omega) (by omega)]; omega) (by rw [iI_toInt (by omega) (by omega), c_1c]; rfl) (by decide) ?_
    refine lv_iload_n C.1 C.2.1 dX6_count_92 rfl (lv_at hl 1 rfl) ?_
    refine z_bipush C dX6_count_93 (by decide +kernel) ?_
    refine z_icmp_ne C (tgt := 108) dX6_count_95 (by decide) (by omega) (fun c_4 => ?_) (fun c_4 => ?_)
    · skip
      refine lv_aload_n C.1 C.2.1 dX6_count_108 rfl (lv_at hl 0 rfl) ?_
      refine z_get C wd (Cn := RX6) (TT := TX6) (N := 11) (ci := 6) iX6 0 rfl rfl 0 (by decide) L7 (fun _ h => h) rfl dX6_count_109 ?_
      refine lv_iload_n C.1 C.2.1 dX6_count_112 rfl (lv_at hl 1 rfl) ?_
      refine z_iald C wd 1 rfl (by omega) (by decide) dX6_count_113 ?_
      exact z_iret C hr hlk wd (by unfold rdCount; first | (rcases (show x = 0 ∨ x = 1 ∨ x = 2 ∨ x = 3 ∨ x = 5 ∨ x = 6 by omega) with rfl | rfl | rfl | rfl | rfl | rfl <;> first | rfl | (exfalso; omega))) dX6_count_114
    · skip
      refine lv_aload_n C.1 C.2.1 dX6_count_98 rfl (lv_at hl 0 rfl) ?_
      refine z_get C wd (Cn := RX6) (TT := TX6) (N := 11) (ci := 6) iX6 0 rfl rfl 0 (by decide) L7 (fun _ h => h) rfl dX6_count_99 ?_
      refine z_bipush C dX6_count_102 (by decide +kernel) ?_
      refine z_iald C wd 1 rfl (by omega) (by decide) dX6_count_104 ?_
      refine z_goto C (tgt := 114) dX6_count_105 (by decide) ?_
      exact z_iret C hr hlk wd (by unfold rdCount; first | (rcases (show x = 0 ∨ x = 1 ∨ x = 2 ∨ x = 3 ∨ x = 5 ∨ x = 6 by omega) with rfl | rfl | rfl | rfl | rfl | rfl <;> first | rfl | (exfalso; omega))) dX6_count_114
  · skip
    refine lv_tableIn (tgt := 92) (off := 91) C.1 C.2.1 dX6_count_1 (by rw [iI_toInt (by omega) (by omega)]; omega) (by rw [iI_toInt (by omega) (by omega)]; omega) (by rw [iI_toInt (by omega) (by omega), c_1c]; rfl) (by decide) ?_
    refine lv_iload_n C.1 C.2.1 dX6_count_92 rfl (lv_at hl 1 rfl) ?_
    refine z_bipush C dX6_count_93 (by decide +kernel) ?_
    refine z_icmp_ne C (tgt := 108) dX6_count_95 (by decide) (by omega) (fun c_5 => ?_) (fun c_5 => ?_)
    · skip
      refine lv_aload_n C.1 C.2.1 dX6_count_108 rfl (lv_at hl 0 rfl) ?_
      refine z_get C wd (Cn := RX6) (TT := TX6) (N := 11) (ci := 6) iX6 0 rfl rfl 0 (by decide) L7 (fun _ h => h) rfl dX6_count_109 ?_
      refine lv_iload_n C.1 C.2.1 dX6_count_112 rfl (lv_at hl 1 rfl) ?_
      refine z_iald C wd 1 rfl (by omega) (by decide) dX6_count_113 ?_
      exact z_iret C hr hlk wd (by unfold rdCount; first | (rcases (show x = 0 ∨ x = 1 ∨ x = 2 ∨ x = 3 ∨ x = 5 ∨ x = 6 by omega) with rfl | rfl | rfl | rfl | rfl | rfl <;> first | rfl | (exfalso; omega))) dX6_count_114
    · skip
      refine lv_aload_n C.1 C.2.1 dX6_count_98 rfl (lv_at hl 0 rfl) ?_
      refine z_get C wd (Cn := RX6) (TT := TX6) (N := 11) (ci := 6) iX6 0 rfl rfl 0 (by decide) L7 (fun _ h => h) rfl dX6_count_99 ?_
      refine z_bipush C dX6_count_102 (by decide +kernel) ?_
      refine z_iald C wd 1 rfl (by omega) (by decide) dX6_count_104 ?_
      refine z_goto C (tgt := 114) dX6_count_105 (by decide) ?_
      exact z_iret C hr hlk wd (by unfold rdCount; first | (rcases (show x = 0 ∨ x = 1 ∨ x = 2 ∨ x = 3 ∨ x = 5 ∨ x = 6 by omega) with rfl | rfl | rfl | rfl | rfl | rfl <;> first | rfl | (exfalso; omega))) dX6_count_114
  · skip
    refine lv_tableIn (tgt := 115) (off := 114) C.1 C.2.1 dX6_count_1 (by rw [iI_toInt (by omega) (by omega)]; omega) (by rw [iI_toInt (by omega) (by omega)]; omega) (by rw [iI_toInt (by omega) (by omega), c_1c]; rfl) (by decide) ?_
    refine lv_aload_n C.1 C.2.1 dX6_count_115 rfl (lv_at hl 0 rfl) ?_
    refine z_get C wd (Cn := RX6) (TT := TX6) (N := 11) (ci := 6) iX6 0 rfl rfl 0 (by decide) L7 (fun _ h => h) rfl dX6_count_116 ?_
    refine z_iconst C dX6_count_119 ?_
    refine z_iald C wd 1 rfl (by omega) (by decide) dX6_count_120 ?_
    refine z_iconst C dX6_count_121 ?_
    refine z_icmp_ne C (tgt := 130) dX6_count_122 (by decide) (by omega) (fun c_6 => ?_) (fun c_6 => ?_)
    · skip
      refine lv_aload_n C.1 C.2.1 dX6_count_130 rfl (lv_at hl 0 rfl) ?_
      refine z_get C wd (Cn := RX6) (TT := TX6) (N := 11) (ci := 6) iX6 0 rfl rfl 0 (by decide) L7 (fun _ h => h) rfl dX6_count_131 ?_
      refine z_iconst C dX6_count_134 ?_
      refine z_iald C wd 1 rfl (by omega) (by decide) dX6_count_135 ?_
      exact z_iret C hr hlk wd (by unfold rdCount; (repeat (first | rw [if_pos (by omega)] | rw [if_neg (by omega)])); first | done | rfl | omega) dX6_count_136
    · skip
      refine z_bipush C dX6_count_125 (by decide +kernel) ?_
      refine z_goto C (tgt := 136) dX6_count_127 (by decide) ?_
      exact z_iret C hr hlk wd (by unfold rdCount; (repeat (first | rw [if_pos (by omega)] | rw [if_neg (by omega)])); first | done | rfl | omega) dX6_count_136
  · skip
    refine lv_tableIn (tgt := 92) (off := 91) C.1 C.2.1 dX6_count_1 (by rw [iI_toInt (by omega) (by omega)]; omega) (by rw [iI_toInt (by omega) (by omega)]; omega) (by rw [iI_toInt (by omega) (by omega), c_1c]; rfl) (by decide) ?_
    refine lv_iload_n C.1 C.2.1 dX6_count_92 rfl (lv_at hl 1 rfl) ?_
    refine z_bipush C dX6_count_93 (by decide +kernel) ?_
    refine z_icmp_ne C (tgt := 108) dX6_count_95 (by decide) (by omega) (fun c_7 => ?_) (fun c_7 => ?_)
    · skip
      refine lv_aload_n C.1 C.2.1 dX6_count_108 rfl (lv_at hl 0 rfl) ?_
      refine z_get C wd (Cn := RX6) (TT := TX6) (N := 11) (ci := 6) iX6 0 rfl rfl 0 (by decide) L7 (fun _ h => h) rfl dX6_count_109 ?_
      refine lv_iload_n C.1 C.2.1 dX6_count_112 rfl (lv_at hl 1 rfl) ?_
      refine z_iald C wd 1 rfl (by omega) (by decide) dX6_count_113 ?_
      exact z_iret C hr hlk wd (by unfold rdCount; first | (rcases (show x = 0 ∨ x = 1 ∨ x = 2 ∨ x = 3 ∨ x = 5 ∨ x = 6 by omega) with rfl | rfl | rfl | rfl | rfl | rfl <;> first | rfl | (exfalso; omega))) dX6_count_114
    · skip
      refine lv_aload_n C.1 C.2.1 dX6_count_98 rfl (lv_at hl 0 rfl) ?_
      refine z_get C wd (Cn := RX6) (TT := TX6) (N := 11) (ci := 6) iX6 0 rfl rfl 0 (by decide) L7 (fun _ h => h) rfl dX6_count_99 ?_
      refine z_bipush C dX6_count_102 (by decide +kernel) ?_
      refine z_iald C wd 1 rfl (by omega) (by decide) dX6_count_104 ?_
      refine z_goto C (tgt := 114) dX6_count_105 (by decide) ?_
      exact z_iret C hr hlk wd (by unfold rdCount; first | (rcases (show x = 0 ∨ x = 1 ∨ x = 2 ∨ x = 3 ∨ x = 5 ∨ x = 6 by omega) with rfl | rfl | rfl | rfl | rfl | rfl <;> first | rfl | (exfalso; omega))) dX6_count_114
  · skip
    refine lv_tableIn (tgt := 92) (off := 91) C.1 C.2.1 dX6_count_1 (by rw [iI_toInt (by omega) (by omega)]; omega) (by rw [iI_toInt (by omega) (by omega)]; omega) (by rw [iI_toInt (by omega) (by omega), c_1c]; rfl) (by decide) ?_
    refine lv_iload_n C.1 C.2.1 dX6_count_92 rfl (lv_at hl 1 rfl) ?_
    refine z_bipush C dX6_count_93 (by decide +kernel) ?_
    refine z_icmp_ne C (tgt := 108) dX6_count_95 (by decide) (by omega) (fun c_8 => ?_) (fun c_8 => ?_)
    · skip
      refine lv_aload_n C.1 C.2.1 dX6_count_108 rfl (lv_at hl 0 rfl) ?_
      refine z_get C wd (Cn := RX6) (TT := TX6) (N := 11) (ci := 6) iX6 0 rfl rfl 0 (by decide) L7 (fun _ h => h) rfl dX6_count_109 ?_
      refine lv_iload_n C.1 C.2.1 dX6_count_112 rfl (lv_at hl 1 rfl) ?_
      refine z_iald C wd 1 rfl (by omega) (by decide) dX6_count_113 ?_
      exact z_iret C hr hlk wd (by unfold rdCount; first | (rcases (show x = 0 ∨ x = 1 ∨ x = 2 ∨ x = 3 ∨ x = 5 ∨ x = 6 by omega) with rfl | rfl | rfl | rfl | rfl | rfl <;> first | rfl | (exfalso; omega))) dX6_count_114
    · skip
      refine lv_aload_n C.1 C.2.1 dX6_count_98 rfl (lv_at hl 0 rfl) ?_
      refine z_get C wd (Cn := RX6) (TT := TX6) (N := 11) (ci := 6) iX6 0 rfl rfl 0 (by decide) L7 (fun _ h => h) rfl dX6_count_99 ?_
      refine z_bipush C dX6_count_102 (by decide +kernel) ?_
      refine z_iald C wd 1 rfl (by omega) (by decide) dX6_count_104 ?_
      refine z_goto C (tgt := 114) dX6_count_105 (by decide) ?_
      exact z_iret C hr hlk wd (by unfold rdCount; first | (rcases (show x = 0 ∨ x = 1 ∨ x = 2 ∨ x = 3 ∨ x = 5 ∨ x = 6 by omega) with rfl | rfl | rfl | rfl | rfl | rfl <;> first | rfl | (exfalso; omega))) dX6_count_114
  · skip
    refine lv_tableIn (tgt := 137) (off := 136) C.1 C.2.1 dX6_count_1 (by rw [iI_toInt (by omega) (by omega)]; omega) (by rw [iI_toInt (by omega) (by omega)]; omega) (by rw [iI_toInt (by omega) (by omega), c_1c]; rfl) (by decide) ?_
    refine lv_aload_n C.1 C.2.1 dX6_count_137 rfl (lv_at hl 0 rfl) ?_
    refine z_cvi C wd hA (As := []) (rest := []) (ws2 := [zO m0 6 [.ref m1, .ref m2, .int (iI st), .ref m3, .int (iI iss), .ref m4, .int (iI ty), .ref m5, .ref m6, .ref m7, .ref m8], zA cy m1 780 M]) (c_X6_symbols l D cy cs m0 m1 m2 m3 m4 m5 m6 m7 m8 st iss ty M ) (cwV 0 C.2.2.2.2 gX6_count_X6_symbols rfl rfl rfl (by decide +kernel) ⟨Nat.le_of_ble_eq_true rfl, Nat.le_of_ble_eq_true rfl⟩) [0, 1] rfl rfl rfl ⟨rfl, [], [], 2, rfl, rfl, rfl, by decide +kernel⟩ rfl rfl rfl rfl (Nat.le_of_ble_eq_true rfl) hl.1 dX6_count_138 ⟨Nat.zero_le _, Nat.zero_le _⟩ (fun H locs wd => ?_)
    exact z_iret C hr hlk wd (by unfold rdCount; (repeat (first | rw [if_pos (by omega)] | rw [if_neg (by omega)])); first | done | rfl | omega) dX6_count_141
  · skip
    refine lv_tableIn (tgt := 142) (off := 141) C.1 C.2.1 dX6_count_1 (by rw [iI_toInt (by omega) (by omega)]; omega) (by rw [iI_toInt (by omega) (by omega)]; omega) (by rw [iI_toInt (by omega) (by omega), c_1c]; rfl) (by decide) ?_
    refine lv_aload_n C.1 C.2.1 dX6_count_142 rfl (lv_at hl 0 rfl) ?_
    refine z_get C wd (Cn := RX6) (TT := TX6) (N := 11) (ci := 6) iX6 0 rfl rfl 0 (by decide) L7 (fun _ h => h) rfl dX6_count_143 ?_
    refine z_bipush C dX6_count_146 (by decide +kernel) ?_
    refine z_iald C wd 1 rfl (by omega) (by decide) dX6_count_148 ?_
    exact z_iret C hr hlk wd (by unfold rdCount; (repeat (first | rw [if_pos (by omega)] | rw [if_neg (by omega)])); first | done | rfl | omega) dX6_count_149
  · skip
    refine lv_tableIn (tgt := 150) (off := 149) C.1 C.2.1 dX6_count_1 (by rw [iI_toInt (by omega) (by omega)]; omega) (by rw [iI_toInt (by omega) (by omega)]; omega) (by rw [iI_toInt (by omega) (by omega), c_1c]; rfl) (by decide) ?_
    refine lv_aload_n C.1 C.2.1 dX6_count_150 rfl (lv_at hl 0 rfl) ?_
    refine z_iconst C dX6_count_151 ?_
    refine z_cvi C wd hA (As := [.int (iI 1)]) (rest := []) (ws2 := [zO m0 6 [.ref m1, .ref m2, .int (iI st), .ref m3, .int (iI iss), .ref m4, .int (iI ty), .ref m5, .ref m6, .ref m7, .ref m8], zA cy m1 780 M]) (c_chE l D cy cs m0 m1 m2 m3 m4 m5 m6 m7 m8 st iss ty M (by omega) (by omega) (by omega)) (cwV 1 C.2.2.2.2 gX6_count_X6_changedSymbols rfl rfl rfl (by decide +kernel) ⟨Nat.le_of_ble_eq_true rfl, Nat.le_of_ble_eq_true rfl⟩) [0, 1] rfl rfl rfl ⟨rfl, [], [], 2, rfl, rfl, rfl, by decide +kernel⟩ rfl rfl rfl rfl (Nat.le_of_ble_eq_true rfl) hl.1 dX6_count_152 ⟨Nat.zero_le _, Nat.zero_le _⟩ (fun H locs wd => ?_)
    exact z_iret C hr hlk wd (by unfold rdCount; (repeat (first | rw [if_pos (by omega)] | rw [if_neg (by omega)])); first | done | rfl | omega) dX6_count_155
  · skip
    refine lv_tableIn (tgt := 156) (off := 155) C.1 C.2.1 dX6_count_1 (by rw [iI_toInt (by omega) (by omega)]; omega) (by rw [iI_toInt (by omega) (by omega)]; omega) (by rw [iI_toInt (by omega) (by omega), c_1c]; rfl) (by decide) ?_
    refine lv_aload_n C.1 C.2.1 dX6_count_156 rfl (lv_at hl 0 rfl) ?_
    refine z_iconst C dX6_count_157 ?_
    refine z_cvi C wd hA (As := [.int (iI 0)]) (rest := []) (ws2 := [zO m0 6 [.ref m1, .ref m2, .int (iI st), .ref m3, .int (iI iss), .ref m4, .int (iI ty), .ref m5, .ref m6, .ref m7, .ref m8], zA cy m1 780 M]) (c_chF l D cy cs m0 m1 m2 m3 m4 m5 m6 m7 m8 st iss ty M (by omega) (by omega) (by omega)) (cwV 1 C.2.2.2.2 gX6_count_X6_changedSymbols rfl rfl rfl (by decide +kernel) ⟨Nat.le_of_ble_eq_true rfl, Nat.le_of_ble_eq_true rfl⟩) [0, 1] rfl rfl rfl ⟨rfl, [], [], 2, rfl, rfl, rfl, by decide +kernel⟩ rfl rfl rfl rfl (Nat.le_of_ble_eq_true rfl) hl.1 dX6_count_158 ⟨Nat.zero_le _, Nat.zero_le _⟩ (fun H locs wd => ?_)
    exact z_iret C hr hlk wd (by unfold rdCount; (repeat (first | rw [if_pos (by omega)] | rw [if_neg (by omega)])); first | done | rfl | omega) dX6_count_161
  · skip
    refine lv_tableIn (tgt := 162) (off := 161) C.1 C.2.1 dX6_count_1 (by rw [iI_toInt (by omega) (by omega)]; omega) (by rw [iI_toInt (by omega) (by omega)]; omega) (by rw [iI_toInt (by omega) (by omega), c_1c]; rfl) (by decide) ?_
    refine lv_aload_n C.1 C.2.1 dX6_count_162 rfl (lv_at hl 0 rfl) ?_
    refine z_get C wd (Cn := RX6) (TT := TX6) (N := 11) (ci := 6) iX6 0 rfl rfl 0 (by decide) L7 (fun _ h => h) rfl dX6_count_163 ?_
    refine z_bipush C dX6_count_166 (by decide +kernel) ?_
    refine z_iald C wd 1 rfl (by omega) (by decide) dX6_count_168 ?_
    exact z_iret C hr hlk wd (by unfold rdCount; (repeat (first | rw [if_pos (by omega)] | rw [if_neg (by omega)])); first | done | rfl | omega) dX6_count_169
  · skip
    refine lv_tableIn (tgt := 170) (off := 169) C.1 C.2.1 dX6_count_1 (by rw [iI_toInt (by omega) (by omega)]; omega) (by rw [iI_toInt (by omega) (by omega)]; omega) (by rw [iI_toInt (by omega) (by omega), c_1c]; rfl) (by decide) ?_
    refine lv_aload_n C.1 C.2.1 dX6_count_170 rfl (lv_at hl 0 rfl) ?_
    refine z_get C wd (Cn := RX6) (TT := TX6) (N := 11) (ci := 6) iX6 0 rfl rfl 0 (by decide) L7 (fun _ h => h) rfl dX6_count_171 ?_
    refine z_bipush C dX6_count_174 (by decide +kernel) ?_
    refine z_iald C wd 1 rfl (by omega) (by decide) dX6_count_176 ?_
    exact z_iret C hr hlk wd (by unfold rdCount; (repeat (first | rw [if_pos (by omega)] | rw [if_neg (by omega)])); first | done | rfl | omega) dX6_count_177
  · skip
    refine lv_tableIn (tgt := 178) (off := 177) C.1 C.2.1 dX6_count_1 (by rw [iI_toInt (by omega) (by omega)]; omega) (by rw [iI_toInt (by omega) (by omega)]; omega) (by rw [iI_toInt (by omega) (by omega), c_1c]; rfl) (by decide) ?_
    refine lv_aload_n C.1 C.2.1 dX6_count_178 rfl (lv_at hl 0 rfl) ?_
    refine z_cvi C wd hA (As := []) (rest := []) (ws2 := [zO m0 6 [.ref m1, .ref m2, .int (iI st), .ref m3, .int (iI iss), .ref m4, .int (iI ty), .ref m5, .ref m6, .ref m7, .ref m8], zA cy m1 780 M]) (c_X6_bestState l D cy cs m0 m1 m2 m3 m4 m5 m6 m7 m8 st iss ty M (by omega) (by omega)) (cwV 0 C.2.2.2.2 gX6_count_X6_bestState rfl rfl rfl (by decide +kernel) ⟨Nat.le_of_ble_eq_true rfl, Nat.le_of_ble_eq_true rfl⟩) [0, 1] rfl rfl rfl ⟨rfl, [], [], 2, rfl, rfl, rfl, by decide +kernel⟩ rfl rfl rfl rfl (Nat.le_of_ble_eq_true rfl) hl.1 dX6_count_179 ⟨Nat.zero_le _, Nat.zero_le _⟩ (fun H locs wd => ?_)
    refine z_top (b := bsc (sl M 572) (p2 (M 0)).toNat) (bsc_bst hbs) ?_
    exact z_iret C hr hlk wd (by unfold rdCount; (repeat (first | rw [if_pos (by omega)] | rw [if_neg (by omega)])); first | done | rfl | omega) dX6_count_182
  · skip
    refine lv_tableIn (tgt := 183) (off := 182) C.1 C.2.1 dX6_count_1 (by rw [iI_toInt (by omega) (by omega)]; omega) (by rw [iI_toInt (by omega) (by omega)]; omega) (by rw [iI_toInt (by omega) (by omega), c_1c]; rfl) (by decide) ?_
    refine lv_aload_n C.1 C.2.1 dX6_count_183 rfl (lv_at hl 0 rfl) ?_
    refine z_get C wd (Cn := RX6) (TT := TX6) (N := 11) (ci := 6) iX6 0 rfl rfl 0 (by decide) L7 (fun _ h => h) rfl dX6_count_184 ?_
    refine z_sipush C dX6_count_187 (by decide +kernel) ?_
    refine lv_aload_n C.1 C.2.1 dX6_count_190 rfl (lv_at hl 0 rfl) ?_
    refine z_cvi C wd hA (As := []) (rest := [.int (iI 572), .ref m1]) (ws2 := [zO m0 6 [.ref m1, .ref m2, .int (iI st), .ref m3, .int (iI iss), .ref m4, .int (iI ty), .ref m5, .ref m6, .ref m7, .ref m8], zA cy m1 780 M]) (c_X6_bestState l D cy cs m0 m1 m2 m3 m4 m5 m6 m7 m8 st iss ty M (by omega) (by omega)) (cwV 0 C.2.2.2.2 gX6_count_X6_bestState rfl rfl rfl (by decide +kernel) ⟨Nat.le_of_ble_eq_true rfl, Nat.le_of_ble_eq_true rfl⟩) [0, 1] rfl rfl rfl ⟨rfl, [], [], 2, rfl, rfl, rfl, by decide +kernel⟩ rfl rfl rfl rfl (Nat.le_of_ble_eq_true rfl) hl.1 dX6_count_191 ⟨Nat.zero_le _, Nat.zero_le _⟩ (fun H locs wd => ?_)
    refine z_top (b := bsc (sl M 572) (p2 (M 0)).toNat) (bsc_bst hbs) ?_
    have hbc := bsc_bst hbs
    refine z_iadd C dX6_count_194 ?_
    refine z_iald C wd 1 rfl (by omega) (by decide) dX6_count_195 ?_
    exact z_iret C hr hlk wd (by unfold rdCount; (repeat (first | rw [if_pos (by omega)] | rw [if_neg (by omega)])); first | done | rfl | omega) dX6_count_196
  · skip
    refine lv_tableIn (tgt := 197) (off := 196) C.1 C.2.1 dX6_count_1 (by rw [iI_toInt (by omega) (by omega)]; omega) (by rw [iI_toInt (by omega) (by omega)]; omega) (by rw [iI_toInt (by omega) (by omega), c_1c]; rfl) (by decide) ?_
    refine lv_aload_n C.1 C.2.1 dX6_count_197 rfl (lv_at hl 0 rfl) ?_
    refine z_cvi C wd hA (As := []) (rest := []) (ws2 := [zO m0 6 [.ref m1, .ref m2, .int (iI st), .ref m3, .int (iI iss), .ref m4, .int (iI ty), .ref m5, .ref m6, .ref m7, .ref m8], zA cy m1 780 M]) (c_X6_reached l D cy cs m0 m1 m2 m3 m4 m5 m6 m7 m8 st iss ty M (by omega) (by omega)) (cwV 0 C.2.2.2.2 gX6_count_X6_reached rfl rfl rfl (by decide +kernel) ⟨Nat.le_of_ble_eq_true rfl, Nat.le_of_ble_eq_true rfl⟩) [0, 1] rfl rfl rfl ⟨rfl, [], [], 2, rfl, rfl, rfl, by decide +kernel⟩ rfl rfl rfl rfl (Nat.le_of_ble_eq_true rfl) hl.1 dX6_count_198 ⟨Nat.zero_le _, Nat.zero_le _⟩ (fun H locs wd => ?_)
    exact z_iret C hr hlk wd (by unfold rdCount; (repeat (first | rw [if_pos (by omega)] | rw [if_neg (by omega)])); first | done | rfl | omega) dX6_count_201
  · skip
    refine lv_tableIn (tgt := 202) (off := 201) C.1 C.2.1 dX6_count_1 (by rw [iI_toInt (by omega) (by omega)]; omega) (by rw [iI_toInt (by omega) (by omega)]; omega) (by rw [iI_toInt (by omega) (by omega), c_1c]; rfl) (by decide) ?_
    refine lv_aload_n C.1 C.2.1 dX6_count_202 rfl (lv_at hl 0 rfl) ?_
    refine z_get C wd (Cn := RX6) (TT := TX6) (N := 11) (ci := 6) iX6 0 rfl rfl 0 (by decide) L7 (fun _ h => h) rfl dX6_count_203 ?_
    refine z_bipush C dX6_count_206 (by decide +kernel) ?_
    refine z_iald C wd 1 rfl (by omega) (by decide) dX6_count_208 ?_
    exact z_iret C hr hlk wd (by unfold rdCount; (repeat (first | rw [if_pos (by omega)] | rw [if_neg (by omega)])); first | done | rfl | omega) dX6_count_209
  · skip
    refine lv_tableIn (tgt := 210) (off := 209) C.1 C.2.1 dX6_count_1 (by rw [iI_toInt (by omega) (by omega)]; omega) (by rw [iI_toInt (by omega) (by omega)]; omega) (by rw [iI_toInt (by omega) (by omega), c_1c]; rfl) (by decide) ?_
    refine lv_aload_n C.1 C.2.1 dX6_count_210 rfl (lv_at hl 0 rfl) ?_
    refine z_get C wd (Cn := RX6) (TT := TX6) (N := 11) (ci := 6) iX6 0 rfl rfl 2 (by decide) L37 (fun _ h => h) rfl dX6_count_211 ?_
    exact z_iret C hr hlk wd (by unfold rdCount; (repeat (first | rw [if_pos (by omega)] | rw [if_neg (by omega)])); first | done | rfl | omega) dX6_count_214
  · skip
    refine lv_tableIn (tgt := 215) (off := 214) C.1 C.2.1 dX6_count_1 (by rw [iI_toInt (by omega) (by omega)]; omega) (by rw [iI_toInt (by omega) (by omega)]; omega) (by rw [iI_toInt (by omega) (by omega), c_1c]; rfl) (by decide) ?_
    refine lv_aload_n C.1 C.2.1 dX6_count_215 rfl (lv_at hl 0 rfl) ?_
    refine z_get C wd (Cn := RX6) (TT := TX6) (N := 11) (ci := 6) iX6 0 rfl rfl 6 (by decide) L56 (fun _ h => h) rfl dX6_count_216 ?_
    exact z_iret C hr hlk wd (by unfold rdCount; (repeat (first | rw [if_pos (by omega)] | rw [if_neg (by omega)])); first | done | rfl | omega) dX6_count_219
set_option maxRecDepth 100000 in
set_option maxHeartbeats 4000000 in
theorem c_mtypeA (l : Launch) (D : va_G) (cy cs : ClassId) (m0 m1 m2 m3 m4 m5 m6 m7 m8 : Nat) (st iss ty : Int) (M : Int → Int) (x : Int) (tx : Int → Int) (hx : 0 ≤ x ∧ x < 65536) (hty : 0 ≤ ty ∧ ty < 60) : zCi l D (zT cy cs) yX6_type wsX6_type ({ frames := 0, cells := 0, slots := 0, locals := 0 } : Room) [.ref m0, .int (iI x)] [zO m0 6 [.ref m1, .ref m2, .int (iI st), .ref m3, .int (iI iss), .ref m4, .int (iI ty), .ref m5, .ref m6, .ref m7, .ref m8], zA cy m4 60 tx] (ty + 1) [zO m0 6 [.ref m1, .ref m2, .int (iI st), .ref m3, .int (iI iss), .ref m4, .int (iI (ty + 1)), .ref m5, .ref m6, .ref m7, .ref m8], zA cy m4 60 (uZ tx ty x)] := by
  intro sz
  refine zM_mk (cc := cX6_type) (maxL := 2) (ret := (some .int)) (own := RX6) (Qc := fun sz => va_Qi (fun r (_ : Unit) => r = iI (ty + 1)) (fun _ t => zQ D (zT cy cs) (va_A [zO m0 6 [.ref m1, .ref m2, .int (iI st), .ref m3, .int (iI iss), .ref m4, .int (iI ty), .ref m5, .ref m6, .ref m7, .ref m8], zA cy m4 60 tx] sz) [zO m0 6 [.ref m1, .ref m2, .int (iI st), .ref m3, .int (iI iss), .ref m4, .int (iI (ty + 1)), .ref m5, .ref m6, .ref m7, .ref m8], zA cy m4 60 (uZ tx ty x)] t) (va_A [zO m0 6 [.ref m1, .ref m2, .int (iI st), .ref m3, .int (iI iss), .ref m4, .int (iI ty), .ref m5, .ref m6, .ref m7, .ref m8], zA cy m4 60 tx] sz)) (by decide) rfl rfl (Nat.le_of_ble_eq_true rfl) rfl sz ?_
  intro p e s m args below meth c ls C hr hlk hnm hl hsz hA wd
  subst hsz
  have hl : lv_has ls 2 [(0, .ref m0), (1, .int (iI x))] := hl
  have iX6 : ∀ w ∈ u_ws RX6 TX6 11, w ∈ wsX6_type := by decide +kernel
  have L19 := C.2.2.2.2 (.fieldLink RX6 19 "LikelyWalksModel" "text" "[I") (by decide +kernel)
  have L56 := C.2.2.2.2 (.fieldLink RX6 56 "LikelyWalksModel" "typed" "I") (by decide +kernel)
  refine lv_aload_n C.1 C.2.1 dX6_type_0 rfl (lv_at hl 0 rfl) ?_
  refine z_get C wd (Cn := RX6) (TT := TX6) (N := 11) (ci := 6) iX6 0 rfl rfl 6 (by decide) L56 (fun _ h => h) rfl dX6_type_1 ?_
  refine z_bipush C dX6_type_4 (by decide +kernel) ?_
  refine z_icmp_ne C (tgt := 12) dX6_type_6 (by decide) (by omega) (fun c_1 => ?_) (fun c_1 => ?_)
  · skip
    refine lv_aload_n C.1 C.2.1 dX6_type_12 rfl (lv_at hl 0 rfl) ?_
    refine z_get C wd (Cn := RX6) (TT := TX6) (N := 11) (ci := 6) iX6 0 rfl rfl 5 (by decide) L19 (fun _ h => h) rfl dX6_type_13 ?_
    refine lv_aload_n C.1 C.2.1 dX6_type_16 rfl (lv_at hl 0 rfl) ?_
    refine z_get C wd (Cn := RX6) (TT := TX6) (N := 11) (ci := 6) iX6 0 rfl rfl 6 (by decide) L56 (fun _ h => h) rfl dX6_type_17 ?_
    refine lv_iload_n C.1 C.2.1 dX6_type_20 rfl (lv_at hl 1 rfl) ?_
    refine z_iast C wd (ws2 := [zO m0 6 [.ref m1, .ref m2, .int (iI st), .ref m3, .int (iI iss), .ref m4, .int (iI ty), .ref m5, .ref m6, .ref m7, .ref m8], zA cy m4 60 (uZ tx ty x)]) 1 rfl (by omega) (by decide) rfl dX6_type_21 (fun H locs wd => ?_)
    refine lv_aload_n C.1 C.2.1 dX6_type_22 rfl (lv_at hl 0 rfl) ?_
    refine lv_dup C.1 C.2.1 dX6_type_23 rfl ?_
    refine z_get C wd (Cn := RX6) (TT := TX6) (N := 11) (ci := 6) iX6 0 rfl rfl 6 (by decide) L56 (fun _ h => h) rfl dX6_type_24 ?_
    refine z_iconst C dX6_type_27 ?_
    refine z_iadd C dX6_type_28 ?_
    refine z_put C wd (Cn := RX6) (TT := TX6) (N := 11) (ci := 6) (ws2 := [zO m0 6 [.ref m1, .ref m2, .int (iI st), .ref m3, .int (iI iss), .ref m4, .int (iI (ty + 1)), .ref m5, .ref m6, .ref m7, .ref m8], zA cy m4 60 (uZ tx ty x)]) iX6 tyX6 tyX6_ok nmX6 0 rfl rfl 6 (by decide) L56 (fun _ h => h) rfl (ty := .int) (by decide +kernel) rfl rfl (Nat.le_of_ble_eq_true rfl) rfl dX6_type_29 (fun H locs wd => ?_)
    refine lv_aload_n C.1 C.2.1 dX6_type_32 rfl (lv_at hl 0 rfl) ?_
    refine z_get C wd (Cn := RX6) (TT := TX6) (N := 11) (ci := 6) iX6 0 rfl rfl 6 (by decide) L56 (fun _ h => h) rfl dX6_type_33 ?_
    exact z_iret C hr hlk wd (by first | rfl | omega) dX6_type_36
  · skip
    exact False.elim (by omega)
set_option maxRecDepth 100000 in
set_option maxHeartbeats 4000000 in
theorem c_mtypeB (l : Launch) (D : va_G) (cy cs : ClassId) (m0 m1 m2 m3 m4 m5 m6 m7 m8 : Nat) (st iss ty : Int) (M : Int → Int) (x : Int) (hx : 0 ≤ x ∧ x < 65536) (hty : ty = 60) : zCi l D (zT cy cs) yX6_type wsX6_type ({ frames := 0, cells := 0, slots := 0, locals := 0 } : Room) [.ref m0, .int (iI x)] [zO m0 6 [.ref m1, .ref m2, .int (iI st), .ref m3, .int (iI iss), .ref m4, .int (iI ty), .ref m5, .ref m6, .ref m7, .ref m8]] (-3) [zO m0 6 [.ref m1, .ref m2, .int (iI st), .ref m3, .int (iI iss), .ref m4, .int (iI ty), .ref m5, .ref m6, .ref m7, .ref m8]] := by
  intro sz
  refine zM_mk (cc := cX6_type) (maxL := 2) (ret := (some .int)) (own := RX6) (Qc := fun sz => va_Qi (fun r (_ : Unit) => r = iI (-3)) (fun _ t => zQ D (zT cy cs) (va_A [zO m0 6 [.ref m1, .ref m2, .int (iI st), .ref m3, .int (iI iss), .ref m4, .int (iI ty), .ref m5, .ref m6, .ref m7, .ref m8]] sz) [zO m0 6 [.ref m1, .ref m2, .int (iI st), .ref m3, .int (iI iss), .ref m4, .int (iI ty), .ref m5, .ref m6, .ref m7, .ref m8]] t) (va_A [zO m0 6 [.ref m1, .ref m2, .int (iI st), .ref m3, .int (iI iss), .ref m4, .int (iI ty), .ref m5, .ref m6, .ref m7, .ref m8]] sz)) (by decide) rfl rfl (Nat.le_of_ble_eq_true rfl) rfl sz ?_
  intro p e s m args below meth c ls C hr hlk hnm hl hsz hA wd
  subst hsz
  have hl : lv_has ls 2 [(0, .ref m0), (1, .int (iI x))] := hl
  have iX6 : ∀ w ∈ u_ws RX6 TX6 11, w ∈ wsX6_type := by decide +kernel
  have L56 := C.2.2.2.2 (.fieldLink RX6 56 "LikelyWalksModel" "typed" "I") (by decide +kernel)
  refine lv_aload_n C.1 C.2.1 dX6_type_0 rfl (lv_at hl 0 rfl) ?_
  refine z_get C wd (Cn := RX6) (TT := TX6) (N := 11) (ci := 6) iX6 0 rfl rfl 6 (by decide) L56 (fun _ h => h) rfl dX6_type_1 ?_
  refine z_bipush C dX6_type_4 (by decide +kernel) ?_
  refine z_icmp_ne C (tgt := 12) dX6_type_6 (by decide) (by omega) (fun c_1 => ?_) (fun c_1 => ?_)
  · skip
    exact False.elim (by omega)
  · skip
    refine z_bipush C dX6_type_9 (by decide +kernel) ?_
    exact z_iret C hr hlk wd (by first | rfl | omega) dX6_type_11
set_option maxRecDepth 100000 in
set_option maxHeartbeats 4000000 in
theorem c_X6_clearText (l : Launch) (D : va_G) (cy cs : ClassId) (m0 m1 m2 m3 m4 m5 m6 m7 m8 : Nat) (st iss ty : Int) (M : Int → Int) (hty : 0 ≤ ty ∧ ty ≤ 60) : zCi l D (zT cy cs) yX6_clearText wsX6_clearText ({ frames := 0, cells := 0, slots := 0, locals := 0 } : Room) [.ref m0] [zO m0 6 [.ref m1, .ref m2, .int (iI st), .ref m3, .int (iI iss), .ref m4, .int (iI ty), .ref m5, .ref m6, .ref m7, .ref m8]] ty [zO m0 6 [.ref m1, .ref m2, .int (iI st), .ref m3, .int (iI iss), .ref m4, .int (iI 0), .ref m5, .ref m6, .ref m7, .ref m8]] := by
  intro sz
  refine zM_mk (cc := cX6_clearText) (maxL := 2) (ret := (some .int)) (own := RX6) (Qc := fun sz => va_Qi (fun r (_ : Unit) => r = iI ty) (fun _ t => zQ D (zT cy cs) (va_A [zO m0 6 [.ref m1, .ref m2, .int (iI st), .ref m3, .int (iI iss), .ref m4, .int (iI ty), .ref m5, .ref m6, .ref m7, .ref m8]] sz) [zO m0 6 [.ref m1, .ref m2, .int (iI st), .ref m3, .int (iI iss), .ref m4, .int (iI 0), .ref m5, .ref m6, .ref m7, .ref m8]] t) (va_A [zO m0 6 [.ref m1, .ref m2, .int (iI st), .ref m3, .int (iI iss), .ref m4, .int (iI ty), .ref m5, .ref m6, .ref m7, .ref m8]] sz)) (by decide) rfl rfl (Nat.le_of_ble_eq_true rfl) rfl sz ?_
  intro p e s m args below meth c ls C hr hlk hnm hl hsz hA wd
  subst hsz
  have hl : lv_has ls 2 [(0, .ref m0)] := hl
  have iX6 : ∀ w ∈ u_ws RX6 TX6 11, w ∈ wsX6_clearText := by decide +kernel
  have L56 := C.2.2.2.2 (.fieldLink RX6 56 "LikelyWalksModel" "typed" "I") (by decide +kernel)
  refine lv_aload_n C.1 C.2.1 dX6_clearText_0 rfl (lv_at hl 0 rfl) ?_
  refine z_get C wd (Cn := RX6) (TT := TX6) (N := 11) (ci := 6) iX6 0 rfl rfl 6 (by decide) L56 (fun _ h => h) rfl dX6_clearText_1 ?_
  refine lv_istore_n (lv' := [(1, .int (iI ty)), (0, .ref m0)]) C.1 C.2.1 dX6_clearText_4 rfl hl (by decide) rfl (fun ls hl => ?_)
  refine lv_aload_n C.1 C.2.1 dX6_clearText_5 rfl (lv_at hl 1 rfl) ?_
  refine z_iconst C dX6_clearText_6 ?_
  refine z_put C wd (Cn := RX6) (TT := TX6) (N := 11) (ci := 6) (ws2 := [zO m0 6 [.ref m1, .ref m2, .int (iI st), .ref m3, .int (iI iss), .ref m4, .int (iI 0), .ref m5, .ref m6, .ref m7, .ref m8]]) iX6 tyX6 tyX6_ok nmX6 0 rfl rfl 6 (by decide) L56 (fun _ h => h) rfl (ty := .int) (by decide +kernel) rfl rfl (Nat.le_of_ble_eq_true rfl) rfl dX6_clearText_7 (fun H locs wd => ?_)
  refine lv_iload_n C.1 C.2.1 dX6_clearText_10 rfl (lv_at hl 0 rfl) ?_
  exact z_iret C hr hlk wd (by first | rfl | omega) dX6_clearText_11
