set_option maxRecDepth 100000 in
set_option maxHeartbeats 4000000 in
theorem c_X4_valueOf (l : Launch) (D : va_G) (cy cs : ClassId) (x : Int) (hx : 0 ≤ x ∧ x < 65536) : zCi l D (zT cy cs) yX4_valueOf wsX4_valueOf ({ frames := 0, cells := 0, slots := 0, locals := 0 } : Room) [.int (iI x)] [] (vc x) [] := by
  intro sz
  refine zM_mk (cc := cX4_valueOf) (maxL := 1) (ret := (some .int)) (own := RX4) (Qc := fun sz => va_Qi (fun r (_ : Unit) => r = iI (vc x)) (fun _ t => zQ D (zT cy cs) (va_A [] sz) [] t) (va_A [] sz)) (by decide) rfl rfl (Nat.le_of_ble_eq_true rfl) rfl sz ?_
  intro p e s m args below meth c ls C hr hlk hnm hl hsz hA wd
  subst hsz
  have hl : lv_has ls 1 [(0, .int (iI x))] := hl
  refine lv_iload_n C.1 C.2.1 dX4_valueOf_0 rfl (lv_at hl 0 rfl) ?_
  refine z_bipush C dX4_valueOf_1 (by decide +kernel) ?_
  refine z_icmp_ne C (tgt := 8) dX4_valueOf_3 (by decide) (by omega) (fun c_1 => ?_) (fun c_1 => ?_)
  · skip
    refine lv_iload_n C.1 C.2.1 dX4_valueOf_8 rfl (lv_at hl 0 rfl) ?_
    refine z_bipush C dX4_valueOf_9 (by decide +kernel) ?_
    refine z_icmp_ne C (tgt := 16) dX4_valueOf_11 (by decide) (by omega) (fun c_2 => ?_) (fun c_2 => ?_)
    · skip
      refine lv_iload_n C.1 C.2.1 dX4_valueOf_16 rfl (lv_at hl 0 rfl) ?_
      refine z_bipush C dX4_valueOf_17 (by decide +kernel) ?_
      refine z_icmp_ne C (tgt := 26) dX4_valueOf_19 (by decide) (by omega) (fun c_3 => ?_) (fun c_3 => ?_)
      · skip
        refine z_iconst C dX4_valueOf_26 ?_
        exact z_iret C hr hlk wd (by unfold vc; (repeat (first | rw [if_pos (by omega)] | rw [if_neg (by omega)]))) dX4_valueOf_27
      · skip
        refine z_iconst C dX4_valueOf_22 ?_
        refine z_goto C (tgt := 27) dX4_valueOf_23 (by decide) ?_
        exact z_iret C hr hlk wd (by unfold vc; (repeat (first | rw [if_pos (by omega)] | rw [if_neg (by omega)]))) dX4_valueOf_27
    · skip
      refine z_iconst C dX4_valueOf_14 ?_
      exact z_iret C hr hlk wd (by unfold vc; (repeat (first | rw [if_pos (by omega)] | rw [if_neg (by omega)]))) dX4_valueOf_15
  · skip
    refine z_iconst C dX4_valueOf_6 ?_
    exact z_iret C hr hlk wd (by unfold vc; (repeat (first | rw [if_pos (by omega)] | rw [if_neg (by omega)]))) dX4_valueOf_7
set_option maxRecDepth 100000 in
set_option maxHeartbeats 4000000 in
theorem c_X4_append (l : Launch) (D : va_G) (cy cs : ClassId) (t0 t1 : Nat) (ty x : Int) (fv : Int → Int) (hx : 0 ≤ x ∧ x < 65536) (ht : 0 ≤ ty ∧ ty < 60) : zCv l D (zT cy cs) yX4_append wsX4_append ({ frames := 1, cells := 0, slots := 0, locals := 20 } : Room) [.ref t0, .int (iI x)] [zO t0 4 [.int (iI ty), .ref t1], zA cy t1 60 fv] [zO t0 4 [.int (iI (ty + 1)), .ref t1], zA cy t1 60 (uZ fv ty (vc x))] := by
  intro sz
  refine zM_mk (cc := cX4_append) (maxL := 2) (ret := none) (own := RX4) (Qc := fun sz => va_Qv (fun (_ : Unit) => True) (fun _ t => zQ D (zT cy cs) (va_A [zO t0 4 [.int (iI ty), .ref t1], zA cy t1 60 fv] sz) [zO t0 4 [.int (iI (ty + 1)), .ref t1], zA cy t1 60 (uZ fv ty (vc x))] t) (va_A [zO t0 4 [.int (iI ty), .ref t1], zA cy t1 60 fv] sz)) (by decide) rfl rfl (Nat.le_of_ble_eq_true rfl) rfl sz ?_
  intro p e s m args below meth c ls C hr hlk hnm hl hsz hA wd
  subst hsz
  have hl : lv_has ls 2 [(0, .ref t0), (1, .int (iI x))] := hl
  have iX4 : ∀ w ∈ u_ws RX4 TX4 2, w ∈ wsX4_append := by decide +kernel
  have L9 := C.2.2.2.2 (.fieldLink RX4 9 "LikelyWalks$Text" "length" "I") (by decide +kernel)
  have L15 := C.2.2.2.2 (.fieldLink RX4 15 "LikelyWalks$Text" "values" "[I") (by decide +kernel)
  refine lv_aload_n C.1 C.2.1 dX4_append_0 rfl (lv_at hl 0 rfl) ?_
  refine z_get C wd (Cn := RX4) (TT := TX4) (N := 2) (ci := 4) iX4 0 rfl rfl 0 (by decide) L9 (fun _ h => h) rfl dX4_append_1 ?_
  refine z_bipush C dX4_append_4 (by decide +kernel) ?_
  refine z_icmp_lt C (tgt := 10) dX4_append_6 (by decide) (by omega) (fun c_1 => ?_) (fun c_1 => ?_)
  · skip
    refine lv_aload_n C.1 C.2.1 dX4_append_10 rfl (lv_at hl 0 rfl) ?_
    refine z_get C wd (Cn := RX4) (TT := TX4) (N := 2) (ci := 4) iX4 0 rfl rfl 1 (by decide) L15 (fun _ h => h) rfl dX4_append_11 ?_
    refine lv_aload_n C.1 C.2.1 dX4_append_14 rfl (lv_at hl 0 rfl) ?_
    refine z_get C wd (Cn := RX4) (TT := TX4) (N := 2) (ci := 4) iX4 0 rfl rfl 0 (by decide) L9 (fun _ h => h) rfl dX4_append_15 ?_
    refine lv_iload_n C.1 C.2.1 dX4_append_18 rfl (lv_at hl 1 rfl) ?_
    refine z_csi C wd hA (As := [.int (iI x)]) (rest := [.int (iI ty), .ref t1]) (ws2 := [zO t0 4 [.int (iI ty), .ref t1], zA cy t1 60 fv]) (c_X4_valueOf l D cy cs x (by omega)) (cwS 1 C.2.2.2.2 gX4_append_X4_valueOf rfl rfl rfl (by decide +kernel) ⟨Nat.le_of_ble_eq_true rfl, Nat.le_of_ble_eq_true rfl⟩) [] rfl rfl rfl ⟨rfl, [0, 1], [zO t0 4 [.int (iI ty), .ref t1], zA cy t1 60 fv], 2, rfl, rfl, rfl, by decide +kernel⟩ rfl rfl (Nat.le_of_ble_eq_true rfl) hl.1 dX4_append_19 ⟨Nat.zero_le _, Nat.zero_le _⟩ (fun H locs wd => ?_)
    refine z_iast C wd (ws2 := [zO t0 4 [.int (iI ty), .ref t1], zA cy t1 60 (uZ fv ty (vc x))]) 1 rfl (by omega) (by decide) rfl dX4_append_22 (fun H locs wd => ?_)
    refine lv_aload_n C.1 C.2.1 dX4_append_23 rfl (lv_at hl 0 rfl) ?_
    refine lv_dup C.1 C.2.1 dX4_append_24 rfl ?_
    refine z_get C wd (Cn := RX4) (TT := TX4) (N := 2) (ci := 4) iX4 0 rfl rfl 0 (by decide) L9 (fun _ h => h) rfl dX4_append_25 ?_
    refine z_iconst C dX4_append_28 ?_
    refine z_iadd C dX4_append_29 ?_
    refine z_put C wd (Cn := RX4) (TT := TX4) (N := 2) (ci := 4) (ws2 := [zO t0 4 [.int (iI (ty + 1)), .ref t1], zA cy t1 60 (uZ fv ty (vc x))]) iX4 tyX4 tyX4_ok nmX4 0 rfl rfl 0 (by decide) L9 (fun _ h => h) rfl (ty := .int) (by decide +kernel) rfl rfl (Nat.le_of_ble_eq_true rfl) rfl dX4_append_30 (fun H locs wd => ?_)
    exact z_vret C hr hlk wd dX4_append_33
  · skip
    exact False.elim (by omega)
set_option maxRecDepth 100000 in
set_option maxHeartbeats 4000000 in
theorem c_X4_firstFault (l : Launch) (D : va_G) (cy cs : ClassId) (t0 t1 : Nat) (ty hi : Int) (fv : Int → Int) (ht : 0 ≤ ty ∧ ty ≤ 60) (hh : 0 ≤ hi ∧ hi ≤ 3) (hf : ∀ k : Int, 0 ≤ k → k < 60 → 0 ≤ fv k ∧ fv k ≤ 3) : zCi l D (zT cy cs) yX4_firstFault wsX4_firstFault ({ frames := 0, cells := 0, slots := 0, locals := 0 } : Room) [.ref t0, .int (iI hi)] [zO t0 4 [.int (iI ty), .ref t1], zA cy t1 60 fv] (ff fv ty hi) [zO t0 4 [.int (iI ty), .ref t1], zA cy t1 60 fv] := by
  intro sz
  refine zM_mk (cc := cX4_firstFault) (maxL := 3) (ret := (some .int)) (own := RX4) (Qc := fun sz => va_Qi (fun r (_ : Unit) => r = iI (ff fv ty hi)) (fun _ t => zQ D (zT cy cs) (va_A [zO t0 4 [.int (iI ty), .ref t1], zA cy t1 60 fv] sz) [zO t0 4 [.int (iI ty), .ref t1], zA cy t1 60 fv] t) (va_A [zO t0 4 [.int (iI ty), .ref t1], zA cy t1 60 fv] sz)) (by decide) rfl rfl (Nat.le_of_ble_eq_true rfl) rfl sz ?_
  intro p e s m args below meth c ls C hr hlk hnm hl hsz hA wd
  subst hsz
  have hl : lv_has ls 3 [(0, .ref t0), (1, .int (iI hi))] := hl
  have iX4 : ∀ w ∈ u_ws RX4 TX4 2, w ∈ wsX4_firstFault := by decide +kernel
  have L9 := C.2.2.2.2 (.fieldLink RX4 9 "LikelyWalks$Text" "length" "I") (by decide +kernel)
  have L15 := C.2.2.2.2 (.fieldLink RX4 15 "LikelyWalks$Text" "values" "[I") (by decide +kernel)
  refine lv_aload_n C.1 C.2.1 dX4_firstFault_0 rfl (lv_at hl 0 rfl) ?_
  refine z_get C wd (Cn := RX4) (TT := TX4) (N := 2) (ci := 4) iX4 0 rfl rfl 0 (by decide) L9 (fun _ h => h) rfl dX4_firstFault_1 ?_
  refine z_if_ne C (tgt := 9) dX4_firstFault_4 (by decide) (by omega) (fun c_1 => ?_) (fun c_1 => ?_)
  · skip
    refine z_iconst C dX4_firstFault_9 ?_
    refine lv_istore_n (lv' := [(2, .int (iI 0)), (0, .ref t0), (1, .int (iI hi))]) C.1 C.2.1 dX4_firstFault_10 rfl hl (by decide) rfl (fun ls hl => ?_)
    refine z_loop1 (P := fun (k : Int) => (0 ≤ k ∧ k ≤ ty) ∧ (fs (fun z9 => decide (hi < fv z9)) k.toNat = -1)) (mu := fun (k : Int) => (ty - k).toNat) (ws := fun (k : Int) => [zO t0 4 [.int (iI ty), .ref t1], zA cy t1 60 fv]) (lv := fun (k : Int) => [(0, .ref t0), (1, .int (iI hi)), (2, .int (iI k))]) 0 C ⟨(by omega), rfl⟩ wd (lv_sub hl [1, 2, 0] rfl) ?_
    intro k hP11 ih11 H locs ls wd hl
    obtain ⟨h11_0, h11_1⟩ := hP11
    try dsimp only at h11_0 h11_1
    have wd : Wd D (zT cy cs) _ s.heap s [zO t0 4 [.int (iI ty), .ref t1], zA cy t1 60 fv] H locs := wd
    have hl : lv_has ls 3 [(0, .ref t0), (1, .int (iI hi)), (2, .int (iI k))] := hl
    refine lv_iload_n C.1 C.2.1 dX4_firstFault_11 rfl (lv_at hl 2 rfl) ?_
    refine lv_aload_n C.1 C.2.1 dX4_firstFault_12 rfl (lv_at hl 0 rfl) ?_
    refine z_get C wd (Cn := RX4) (TT := TX4) (N := 2) (ci := 4) iX4 0 rfl rfl 0 (by decide) L9 (fun _ h => h) rfl dX4_firstFault_13 ?_
    refine z_icmp_ge C (tgt := 37) dX4_firstFault_16 (by decide) (by omega) (fun c_2 => ?_) (fun c_2 => ?_)
    · skip
      refine z_iconst C dX4_firstFault_37 ?_
      exact z_iret C hr hlk wd (by rw [ff, if_neg (by omega), ← h11_1, show k = ty by omega]) dX4_firstFault_38
    · skip
      refine lv_aload_n C.1 C.2.1 dX4_firstFault_19 rfl (lv_at hl 0 rfl) ?_
      refine z_get C wd (Cn := RX4) (TT := TX4) (N := 2) (ci := 4) iX4 0 rfl rfl 1 (by decide) L15 (fun _ h => h) rfl dX4_firstFault_20 ?_
      refine lv_iload_n C.1 C.2.1 dX4_firstFault_23 rfl (lv_at hl 2 rfl) ?_
      refine z_iald C wd 1 rfl (by omega) (by decide) dX4_firstFault_24 ?_
      have hfk := hf k (by omega) (by omega)
      refine lv_iload_n C.1 C.2.1 dX4_firstFault_25 rfl (lv_at hl 1 rfl) ?_
      refine z_icmp_le C (tgt := 31) dX4_firstFault_26 (by decide) (by omega) (fun c_3 => ?_) (fun c_3 => ?_)
      · skip
        refine z_iinc C (lv' := [(2, .int (iI (k + 1))), (0, .ref t0), (1, .int (iI hi))]) hl 2 dX4_firstFault_31 rfl (by decide) rfl (fun ls hl => ?_)
        refine z_goto C (tgt := 11) dX4_firstFault_34 (by decide) ?_
        exact ih11 (k + 1) ⟨(by omega), (fs_no h11_0.1 h11_1 (decide_eq_false (by omega)))⟩ (by omega) H locs _ wd (lv_sub hl [1, 2, 0] rfl)
      · skip
        refine lv_iload_n C.1 C.2.1 dX4_firstFault_29 rfl (lv_at hl 2 rfl) ?_
        exact z_iret C hr hlk wd (by rw [ff, if_neg (by omega)]; exact (fs_at h11_0.1 h11_1 (decide_eq_true (by omega)) (by omega)).symm) dX4_firstFault_30
  · skip
    refine z_iconst C dX4_firstFault_7 ?_
    exact z_iret C hr hlk wd (by rw [ff, if_pos (by omega)]) dX4_firstFault_8
set_option maxRecDepth 100000 in
set_option maxHeartbeats 4000000 in
theorem c_fill (l : Launch) (D : va_G) (cy cs : ClassId) (b0 n : Nat) (x : Int) (f : Int → Int) (hn : n < 2147483648) : zCv l D (zT cy cs) yJ7_fill_53178 wsJ7_fill_53178 ({ frames := 0, cells := 0, slots := 0, locals := 0 } : Room) [.ref b0, .int (iI x)] [zA cy b0 n f] [zA cy b0 n (fun _ => x)] := by
  intro sz
  refine zM_mk (cc := cJ7_fill_53178) (maxL := 4) (ret := none) (own := RJ7) (Qc := fun sz => va_Qv (fun (_ : Unit) => True) (fun _ t => zQ D (zT cy cs) (va_A [zA cy b0 n f] sz) [zA cy b0 n (fun _ => x)] t) (va_A [zA cy b0 n f] sz)) (by decide) rfl rfl (Nat.le_of_ble_eq_true rfl) rfl sz ?_
  intro p e s m args below meth c ls C hr hlk hnm hl hsz hA wd
  subst hsz
  have hl : lv_has ls 4 [(0, .ref b0), (1, .int (iI x))] := hl
  refine z_iconst C dJ7_fill_53178_0 ?_
  refine lv_istore_n (lv' := [(2, .int (iI 0)), (0, .ref b0), (1, .int (iI x))]) C.1 C.2.1 dJ7_fill_53178_1 rfl hl (by decide) rfl (fun ls hl => ?_)
  refine lv_aload_n C.1 C.2.1 dJ7_fill_53178_2 rfl (lv_at hl 1 rfl) ?_
  refine z_alen C wd 0 rfl dJ7_fill_53178_3 ?_
  refine lv_istore_n (lv' := [(3, .int (iI ((n : Nat) : Int))), (2, .int (iI 0)), (0, .ref b0), (1, .int (iI x))]) C.1 C.2.1 dJ7_fill_53178_4 rfl hl (by decide) rfl (fun ls hl => ?_)
  refine z_loop2 (P := fun (k : Int) (g : Int → Int) => (0 ≤ k ∧ k ≤ (n : Int)) ∧ (g = flF f k x)) (mu := fun (k : Int) (g : Int → Int) => ((n : Int) - k).toNat) (ws := fun (k : Int) (g : Int → Int) => [zA cy b0 n g]) (lv := fun (k : Int) (g : Int → Int) => [(0, .ref b0), (1, .int (iI x)), (2, .int (iI k)), (3, .int (iI ((n : Nat) : Int)))]) 0 f C ⟨(by omega), (flF_0 f x).symm⟩ wd (lv_sub hl [2, 3, 1, 0] rfl) ?_
  intro k g hP5 ih5 H locs ls wd hl
  obtain ⟨h5_0, h5_1⟩ := hP5
  try dsimp only at h5_0 h5_1
  have wd : Wd D (zT cy cs) _ s.heap s [zA cy b0 n g] H locs := wd
  have hl : lv_has ls 4 [(0, .ref b0), (1, .int (iI x)), (2, .int (iI k)), (3, .int (iI ((n : Nat) : Int)))] := hl
  refine lv_iload_n C.1 C.2.1 dJ7_fill_53178_5 rfl (lv_at hl 2 rfl) ?_
  refine lv_iload_n C.1 C.2.1 dJ7_fill_53178_6 rfl (lv_at hl 3 rfl) ?_
  refine z_icmp_ge C (tgt := 20) dJ7_fill_53178_7 (by decide) (by omega) (fun c_1 => ?_) (fun c_1 => ?_)
  · skip
    have wd := z_cell wd (ws2 := [zA cy b0 n (fun _ => x)]) 0 rfl (by intro j j0 j1; rw [h5_1]; exact if_pos (by omega)) rfl
    exact z_vret C hr hlk wd dJ7_fill_53178_20
  · skip
    refine lv_aload_n C.1 C.2.1 dJ7_fill_53178_10 rfl (lv_at hl 0 rfl) ?_
    refine lv_iload_n C.1 C.2.1 dJ7_fill_53178_11 rfl (lv_at hl 2 rfl) ?_
    refine lv_iload_n C.1 C.2.1 dJ7_fill_53178_12 rfl (lv_at hl 1 rfl) ?_
    refine z_iast C wd (ws2 := [zA cy b0 n (uZ g k x)]) 0 rfl (by omega) (by omega) rfl dJ7_fill_53178_13 (fun H locs wd => ?_)
    refine z_iinc C (lv' := [(2, .int (iI (k + 1))), (0, .ref b0), (1, .int (iI x)), (3, .int (iI ((n : Nat) : Int)))]) hl 2 dJ7_fill_53178_14 rfl (by decide) rfl (fun ls hl => ?_)
    refine z_goto C (tgt := 5) dJ7_fill_53178_17 (by decide) ?_
    exact ih5 (k + 1) (uZ g k x) ⟨(by omega), (by rw [h5_1, flF_step f k x h5_0.1])⟩ (by omega) H locs _ wd (lv_sub hl [1, 2, 0, 3] rfl)
set_option maxRecDepth 100000 in
set_option maxHeartbeats 4000000 in
theorem c_X2_clear (l : Launch) (D : va_G) (cy cs : ClassId) (s0 s1 s2 s3 : Nat) (rg bc : Int)  : zCv l D (zT cy cs) yX2_clear wsX2_clear ({ frames := 0, cells := 0, slots := 0, locals := 0 } : Room) [.ref s0] [zO s0 2 [.int (iI rg), .int (iI bc), .ref s1, .ref s2, .ref s3]] [zO s0 2 [.int (iI 0), .int (iI 0), .ref s1, .ref s2, .ref s3]] := by
  intro sz
  refine zM_mk (cc := cX2_clear) (maxL := 1) (ret := none) (own := RX2) (Qc := fun sz => va_Qv (fun (_ : Unit) => True) (fun _ t => zQ D (zT cy cs) (va_A [zO s0 2 [.int (iI rg), .int (iI bc), .ref s1, .ref s2, .ref s3]] sz) [zO s0 2 [.int (iI 0), .int (iI 0), .ref s1, .ref s2, .ref s3]] t) (va_A [zO s0 2 [.int (iI rg), .int (iI bc), .ref s1, .ref s2, .ref s3]] sz)) (by decide) rfl rfl (Nat.le_of_ble_eq_true rfl) rfl sz ?_
  intro p e s m args below meth c ls C hr hlk hnm hl hsz hA wd
  subst hsz
  have hl : lv_has ls 1 [(0, .ref s0)] := hl
  have iX2 : ∀ w ∈ u_ws RX2 TX2 5, w ∈ wsX2_clear := by decide +kernel
  have L24 := C.2.2.2.2 (.fieldLink RX2 24 "LikelyWalks$Sender" "register" "I") (by decide +kernel)
  have L28 := C.2.2.2.2 (.fieldLink RX2 28 "LikelyWalks$Sender" "bitCount" "I") (by decide +kernel)
  refine lv_aload_n C.1 C.2.1 dX2_clear_0 rfl (lv_at hl 0 rfl) ?_
  refine z_iconst C dX2_clear_1 ?_
  refine z_put C wd (Cn := RX2) (TT := TX2) (N := 5) (ci := 2) (ws2 := [zO s0 2 [.int (iI 0), .int (iI bc), .ref s1, .ref s2, .ref s3]]) iX2 tyX2 tyX2_ok nmX2 0 rfl rfl 0 (by decide) L24 (fun _ h => h) rfl (ty := .int) (by decide +kernel) rfl rfl (Nat.le_of_ble_eq_true rfl) rfl dX2_clear_2 (fun H locs wd => ?_)
  refine lv_aload_n C.1 C.2.1 dX2_clear_5 rfl (lv_at hl 0 rfl) ?_
  refine z_iconst C dX2_clear_6 ?_
  refine z_put C wd (Cn := RX2) (TT := TX2) (N := 5) (ci := 2) (ws2 := [zO s0 2 [.int (iI 0), .int (iI 0), .ref s1, .ref s2, .ref s3]]) iX2 tyX2 tyX2_ok nmX2 0 rfl rfl 1 (by decide) L28 (fun _ h => h) rfl (ty := .int) (by decide +kernel) rfl rfl (Nat.le_of_ble_eq_true rfl) rfl dX2_clear_7 (fun H locs wd => ?_)
  exact z_vret C hr hlk wd dX2_clear_10
set_option maxRecDepth 100000 in
set_option maxHeartbeats 4000000 in
theorem c_X2_copyFrom (l : Launch) (D : va_G) (cy cs : ClassId) (s0 s1 s2 s3 u0 u1 u2 u3 : Nat) (rg bc qg qc : Int) (fb fs_ fo gb gs go : Int → Int)  : zCv l D (zT cy cs) yX2_copyFrom wsX2_copyFrom ({ frames := 1, cells := 0, slots := 0, locals := 18 } : Room) [.ref s0, .ref u0] [zO s0 2 [.int (iI rg), .int (iI bc), .ref s1, .ref s2, .ref s3], zA cy s1 80 fb, zA cy s2 240 fs_, zA cy s3 240 fo, zO u0 2 [.int (iI qg), .int (iI qc), .ref u1, .ref u2, .ref u3], zA cy u1 80 gb, zA cy u2 240 gs, zA cy u3 240 go] [zO s0 2 [.int (iI qg), .int (iI qc), .ref s1, .ref s2, .ref s3], zA cy s1 80 gb, zA cy s2 240 gs, zA cy s3 240 go, zO u0 2 [.int (iI qg), .int (iI qc), .ref u1, .ref u2, .ref u3], zA cy u1 80 gb, zA cy u2 240 gs, zA cy u3 240 go] := by
  intro sz
  refine zM_mk (cc := cX2_copyFrom) (maxL := 2) (ret := none) (own := RX2) (Qc := fun sz => va_Qv (fun (_ : Unit) => True) (fun _ t => zQ D (zT cy cs) (va_A [zO s0 2 [.int (iI rg), .int (iI bc), .ref s1, .ref s2, .ref s3], zA cy s1 80 fb, zA cy s2 240 fs_, zA cy s3 240 fo, zO u0 2 [.int (iI qg), .int (iI qc), .ref u1, .ref u2, .ref u3], zA cy u1 80 gb, zA cy u2 240 gs, zA cy u3 240 go] sz) [zO s0 2 [.int (iI qg), .int (iI qc), .ref s1, .ref s2, .ref s3], zA cy s1 80 gb, zA cy s2 240 gs, zA cy s3 240 go, zO u0 2 [.int (iI qg), .int (iI qc), .ref u1, .ref u2, .ref u3], zA cy u1 80 gb, zA cy u2 240 gs, zA cy u3 240 go] t) (va_A [zO s0 2 [.int (iI rg), .int (iI bc), .ref s1, .ref s2, .ref s3], zA cy s1 80 fb, zA cy s2 240 fs_, zA cy s3 240 fo, zO u0 2 [.int (iI qg), .int (iI qc), .ref u1, .ref u2, .ref u3], zA cy u1 80 gb, zA cy u2 240 gs, zA cy u3 240 go] sz)) (by decide) rfl rfl (Nat.le_of_ble_eq_true rfl) rfl sz ?_
  intro p e s m args below meth c ls C hr hlk hnm hl hsz hA wd
  subst hsz
  have hl : lv_has ls 2 [(0, .ref s0), (1, .ref u0)] := hl
  have iX2 : ∀ w ∈ u_ws RX2 TX2 5, w ∈ wsX2_copyFrom := by decide +kernel
  have L9 := C.2.2.2.2 (.fieldLink RX2 9 "LikelyWalks$Sender" "bits" "[I") (by decide +kernel)
  have L15 := C.2.2.2.2 (.fieldLink RX2 15 "LikelyWalks$Sender" "symbols" "[I") (by decide +kernel)
  have L18 := C.2.2.2.2 (.fieldLink RX2 18 "LikelyWalks$Sender" "originals" "[I") (by decide +kernel)
  have L24 := C.2.2.2.2 (.fieldLink RX2 24 "LikelyWalks$Sender" "register" "I") (by decide +kernel)
  have L28 := C.2.2.2.2 (.fieldLink RX2 28 "LikelyWalks$Sender" "bitCount" "I") (by decide +kernel)
  refine lv_aload_n C.1 C.2.1 dX2_copyFrom_0 rfl (lv_at hl 0 rfl) ?_
  refine lv_aload_n C.1 C.2.1 dX2_copyFrom_1 rfl (lv_at hl 1 rfl) ?_
  refine z_get C wd (Cn := RX2) (TT := TX2) (N := 5) (ci := 2) iX2 4 rfl rfl 0 (by decide) L24 (fun _ h => h) rfl dX2_copyFrom_2 ?_
  refine z_put C wd (Cn := RX2) (TT := TX2) (N := 5) (ci := 2) (ws2 := [zO s0 2 [.int (iI qg), .int (iI bc), .ref s1, .ref s2, .ref s3], zA cy s1 80 fb, zA cy s2 240 fs_, zA cy s3 240 fo, zO u0 2 [.int (iI qg), .int (iI qc), .ref u1, .ref u2, .ref u3], zA cy u1 80 gb, zA cy u2 240 gs, zA cy u3 240 go]) iX2 tyX2 tyX2_ok nmX2 0 rfl rfl 0 (by decide) L24 (fun _ h => h) rfl (ty := .int) (by decide +kernel) rfl rfl (Nat.le_of_ble_eq_true rfl) rfl dX2_copyFrom_5 (fun H locs wd => ?_)
  refine lv_aload_n C.1 C.2.1 dX2_copyFrom_8 rfl (lv_at hl 0 rfl) ?_
  refine lv_aload_n C.1 C.2.1 dX2_copyFrom_9 rfl (lv_at hl 1 rfl) ?_
  refine z_get C wd (Cn := RX2) (TT := TX2) (N := 5) (ci := 2) iX2 4 rfl rfl 1 (by decide) L28 (fun _ h => h) rfl dX2_copyFrom_10 ?_
  refine z_put C wd (Cn := RX2) (TT := TX2) (N := 5) (ci := 2) (ws2 := [zO s0 2 [.int (iI qg), .int (iI qc), .ref s1, .ref s2, .ref s3], zA cy s1 80 fb, zA cy s2 240 fs_, zA cy s3 240 fo, zO u0 2 [.int (iI qg), .int (iI qc), .ref u1, .ref u2, .ref u3], zA cy u1 80 gb, zA cy u2 240 gs, zA cy u3 240 go]) iX2 tyX2 tyX2_ok nmX2 0 rfl rfl 1 (by decide) L28 (fun _ h => h) rfl (ty := .int) (by decide +kernel) rfl rfl (Nat.le_of_ble_eq_true rfl) rfl dX2_copyFrom_13 (fun H locs wd => ?_)
  refine lv_aload_n C.1 C.2.1 dX2_copyFrom_16 rfl (lv_at hl 1 rfl) ?_
  refine z_get C wd (Cn := RX2) (TT := TX2) (N := 5) (ci := 2) iX2 4 rfl rfl 2 (by decide) L9 (fun _ h => h) rfl dX2_copyFrom_17 ?_
  refine z_iconst C dX2_copyFrom_20 ?_
  refine lv_aload_n C.1 C.2.1 dX2_copyFrom_21 rfl (lv_at hl 0 rfl) ?_
  refine z_get C wd (Cn := RX2) (TT := TX2) (N := 5) (ci := 2) iX2 0 rfl rfl 2 (by decide) L9 (fun _ h => h) rfl dX2_copyFrom_22 ?_
  refine z_iconst C dX2_copyFrom_25 ?_
  refine z_bipush C dX2_copyFrom_26 (by decide +kernel) ?_
  refine z_copy C wd (rest := []) (ws2 := [zO s0 2 [.int (iI qg), .int (iI qc), .ref s1, .ref s2, .ref s3], zA cy s1 80 (cpZ gb fb 80), zA cy s2 240 fs_, zA cy s3 240 fo, zO u0 2 [.int (iI qg), .int (iI qc), .ref u1, .ref u2, .ref u3], zA cy u1 80 gb, zA cy u2 240 gs, zA cy u3 240 go]) 5 1 rfl rfl (C.2.2.2.2 (.methodLink RX2 31 arraycopyName) (by decide +kernel)) (C.2.2.2.2 (.native arraycopyName) (by decide +kernel)) (C.2.2.2.2 (.static arraycopyName) (by decide +kernel)) (C.2.2.2.2 (.initialized "java/lang/System") (by decide +kernel)) (by omega) (Nat.le_of_ble_eq_true rfl) (Nat.le_of_ble_eq_true rfl) hl.1 rfl dX2_copyFrom_28 (fun H locs wd => ?_)
  refine lv_aload_n C.1 C.2.1 dX2_copyFrom_31 rfl (lv_at hl 1 rfl) ?_
  refine z_get C wd (Cn := RX2) (TT := TX2) (N := 5) (ci := 2) iX2 4 rfl rfl 3 (by decide) L15 (fun _ h => h) rfl dX2_copyFrom_32 ?_
  refine z_iconst C dX2_copyFrom_35 ?_
  refine lv_aload_n C.1 C.2.1 dX2_copyFrom_36 rfl (lv_at hl 0 rfl) ?_
  refine z_get C wd (Cn := RX2) (TT := TX2) (N := 5) (ci := 2) iX2 0 rfl rfl 3 (by decide) L15 (fun _ h => h) rfl dX2_copyFrom_37 ?_
  refine z_iconst C dX2_copyFrom_40 ?_
  refine z_sipush C dX2_copyFrom_41 (by decide +kernel) ?_
  refine z_copy C wd (rest := []) (ws2 := [zO s0 2 [.int (iI qg), .int (iI qc), .ref s1, .ref s2, .ref s3], zA cy s1 80 (cpZ gb fb 80), zA cy s2 240 (cpZ gs fs_ 240), zA cy s3 240 fo, zO u0 2 [.int (iI qg), .int (iI qc), .ref u1, .ref u2, .ref u3], zA cy u1 80 gb, zA cy u2 240 gs, zA cy u3 240 go]) 6 2 rfl rfl (C.2.2.2.2 (.methodLink RX2 31 arraycopyName) (by decide +kernel)) (C.2.2.2.2 (.native arraycopyName) (by decide +kernel)) (C.2.2.2.2 (.static arraycopyName) (by decide +kernel)) (C.2.2.2.2 (.initialized "java/lang/System") (by decide +kernel)) (by omega) (Nat.le_of_ble_eq_true rfl) (Nat.le_of_ble_eq_true rfl) hl.1 rfl dX2_copyFrom_44 (fun H locs wd => ?_)
  refine lv_aload_n C.1 C.2.1 dX2_copyFrom_47 rfl (lv_at hl 1 rfl) ?_
  refine z_get C wd (Cn := RX2) (TT := TX2) (N := 5) (ci := 2) iX2 4 rfl rfl 4 (by decide) L18 (fun _ h => h) rfl dX2_copyFrom_48 ?_
  refine z_iconst C dX2_copyFrom_51 ?_
  refine lv_aload_n C.1 C.2.1 dX2_copyFrom_52 rfl (lv_at hl 0 rfl) ?_
  refine z_get C wd (Cn := RX2) (TT := TX2) (N := 5) (ci := 2) iX2 0 rfl rfl 4 (by decide) L18 (fun _ h => h) rfl dX2_copyFrom_53 ?_
  refine z_iconst C dX2_copyFrom_56 ?_
  refine z_sipush C dX2_copyFrom_57 (by decide +kernel) ?_
  refine z_copy C wd (rest := []) (ws2 := [zO s0 2 [.int (iI qg), .int (iI qc), .ref s1, .ref s2, .ref s3], zA cy s1 80 (cpZ gb fb 80), zA cy s2 240 (cpZ gs fs_ 240), zA cy s3 240 (cpZ go fo 240), zO u0 2 [.int (iI qg), .int (iI qc), .ref u1, .ref u2, .ref u3], zA cy u1 80 gb, zA cy u2 240 gs, zA cy u3 240 go]) 7 3 rfl rfl (C.2.2.2.2 (.methodLink RX2 31 arraycopyName) (by decide +kernel)) (C.2.2.2.2 (.native arraycopyName) (by decide +kernel)) (C.2.2.2.2 (.static arraycopyName) (by decide +kernel)) (C.2.2.2.2 (.initialized "java/lang/System") (by decide +kernel)) (by omega) (Nat.le_of_ble_eq_true rfl) (Nat.le_of_ble_eq_true rfl) hl.1 rfl dX2_copyFrom_60 (fun H locs wd => ?_)
  have wd := z_cell wd (ws2 := [zO s0 2 [.int (iI qg), .int (iI qc), .ref s1, .ref s2, .ref s3], zA cy s1 80 gb, zA cy s2 240 (cpZ gs fs_ 240), zA cy s3 240 (cpZ go fo 240), zO u0 2 [.int (iI qg), .int (iI qc), .ref u1, .ref u2, .ref u3], zA cy u1 80 gb, zA cy u2 240 gs, zA cy u3 240 go]) 1 rfl (by intro j j0 j1; exact if_pos (by omega)) rfl
  have wd := z_cell wd (ws2 := [zO s0 2 [.int (iI qg), .int (iI qc), .ref s1, .ref s2, .ref s3], zA cy s1 80 gb, zA cy s2 240 gs, zA cy s3 240 (cpZ go fo 240), zO u0 2 [.int (iI qg), .int (iI qc), .ref u1, .ref u2, .ref u3], zA cy u1 80 gb, zA cy u2 240 gs, zA cy u3 240 go]) 2 rfl (by intro j j0 j1; exact if_pos (by omega)) rfl
  have wd := z_cell wd (ws2 := [zO s0 2 [.int (iI qg), .int (iI qc), .ref s1, .ref s2, .ref s3], zA cy s1 80 gb, zA cy s2 240 gs, zA cy s3 240 go, zO u0 2 [.int (iI qg), .int (iI qc), .ref u1, .ref u2, .ref u3], zA cy u1 80 gb, zA cy u2 240 gs, zA cy u3 240 go]) 3 rfl (by intro j j0 j1; exact if_pos (by omega)) rfl
  exact z_vret C hr hlk wd dX2_copyFrom_63
set_option maxRecDepth 100000 in
set_option maxHeartbeats 4000000 in
theorem c_X2_push (l : Launch) (D : va_G) (cy cs : ClassId) (s0 s1 s2 s3 a0 a1 : Nat) (rg bc mm oo b : Int) (fb fs_ fo tp : Int → Int) (hm : 1 ≤ mm ∧ mm ≤ 5) (ho : 2 ≤ oo ∧ oo ≤ 3) (ht : tpOk tp) (hb : 0 ≤ b ∧ b ≤ 1) (hr0 : 0 ≤ rg ∧ rg < p2 mm) (hc : 0 ≤ bc ∧ bc < 80) : zCv l D (zT cy cs) yX2_push wsX2_push ({ frames := 2, cells := 0, slots := 0, locals := 44 } : Room) [.ref s0, .ref a0, .int (iI b)] [zO s0 2 [.int (iI rg), .int (iI bc), .ref s1, .ref s2, .ref s3], zA cy s1 80 fb, zA cy s2 240 fs_, zA cy s3 240 fo, zO a0 0 [.int (iI mm), .int (iI oo), .ref a1], zA cy a1 3 tp] [zO s0 2 [.int (iI (wn mm rg b / 2)), .int (iI (bc + 1)), .ref s1, .ref s2, .ref s3], zA cy s1 80 (uZ fb bc b), zA cy s2 240 (wrS fs_ (bc * oo) oo (fun z9 => sy (tp z9) (wn mm rg b))), zA cy s3 240 (wrS fo (bc * oo) oo (fun z9 => sy (tp z9) (wn mm rg b))), zO a0 0 [.int (iI mm), .int (iI oo), .ref a1], zA cy a1 3 tp] := by
  intro sz
  refine zM_mk (cc := cX2_push) (maxL := 7) (ret := none) (own := RX2) (Qc := fun sz => va_Qv (fun (_ : Unit) => True) (fun _ t => zQ D (zT cy cs) (va_A [zO s0 2 [.int (iI rg), .int (iI bc), .ref s1, .ref s2, .ref s3], zA cy s1 80 fb, zA cy s2 240 fs_, zA cy s3 240 fo, zO a0 0 [.int (iI mm), .int (iI oo), .ref a1], zA cy a1 3 tp] sz) [zO s0 2 [.int (iI (wn mm rg b / 2)), .int (iI (bc + 1)), .ref s1, .ref s2, .ref s3], zA cy s1 80 (uZ fb bc b), zA cy s2 240 (wrS fs_ (bc * oo) oo (fun z9 => sy (tp z9) (wn mm rg b))), zA cy s3 240 (wrS fo (bc * oo) oo (fun z9 => sy (tp z9) (wn mm rg b))), zO a0 0 [.int (iI mm), .int (iI oo), .ref a1], zA cy a1 3 tp] t) (va_A [zO s0 2 [.int (iI rg), .int (iI bc), .ref s1, .ref s2, .ref s3], zA cy s1 80 fb, zA cy s2 240 fs_, zA cy s3 240 fo, zO a0 0 [.int (iI mm), .int (iI oo), .ref a1], zA cy a1 3 tp] sz)) (by decide) rfl rfl (Nat.le_of_ble_eq_true rfl) rfl sz ?_
  intro p e s m args below meth c ls C hr hlk hnm hl hsz hA wd
  subst hsz
  have hl : lv_has ls 7 [(0, .ref s0), (1, .ref a0), (2, .int (iI b))] := hl
  have iX0 : ∀ w ∈ u_ws RX0 TX0 3, w ∈ wsX2_push := by decide +kernel
  have iX2 : ∀ w ∈ u_ws RX2 TX2 5, w ∈ wsX2_push := by decide +kernel
  have L9 := C.2.2.2.2 (.fieldLink RX2 9 "LikelyWalks$Sender" "bits" "[I") (by decide +kernel)
  have L15 := C.2.2.2.2 (.fieldLink RX2 15 "LikelyWalks$Sender" "symbols" "[I") (by decide +kernel)
  have L18 := C.2.2.2.2 (.fieldLink RX2 18 "LikelyWalks$Sender" "originals" "[I") (by decide +kernel)
  have L24 := C.2.2.2.2 (.fieldLink RX2 24 "LikelyWalks$Sender" "register" "I") (by decide +kernel)
  have L28 := C.2.2.2.2 (.fieldLink RX2 28 "LikelyWalks$Sender" "bitCount" "I") (by decide +kernel)
  have L43 := C.2.2.2.2 (.fieldLink RX2 43 "LikelyWalks$Code" "outputs" "I") (by decide +kernel)
  have hw := wn_le hm.1 hm.2 hr0.1 hr0.2 hb.1 hb.2
  have hm3 : 0 ≤ bc * oo ∧ bc * oo + oo ≤ 240 := by rcases (show oo = 2 ∨ oo = 3 by omega) with h | h <;> rw [h] <;> omega
  refine lv_aload_n C.1 C.2.1 dX2_push_0 rfl (lv_at hl 0 rfl) ?_
  refine z_get C wd (Cn := RX2) (TT := TX2) (N := 5) (ci := 2) iX2 0 rfl rfl 1 (by decide) L28 (fun _ h => h) rfl dX2_push_1 ?_
  refine z_bipush C dX2_push_4 (by decide +kernel) ?_
  refine z_icmp_lt C (tgt := 10) dX2_push_6 (by decide) (by omega) (fun c_1 => ?_) (fun c_1 => ?_)
  · skip
    refine lv_aload_n C.1 C.2.1 dX2_push_10 rfl (lv_at hl 1 rfl) ?_
    refine lv_aload_n C.1 C.2.1 dX2_push_11 rfl (lv_at hl 0 rfl) ?_
    refine z_get C wd (Cn := RX2) (TT := TX2) (N := 5) (ci := 2) iX2 0 rfl rfl 0 (by decide) L24 (fun _ h => h) rfl dX2_push_12 ?_
    refine lv_iload_n C.1 C.2.1 dX2_push_15 rfl (lv_at hl 2 rfl) ?_
    refine z_cvi C wd hA (As := [.int (iI rg), .int (iI b)]) (rest := []) (ws2 := [zO s0 2 [.int (iI rg), .int (iI bc), .ref s1, .ref s2, .ref s3], zA cy s1 80 fb, zA cy s2 240 fs_, zA cy s3 240 fo, zO a0 0 [.int (iI mm), .int (iI oo), .ref a1], zA cy a1 3 tp]) (c_X0_windowOf l D cy cs a0 a1 mm oo rg b (by omega) (by omega)) (cwV 2 C.2.2.2.2 gX2_push_X0_windowOf rfl rfl rfl (by decide +kernel) ⟨Nat.le_of_ble_eq_true rfl, Nat.le_of_ble_eq_true rfl⟩) [4] rfl rfl rfl ⟨rfl, [0, 1, 2, 3, 5], [zO s0 2 [.int (iI rg), .int (iI bc), .ref s1, .ref s2, .ref s3], zA cy s1 80 fb, zA cy s2 240 fs_, zA cy s3 240 fo, zA cy a1 3 tp], 6, rfl, rfl, rfl, by decide +kernel⟩ rfl rfl rfl rfl (Nat.le_of_ble_eq_true rfl) hl.1 dX2_push_16 ⟨Nat.zero_le _, Nat.zero_le _⟩ (fun H locs wd => ?_)
    refine lv_istore_n (lv' := [(3, .int (iI (wn mm rg b))), (0, .ref s0), (1, .ref a0), (2, .int (iI b))]) C.1 C.2.1 dX2_push_19 rfl hl (by decide) rfl (fun ls hl => ?_)
    refine lv_aload_n C.1 C.2.1 dX2_push_20 rfl (lv_at hl 1 rfl) ?_
    refine z_get C wd (Cn := RX2) (TT := TX2) (N := 5) (ci := 2) iX2 0 rfl rfl 1 (by decide) L28 (fun _ h => h) rfl dX2_push_21 ?_
    refine lv_aload_n C.1 C.2.1 dX2_push_24 rfl (lv_at hl 2 rfl) ?_
    refine z_get C wd (Cn := RX0) (TT := TX0) (N := 3) (ci := 0) iX0 4 rfl rfl 1 (by decide) L43 (fun _ h => h) rfl dX2_push_25 ?_
    refine z_imul C dX2_push_28 ?_
    refine lv_istore (lv' := [(4, .int (iI (bc * oo))), (3, .int (iI (wn mm rg b))), (0, .ref s0), (1, .ref a0), (2, .int (iI b))]) C.1 C.2.1 dX2_push_29 hl (by decide) rfl (fun ls hl => ?_)
    refine z_iconst C dX2_push_31 ?_
    refine lv_istore (lv' := [(5, .int (iI 0)), (4, .int (iI (bc * oo))), (3, .int (iI (wn mm rg b))), (0, .ref s0), (1, .ref a0), (2, .int (iI b))]) C.1 C.2.1 dX2_push_32 hl (by decide) rfl (fun ls hl => ?_)
    refine z_loop3 (P := fun (k : Int) (g1 : Int → Int) (g2 : Int → Int) => (0 ≤ k ∧ k ≤ oo) ∧ (g1 = wrS fs_ (bc * oo) k (fun z9 => sy (tp z9) (wn mm rg b))) ∧ (g2 = wrS fo (bc * oo) k (fun z9 => sy (tp z9) (wn mm rg b)))) (mu := fun (k : Int) (g1 : Int → Int) (g2 : Int → Int) => (oo - k).toNat) (ws := fun (k : Int) (g1 : Int → Int) (g2 : Int → Int) => [zO s0 2 [.int (iI rg), .int (iI bc), .ref s1, .ref s2, .ref s3], zA cy s1 80 fb, zA cy s2 240 g1, zA cy s3 240 g2, zO a0 0 [.int (iI mm), .int (iI oo), .ref a1], zA cy a1 3 tp]) (lv := fun (k : Int) (g1 : Int → Int) (g2 : Int → Int) => [(0, .ref s0), (1, .ref a0), (2, .int (iI b)), (3, .int (iI (wn mm rg b))), (4, .int (iI (bc * oo))), (5, .int (iI k))]) 0 fs_ fo C ⟨(by omega), (wrS_0 _ _ _).symm, (wrS_0 _ _ _).symm⟩ wd (lv_sub hl [3, 4, 5, 2, 1, 0] rfl) ?_
    intro k g1 g2 hP34 ih34 H locs ls wd hl
    obtain ⟨h34_0, h34_1, h34_2⟩ := hP34
    try dsimp only at h34_0 h34_1 h34_2
    have wd : Wd D (zT cy cs) _ s.heap s [zO s0 2 [.int (iI rg), .int (iI bc), .ref s1, .ref s2, .ref s3], zA cy s1 80 fb, zA cy s2 240 g1, zA cy s3 240 g2, zO a0 0 [.int (iI mm), .int (iI oo), .ref a1], zA cy a1 3 tp] H locs := wd
    have hl : lv_has ls 7 [(0, .ref s0), (1, .ref a0), (2, .int (iI b)), (3, .int (iI (wn mm rg b))), (4, .int (iI (bc * oo))), (5, .int (iI k))] := hl
    refine lv_iload C.1 C.2.1 dX2_push_34 (lv_at hl 5 rfl) ?_
    refine lv_aload_n C.1 C.2.1 dX2_push_36 rfl (lv_at hl 1 rfl) ?_
    refine z_get C wd (Cn := RX0) (TT := TX0) (N := 3) (ci := 0) iX0 4 rfl rfl 1 (by decide) L43 (fun _ h => h) rfl dX2_push_37 ?_
    refine z_icmp_ge C (tgt := 82) dX2_push_40 (by decide) (by omega) (fun c_2 => ?_) (fun c_2 => ?_)
    · skip
      refine lv_aload_n C.1 C.2.1 dX2_push_82 rfl (lv_at hl 0 rfl) ?_
      refine z_get C wd (Cn := RX2) (TT := TX2) (N := 5) (ci := 2) iX2 0 rfl rfl 2 (by decide) L9 (fun _ h => h) rfl dX2_push_83 ?_
      refine lv_aload_n C.1 C.2.1 dX2_push_86 rfl (lv_at hl 0 rfl) ?_
      refine z_get C wd (Cn := RX2) (TT := TX2) (N := 5) (ci := 2) iX2 0 rfl rfl 1 (by decide) L28 (fun _ h => h) rfl dX2_push_87 ?_
      refine lv_iload_n C.1 C.2.1 dX2_push_90 rfl (lv_at hl 2 rfl) ?_
      refine z_iast C wd (ws2 := [zO s0 2 [.int (iI rg), .int (iI bc), .ref s1, .ref s2, .ref s3], zA cy s1 80 (uZ fb bc b), zA cy s2 240 g1, zA cy s3 240 g2, zO a0 0 [.int (iI mm), .int (iI oo), .ref a1], zA cy a1 3 tp]) 1 rfl (by omega) (by decide) rfl dX2_push_91 (fun H locs wd => ?_)
      refine lv_aload_n C.1 C.2.1 dX2_push_92 rfl (lv_at hl 0 rfl) ?_
      refine lv_dup C.1 C.2.1 dX2_push_93 rfl ?_
      refine z_get C wd (Cn := RX2) (TT := TX2) (N := 5) (ci := 2) iX2 0 rfl rfl 1 (by decide) L28 (fun _ h => h) rfl dX2_push_94 ?_
      refine z_iconst C dX2_push_97 ?_
      refine z_iadd C dX2_push_98 ?_
      refine z_put C wd (Cn := RX2) (TT := TX2) (N := 5) (ci := 2) (ws2 := [zO s0 2 [.int (iI rg), .int (iI (bc + 1)), .ref s1, .ref s2, .ref s3], zA cy s1 80 (uZ fb bc b), zA cy s2 240 g1, zA cy s3 240 g2, zO a0 0 [.int (iI mm), .int (iI oo), .ref a1], zA cy a1 3 tp]) iX2 tyX2 tyX2_ok nmX2 0 rfl rfl 1 (by decide) L28 (fun _ h => h) rfl (ty := .int) (by decide +kernel) rfl rfl (Nat.le_of_ble_eq_true rfl) rfl dX2_push_99 (fun H locs wd => ?_)
      refine lv_aload_n C.1 C.2.1 dX2_push_102 rfl (lv_at hl 0 rfl) ?_
      refine lv_aload_n C.1 C.2.1 dX2_push_103 rfl (lv_at hl 1 rfl) ?_
      refine lv_aload_n C.1 C.2.1 dX2_push_104 rfl (lv_at hl 0 rfl) ?_
      refine z_get C wd (Cn := RX2) (TT := TX2) (N := 5) (ci := 2) iX2 0 rfl rfl 0 (by decide) L24 (fun _ h => h) rfl dX2_push_105 ?_
      refine lv_iload_n C.1 C.2.1 dX2_push_108 rfl (lv_at hl 2 rfl) ?_
      refine z_cvi C wd hA (As := [.int (iI rg), .int (iI b)]) (rest := [.ref s0]) (ws2 := [zO s0 2 [.int (iI rg), .int (iI (bc + 1)), .ref s1, .ref s2, .ref s3], zA cy s1 80 (uZ fb bc b), zA cy s2 240 g1, zA cy s3 240 g2, zO a0 0 [.int (iI mm), .int (iI oo), .ref a1], zA cy a1 3 tp]) (c_X0_stateAfter l D cy cs a0 a1 mm oo rg b (by omega) (by omega) (by omega)) (cwV 2 C.2.2.2.2 gX2_push_X0_stateAfter rfl rfl rfl (by decide +kernel) ⟨Nat.le_of_ble_eq_true rfl, Nat.le_of_ble_eq_true rfl⟩) [4] rfl rfl rfl ⟨rfl, [0, 1, 2, 3, 5], [zO s0 2 [.int (iI rg), .int (iI (bc + 1)), .ref s1, .ref s2, .ref s3], zA cy s1 80 (uZ fb bc b), zA cy s2 240 g1, zA cy s3 240 g2, zA cy a1 3 tp], 6, rfl, rfl, rfl, by decide +kernel⟩ rfl rfl rfl rfl (Nat.le_of_ble_eq_true rfl) hl.1 dX2_push_109 ⟨Nat.zero_le _, Nat.zero_le _⟩ (fun H locs wd => ?_)
      refine z_put C wd (Cn := RX2) (TT := TX2) (N := 5) (ci := 2) (ws2 := [zO s0 2 [.int (iI (wn mm rg b / 2)), .int (iI (bc + 1)), .ref s1, .ref s2, .ref s3], zA cy s1 80 (uZ fb bc b), zA cy s2 240 g1, zA cy s3 240 g2, zO a0 0 [.int (iI mm), .int (iI oo), .ref a1], zA cy a1 3 tp]) iX2 tyX2 tyX2_ok nmX2 0 rfl rfl 0 (by decide) L24 (fun _ h => h) rfl (ty := .int) (by decide +kernel) rfl rfl (Nat.le_of_ble_eq_true rfl) rfl dX2_push_112 (fun H locs wd => ?_)
      have wd := z_cell wd (ws2 := [zO s0 2 [.int (iI (wn mm rg b / 2)), .int (iI (bc + 1)), .ref s1, .ref s2, .ref s3], zA cy s1 80 (uZ fb bc b), zA cy s2 240 (wrS fs_ (bc * oo) oo (fun z9 => sy (tp z9) (wn mm rg b))), zA cy s3 240 g2, zO a0 0 [.int (iI mm), .int (iI oo), .ref a1], zA cy a1 3 tp]) 2 rfl (by intro j _ _; rw [h34_1, show k = oo by omega]) rfl
      have wd := z_cell wd (ws2 := [zO s0 2 [.int (iI (wn mm rg b / 2)), .int (iI (bc + 1)), .ref s1, .ref s2, .ref s3], zA cy s1 80 (uZ fb bc b), zA cy s2 240 (wrS fs_ (bc * oo) oo (fun z9 => sy (tp z9) (wn mm rg b))), zA cy s3 240 (wrS fo (bc * oo) oo (fun z9 => sy (tp z9) (wn mm rg b))), zO a0 0 [.int (iI mm), .int (iI oo), .ref a1], zA cy a1 3 tp]) 3 rfl (by intro j _ _; rw [h34_2, show k = oo by omega]) rfl
      exact z_vret C hr hlk wd dX2_push_115
    · skip
      refine lv_aload_n C.1 C.2.1 dX2_push_43 rfl (lv_at hl 1 rfl) ?_
      refine lv_iload C.1 C.2.1 dX2_push_44 (lv_at hl 5 rfl) ?_
      refine lv_iload_n C.1 C.2.1 dX2_push_46 rfl (lv_at hl 3 rfl) ?_
      refine z_cvi C wd hA (As := [.int (iI k), .int (iI (wn mm rg b))]) (rest := []) (ws2 := [zO s0 2 [.int (iI rg), .int (iI bc), .ref s1, .ref s2, .ref s3], zA cy s1 80 fb, zA cy s2 240 g1, zA cy s3 240 g2, zO a0 0 [.int (iI mm), .int (iI oo), .ref a1], zA cy a1 3 tp]) (c_X0_symbolOf l D cy cs a0 a1 mm oo tp k (wn mm rg b) (by omega) (by omega) (by omega)) (cwV 2 C.2.2.2.2 gX2_push_X0_symbolOf rfl rfl rfl (by decide +kernel) ⟨Nat.le_of_ble_eq_true rfl, Nat.le_of_ble_eq_true rfl⟩) [4, 5] rfl rfl rfl ⟨rfl, [0, 1, 2, 3], [zO s0 2 [.int (iI rg), .int (iI bc), .ref s1, .ref s2, .ref s3], zA cy s1 80 fb, zA cy s2 240 g1, zA cy s3 240 g2], 6, rfl, rfl, rfl, by decide +kernel⟩ rfl rfl rfl rfl (Nat.le_of_ble_eq_true rfl) hl.1 dX2_push_47 ⟨Nat.zero_le _, Nat.zero_le _⟩ (fun H locs wd => ?_)
      have hsy := sy_le (tp k) (wn mm rg b)
      refine lv_istore (lv' := [(6, .int (iI (sy (tp k) (wn mm rg b)))), (0, .ref s0), (1, .ref a0), (2, .int (iI b)), (3, .int (iI (wn mm rg b))), (4, .int (iI (bc * oo))), (5, .int (iI k))]) C.1 C.2.1 dX2_push_50 hl (by decide) rfl (fun ls hl => ?_)
      refine lv_aload_n C.1 C.2.1 dX2_push_52 rfl (lv_at hl 1 rfl) ?_
      refine z_get C wd (Cn := RX2) (TT := TX2) (N := 5) (ci := 2) iX2 0 rfl rfl 3 (by decide) L15 (fun _ h => h) rfl dX2_push_53 ?_
      refine lv_iload C.1 C.2.1 dX2_push_56 (lv_at hl 5 rfl) ?_
      refine lv_iload C.1 C.2.1 dX2_push_58 (lv_at hl 6 rfl) ?_
      refine z_iadd C dX2_push_60 ?_
      refine lv_iload C.1 C.2.1 dX2_push_61 (lv_at hl 0 rfl) ?_
      refine z_iast C wd (ws2 := [zO s0 2 [.int (iI rg), .int (iI bc), .ref s1, .ref s2, .ref s3], zA cy s1 80 fb, zA cy s2 240 (uZ g1 ((bc * oo) + k) (sy (tp k) (wn mm rg b))), zA cy s3 240 g2, zO a0 0 [.int (iI mm), .int (iI oo), .ref a1], zA cy a1 3 tp]) 2 rfl (by omega) (by decide) rfl dX2_push_63 (fun H locs wd => ?_)
      refine lv_aload_n C.1 C.2.1 dX2_push_64 rfl (lv_at hl 1 rfl) ?_
      refine z_get C wd (Cn := RX2) (TT := TX2) (N := 5) (ci := 2) iX2 0 rfl rfl 4 (by decide) L18 (fun _ h => h) rfl dX2_push_65 ?_
      refine lv_iload C.1 C.2.1 dX2_push_68 (lv_at hl 5 rfl) ?_
      refine lv_iload C.1 C.2.1 dX2_push_70 (lv_at hl 6 rfl) ?_
      refine z_iadd C dX2_push_72 ?_
      refine lv_iload C.1 C.2.1 dX2_push_73 (lv_at hl 0 rfl) ?_
      refine z_iast C wd (ws2 := [zO s0 2 [.int (iI rg), .int (iI bc), .ref s1, .ref s2, .ref s3], zA cy s1 80 fb, zA cy s2 240 (uZ g1 ((bc * oo) + k) (sy (tp k) (wn mm rg b))), zA cy s3 240 (uZ g2 ((bc * oo) + k) (sy (tp k) (wn mm rg b))), zO a0 0 [.int (iI mm), .int (iI oo), .ref a1], zA cy a1 3 tp]) 3 rfl (by omega) (by decide) rfl dX2_push_75 (fun H locs wd => ?_)
      refine z_iinc C (lv' := [(5, .int (iI (k + 1))), (6, .int (iI (sy (tp k) (wn mm rg b)))), (0, .ref s0), (1, .ref a0), (2, .int (iI b)), (3, .int (iI (wn mm rg b))), (4, .int (iI (bc * oo)))]) hl 6 dX2_push_76 rfl (by decide) rfl (fun ls hl => ?_)
      refine z_goto C (tgt := 34) dX2_push_79 (by decide) ?_
      exact ih34 (k + 1) (uZ g1 ((bc * oo) + k) (sy (tp k) (wn mm rg b))) (uZ g2 ((bc * oo) + k) (sy (tp k) (wn mm rg b))) ⟨(by omega), (by rw [h34_1]; exact wrS_step fs_ (bc * oo) k (fun z9 => sy (tp z9) (wn mm rg b)) h34_0.1), (by rw [h34_2]; exact wrS_step fo (bc * oo) k (fun z9 => sy (tp z9) (wn mm rg b)) h34_0.1)⟩ (by omega) H locs _ wd (lv_sub hl [2, 3, 4, 5, 6, 0] rfl)
  · skip
    exact False.elim (by omega)
set_option maxRecDepth 100000 in
set_option maxHeartbeats 4000000 in
theorem c_X1_clear (l : Launch) (D : va_G) (cy cs : ClassId) (r0 r1 r2 r3 r4 : Nat) (S L N E : Int) (fm : Int → Int)  : zCv l D (zT cy cs) yX1_clear wsX1_clear ({ frames := 1, cells := 0, slots := 0, locals := 23 } : Room) [.ref r0] [zO r0 1 [.int (iI S), .int (iI L), .int (iI N), .int (iI E), .ref r1, .ref r2, .ref r3, .ref r4], zA cy r2 32 fm] [zO r0 1 [.int (iI 0), .int (iI 0), .int (iI 0), .int (iI 0), .ref r1, .ref r2, .ref r3, .ref r4], zA cy r2 32 (uZ (fun _ => -1) 0 0)] := by
  intro sz
  refine zM_mk (cc := cX1_clear) (maxL := 1) (ret := none) (own := RX1) (Qc := fun sz => va_Qv (fun (_ : Unit) => True) (fun _ t => zQ D (zT cy cs) (va_A [zO r0 1 [.int (iI S), .int (iI L), .int (iI N), .int (iI E), .ref r1, .ref r2, .ref r3, .ref r4], zA cy r2 32 fm] sz) [zO r0 1 [.int (iI 0), .int (iI 0), .int (iI 0), .int (iI 0), .ref r1, .ref r2, .ref r3, .ref r4], zA cy r2 32 (uZ (fun _ => -1) 0 0)] t) (va_A [zO r0 1 [.int (iI S), .int (iI L), .int (iI N), .int (iI E), .ref r1, .ref r2, .ref r3, .ref r4], zA cy r2 32 fm] sz)) (by decide) rfl rfl (Nat.le_of_ble_eq_true rfl) rfl sz ?_
  intro p e s m args below meth c ls C hr hlk hnm hl hsz hA wd
  subst hsz
  have hl : lv_has ls 1 [(0, .ref r0)] := hl
  have iX1 : ∀ w ∈ u_ws RX1 TX1 8, w ∈ wsX1_clear := by decide +kernel
  have L15 := C.2.2.2.2 (.fieldLink RX1 15 "LikelyWalks$Reader" "metrics" "[I") (by decide +kernel)
  have L27 := C.2.2.2.2 (.fieldLink RX1 27 "LikelyWalks$Reader" "steps" "I") (by decide +kernel)
  have L31 := C.2.2.2.2 (.fieldLink RX1 31 "LikelyWalks$Reader" "lineSteps" "I") (by decide +kernel)
  have L34 := C.2.2.2.2 (.fieldLink RX1 34 "LikelyWalks$Reader" "releasedCount" "I") (by decide +kernel)
  have L37 := C.2.2.2.2 (.fieldLink RX1 37 "LikelyWalks$Reader" "isFinished" "Z") (by decide +kernel)
  refine lv_aload_n C.1 C.2.1 dX1_clear_0 rfl (lv_at hl 0 rfl) ?_
  refine z_iconst C dX1_clear_1 ?_
  refine z_put C wd (Cn := RX1) (TT := TX1) (N := 8) (ci := 1) (ws2 := [zO r0 1 [.int (iI 0), .int (iI L), .int (iI N), .int (iI E), .ref r1, .ref r2, .ref r3, .ref r4], zA cy r2 32 fm]) iX1 tyX1 tyX1_ok nmX1 0 rfl rfl 0 (by decide) L27 (fun _ h => h) rfl (ty := .int) (by decide +kernel) rfl rfl (Nat.le_of_ble_eq_true rfl) rfl dX1_clear_2 (fun H locs wd => ?_)
  refine lv_aload_n C.1 C.2.1 dX1_clear_5 rfl (lv_at hl 0 rfl) ?_
  refine z_iconst C dX1_clear_6 ?_
  refine z_put C wd (Cn := RX1) (TT := TX1) (N := 8) (ci := 1) (ws2 := [zO r0 1 [.int (iI 0), .int (iI 0), .int (iI N), .int (iI E), .ref r1, .ref r2, .ref r3, .ref r4], zA cy r2 32 fm]) iX1 tyX1 tyX1_ok nmX1 0 rfl rfl 1 (by decide) L31 (fun _ h => h) rfl (ty := .int) (by decide +kernel) rfl rfl (Nat.le_of_ble_eq_true rfl) rfl dX1_clear_7 (fun H locs wd => ?_)
  refine lv_aload_n C.1 C.2.1 dX1_clear_10 rfl (lv_at hl 0 rfl) ?_
  refine z_iconst C dX1_clear_11 ?_
  refine z_put C wd (Cn := RX1) (TT := TX1) (N := 8) (ci := 1) (ws2 := [zO r0 1 [.int (iI 0), .int (iI 0), .int (iI 0), .int (iI E), .ref r1, .ref r2, .ref r3, .ref r4], zA cy r2 32 fm]) iX1 tyX1 tyX1_ok nmX1 0 rfl rfl 2 (by decide) L34 (fun _ h => h) rfl (ty := .int) (by decide +kernel) rfl rfl (Nat.le_of_ble_eq_true rfl) rfl dX1_clear_12 (fun H locs wd => ?_)
  refine lv_aload_n C.1 C.2.1 dX1_clear_15 rfl (lv_at hl 0 rfl) ?_
  refine z_iconst C dX1_clear_16 ?_
  refine z_put C wd (Cn := RX1) (TT := TX1) (N := 8) (ci := 1) (ws2 := [zO r0 1 [.int (iI 0), .int (iI 0), .int (iI 0), .int (iI 0), .ref r1, .ref r2, .ref r3, .ref r4], zA cy r2 32 fm]) iX1 tyX1 tyX1_ok nmX1 0 rfl rfl 3 (by decide) L37 (fun _ h => h) rfl (ty := .boolean) (by decide +kernel) rfl rfl (Nat.le_of_ble_eq_true rfl) rfl dX1_clear_17 (fun H locs wd => ?_)
  refine lv_aload_n C.1 C.2.1 dX1_clear_20 rfl (lv_at hl 0 rfl) ?_
  refine z_get C wd (Cn := RX1) (TT := TX1) (N := 8) (ci := 1) iX1 0 rfl rfl 5 (by decide) L15 (fun _ h => h) rfl dX1_clear_21 ?_
  refine z_iconst C dX1_clear_24 ?_
  refine z_csv C wd hA (As := [.ref r2, .int (iI (-1))]) (rest := []) (ws2 := [zO r0 1 [.int (iI 0), .int (iI 0), .int (iI 0), .int (iI 0), .ref r1, .ref r2, .ref r3, .ref r4], zA cy r2 32 (fun _ => (-1))]) (c_fill l D cy cs r2 32 (-1) fm (by omega)) (va_cwS 2 C.2.2.2.2 gX1_clear_J7_fill_53178 rfl rfl rfl (by decide +kernel) ⟨Nat.le_of_ble_eq_true rfl, Nat.le_of_ble_eq_true rfl⟩) [1] rfl rfl rfl ⟨rfl, [0], [zO r0 1 [.int (iI 0), .int (iI 0), .int (iI 0), .int (iI 0), .ref r1, .ref r2, .ref r3, .ref r4]], 2, rfl, rfl, rfl, by decide +kernel⟩ rfl rfl (Nat.le_of_ble_eq_true rfl) hl.1 dX1_clear_25 ⟨Nat.zero_le _, Nat.zero_le _⟩ (fun H locs wd => ?_)
  refine lv_aload_n C.1 C.2.1 dX1_clear_28 rfl (lv_at hl 0 rfl) ?_
  refine z_get C wd (Cn := RX1) (TT := TX1) (N := 8) (ci := 1) iX1 0 rfl rfl 5 (by decide) L15 (fun _ h => h) rfl dX1_clear_29 ?_
  refine z_iconst C dX1_clear_32 ?_
  refine z_iconst C dX1_clear_33 ?_
  refine z_iast C wd (ws2 := [zO r0 1 [.int (iI 0), .int (iI 0), .int (iI 0), .int (iI 0), .ref r1, .ref r2, .ref r3, .ref r4], zA cy r2 32 (uZ (fun _ => (-1)) 0 0)]) 1 rfl (by omega) (by decide) rfl dX1_clear_34 (fun H locs wd => ?_)
  have wd := z_cell wd (ws2 := [zO r0 1 [.int (iI 0), .int (iI 0), .int (iI 0), .int (iI 0), .ref r1, .ref r2, .ref r3, .ref r4], zA cy r2 32 (uZ (fun _ => -1) 0 0)]) 1 rfl (by intro k hk0 hk1; first | rfl | omega) rfl
  exact z_vret C hr hlk wd dX1_clear_35
set_option maxRecDepth 100000 in
set_option maxHeartbeats 4000000 in
theorem c_X1_copyFrom (l : Launch) (D : va_G) (cy cs : ClassId) (r0 r1 r2 r3 r4 : Nat) (S L N E : Int) (r0q r1q r2q r3q r4q : Nat) (Sq Lq Nq Eq : Int) (fr fm fu gr gm gu : Int → Int) (hE : Eq = 0 ∨ Eq = 1) : zCv l D (zT cy cs) yX1_copyFrom wsX1_copyFrom ({ frames := 1, cells := 0, slots := 0, locals := 18 } : Room) [.ref r0, .ref r0q] [zO r0 1 [.int (iI S), .int (iI L), .int (iI N), .int (iI E), .ref r1, .ref r2, .ref r3, .ref r4], zA cy r1 80 fr, zA cy r2 32 fm, zA cy r4 80 fu, zO r0q 1 [.int (iI Sq), .int (iI Lq), .int (iI Nq), .int (iI Eq), .ref r1q, .ref r2q, .ref r3q, .ref r4q], zA cy r1q 80 gr, zA cy r2q 32 gm, zA cy r4q 80 gu] [zO r0 1 [.int (iI Sq), .int (iI Lq), .int (iI Nq), .int (iI Eq), .ref r1, .ref r2, .ref r3, .ref r4], zA cy r1 80 gr, zA cy r2 32 gm, zA cy r4 80 gu, zO r0q 1 [.int (iI Sq), .int (iI Lq), .int (iI Nq), .int (iI Eq), .ref r1q, .ref r2q, .ref r3q, .ref r4q], zA cy r1q 80 gr, zA cy r2q 32 gm, zA cy r4q 80 gu] := by
  intro sz
  refine zM_mk (cc := cX1_copyFrom) (maxL := 2) (ret := none) (own := RX1) (Qc := fun sz => va_Qv (fun (_ : Unit) => True) (fun _ t => zQ D (zT cy cs) (va_A [zO r0 1 [.int (iI S), .int (iI L), .int (iI N), .int (iI E), .ref r1, .ref r2, .ref r3, .ref r4], zA cy r1 80 fr, zA cy r2 32 fm, zA cy r4 80 fu, zO r0q 1 [.int (iI Sq), .int (iI Lq), .int (iI Nq), .int (iI Eq), .ref r1q, .ref r2q, .ref r3q, .ref r4q], zA cy r1q 80 gr, zA cy r2q 32 gm, zA cy r4q 80 gu] sz) [zO r0 1 [.int (iI Sq), .int (iI Lq), .int (iI Nq), .int (iI Eq), .ref r1, .ref r2, .ref r3, .ref r4], zA cy r1 80 gr, zA cy r2 32 gm, zA cy r4 80 gu, zO r0q 1 [.int (iI Sq), .int (iI Lq), .int (iI Nq), .int (iI Eq), .ref r1q, .ref r2q, .ref r3q, .ref r4q], zA cy r1q 80 gr, zA cy r2q 32 gm, zA cy r4q 80 gu] t) (va_A [zO r0 1 [.int (iI S), .int (iI L), .int (iI N), .int (iI E), .ref r1, .ref r2, .ref r3, .ref r4], zA cy r1 80 fr, zA cy r2 32 fm, zA cy r4 80 fu, zO r0q 1 [.int (iI Sq), .int (iI Lq), .int (iI Nq), .int (iI Eq), .ref r1q, .ref r2q, .ref r3q, .ref r4q], zA cy r1q 80 gr, zA cy r2q 32 gm, zA cy r4q 80 gu] sz)) (by decide) rfl rfl (Nat.le_of_ble_eq_true rfl) rfl sz ?_
  intro p e s m args below meth c ls C hr hlk hnm hl hsz hA wd
  subst hsz
  have hl : lv_has ls 2 [(0, .ref r0), (1, .ref r0q)] := hl
  have iX1 : ∀ w ∈ u_ws RX1 TX1 8, w ∈ wsX1_copyFrom := by decide +kernel
  have L9 := C.2.2.2.2 (.fieldLink RX1 9 "LikelyWalks$Reader" "releasedBits" "[I") (by decide +kernel)
  have L15 := C.2.2.2.2 (.fieldLink RX1 15 "LikelyWalks$Reader" "metrics" "[I") (by decide +kernel)
  have L21 := C.2.2.2.2 (.fieldLink RX1 21 "LikelyWalks$Reader" "fromUpper" "[I") (by decide +kernel)
  have L27 := C.2.2.2.2 (.fieldLink RX1 27 "LikelyWalks$Reader" "steps" "I") (by decide +kernel)
  have L31 := C.2.2.2.2 (.fieldLink RX1 31 "LikelyWalks$Reader" "lineSteps" "I") (by decide +kernel)
  have L34 := C.2.2.2.2 (.fieldLink RX1 34 "LikelyWalks$Reader" "releasedCount" "I") (by decide +kernel)
  have L37 := C.2.2.2.2 (.fieldLink RX1 37 "LikelyWalks$Reader" "isFinished" "Z") (by decide +kernel)
  refine lv_aload_n C.1 C.2.1 dX1_copyFrom_0 rfl (lv_at hl 0 rfl) ?_
  refine lv_aload_n C.1 C.2.1 dX1_copyFrom_1 rfl (lv_at hl 1 rfl) ?_
  refine z_get C wd (Cn := RX1) (TT := TX1) (N := 8) (ci := 1) iX1 4 rfl rfl 0 (by decide) L27 (fun _ h => h) rfl dX1_copyFrom_2 ?_
  refine z_put C wd (Cn := RX1) (TT := TX1) (N := 8) (ci := 1) (ws2 := [zO r0 1 [.int (iI Sq), .int (iI L), .int (iI N), .int (iI E), .ref r1, .ref r2, .ref r3, .ref r4], zA cy r1 80 fr, zA cy r2 32 fm, zA cy r4 80 fu, zO r0q 1 [.int (iI Sq), .int (iI Lq), .int (iI Nq), .int (iI Eq), .ref r1q, .ref r2q, .ref r3q, .ref r4q], zA cy r1q 80 gr, zA cy r2q 32 gm, zA cy r4q 80 gu]) iX1 tyX1 tyX1_ok nmX1 0 rfl rfl 0 (by decide) L27 (fun _ h => h) rfl (ty := .int) (by decide +kernel) rfl rfl (Nat.le_of_ble_eq_true rfl) rfl dX1_copyFrom_5 (fun H locs wd => ?_)
  refine lv_aload_n C.1 C.2.1 dX1_copyFrom_8 rfl (lv_at hl 0 rfl) ?_
  refine lv_aload_n C.1 C.2.1 dX1_copyFrom_9 rfl (lv_at hl 1 rfl) ?_
  refine z_get C wd (Cn := RX1) (TT := TX1) (N := 8) (ci := 1) iX1 4 rfl rfl 1 (by decide) L31 (fun _ h => h) rfl dX1_copyFrom_10 ?_
  refine z_put C wd (Cn := RX1) (TT := TX1) (N := 8) (ci := 1) (ws2 := [zO r0 1 [.int (iI Sq), .int (iI Lq), .int (iI N), .int (iI E), .ref r1, .ref r2, .ref r3, .ref r4], zA cy r1 80 fr, zA cy r2 32 fm, zA cy r4 80 fu, zO r0q 1 [.int (iI Sq), .int (iI Lq), .int (iI Nq), .int (iI Eq), .ref r1q, .ref r2q, .ref r3q, .ref r4q], zA cy r1q 80 gr, zA cy r2q 32 gm, zA cy r4q 80 gu]) iX1 tyX1 tyX1_ok nmX1 0 rfl rfl 1 (by decide) L31 (fun _ h => h) rfl (ty := .int) (by decide +kernel) rfl rfl (Nat.le_of_ble_eq_true rfl) rfl dX1_copyFrom_13 (fun H locs wd => ?_)
  refine lv_aload_n C.1 C.2.1 dX1_copyFrom_16 rfl (lv_at hl 0 rfl) ?_
  refine lv_aload_n C.1 C.2.1 dX1_copyFrom_17 rfl (lv_at hl 1 rfl) ?_
  refine z_get C wd (Cn := RX1) (TT := TX1) (N := 8) (ci := 1) iX1 4 rfl rfl 2 (by decide) L34 (fun _ h => h) rfl dX1_copyFrom_18 ?_
  refine z_put C wd (Cn := RX1) (TT := TX1) (N := 8) (ci := 1) (ws2 := [zO r0 1 [.int (iI Sq), .int (iI Lq), .int (iI Nq), .int (iI E), .ref r1, .ref r2, .ref r3, .ref r4], zA cy r1 80 fr, zA cy r2 32 fm, zA cy r4 80 fu, zO r0q 1 [.int (iI Sq), .int (iI Lq), .int (iI Nq), .int (iI Eq), .ref r1q, .ref r2q, .ref r3q, .ref r4q], zA cy r1q 80 gr, zA cy r2q 32 gm, zA cy r4q 80 gu]) iX1 tyX1 tyX1_ok nmX1 0 rfl rfl 2 (by decide) L34 (fun _ h => h) rfl (ty := .int) (by decide +kernel) rfl rfl (Nat.le_of_ble_eq_true rfl) rfl dX1_copyFrom_21 (fun H locs wd => ?_)
  refine lv_aload_n C.1 C.2.1 dX1_copyFrom_24 rfl (lv_at hl 0 rfl) ?_
  refine lv_aload_n C.1 C.2.1 dX1_copyFrom_25 rfl (lv_at hl 1 rfl) ?_
  refine z_get C wd (Cn := RX1) (TT := TX1) (N := 8) (ci := 1) iX1 4 rfl rfl 3 (by decide) L37 (fun _ h => h) rfl dX1_copyFrom_26 ?_
  refine z_put C wd (Cn := RX1) (TT := TX1) (N := 8) (ci := 1) (ws2 := [zO r0 1 [.int (iI Sq), .int (iI Lq), .int (iI Nq), .int (iI Eq), .ref r1, .ref r2, .ref r3, .ref r4], zA cy r1 80 fr, zA cy r2 32 fm, zA cy r4 80 fu, zO r0q 1 [.int (iI Sq), .int (iI Lq), .int (iI Nq), .int (iI Eq), .ref r1q, .ref r2q, .ref r3q, .ref r4q], zA cy r1q 80 gr, zA cy r2q 32 gm, zA cy r4q 80 gu]) iX1 tyX1 tyX1_ok nmX1 0 rfl rfl 3 (by decide) L37 (fun _ h => h) rfl (ty := .boolean) (by decide +kernel) (z_bnar hE) (z_bfit hE) (Nat.le_of_ble_eq_true rfl) rfl dX1_copyFrom_29 (fun H locs wd => ?_)
  refine lv_aload_n C.1 C.2.1 dX1_copyFrom_32 rfl (lv_at hl 1 rfl) ?_
  refine z_get C wd (Cn := RX1) (TT := TX1) (N := 8) (ci := 1) iX1 4 rfl rfl 4 (by decide) L9 (fun _ h => h) rfl dX1_copyFrom_33 ?_
  refine z_iconst C dX1_copyFrom_36 ?_
  refine lv_aload_n C.1 C.2.1 dX1_copyFrom_37 rfl (lv_at hl 0 rfl) ?_
  refine z_get C wd (Cn := RX1) (TT := TX1) (N := 8) (ci := 1) iX1 0 rfl rfl 4 (by decide) L9 (fun _ h => h) rfl dX1_copyFrom_38 ?_
  refine z_iconst C dX1_copyFrom_41 ?_
  refine z_bipush C dX1_copyFrom_42 (by decide +kernel) ?_
  refine z_copy C wd (rest := []) (ws2 := [zO r0 1 [.int (iI Sq), .int (iI Lq), .int (iI Nq), .int (iI Eq), .ref r1, .ref r2, .ref r3, .ref r4], zA cy r1 80 (cpZ gr fr 80), zA cy r2 32 fm, zA cy r4 80 fu, zO r0q 1 [.int (iI Sq), .int (iI Lq), .int (iI Nq), .int (iI Eq), .ref r1q, .ref r2q, .ref r3q, .ref r4q], zA cy r1q 80 gr, zA cy r2q 32 gm, zA cy r4q 80 gu]) 5 1 rfl rfl (C.2.2.2.2 (.methodLink RX1 47 arraycopyName) (by decide +kernel)) (C.2.2.2.2 (.native arraycopyName) (by decide +kernel)) (C.2.2.2.2 (.static arraycopyName) (by decide +kernel)) (C.2.2.2.2 (.initialized "java/lang/System") (by decide +kernel)) (by omega) (Nat.le_of_ble_eq_true rfl) (Nat.le_of_ble_eq_true rfl) hl.1 rfl dX1_copyFrom_44 (fun H locs wd => ?_)
  refine lv_aload_n C.1 C.2.1 dX1_copyFrom_47 rfl (lv_at hl 1 rfl) ?_
  refine z_get C wd (Cn := RX1) (TT := TX1) (N := 8) (ci := 1) iX1 4 rfl rfl 5 (by decide) L15 (fun _ h => h) rfl dX1_copyFrom_48 ?_
  refine z_iconst C dX1_copyFrom_51 ?_
  refine lv_aload_n C.1 C.2.1 dX1_copyFrom_52 rfl (lv_at hl 0 rfl) ?_
  refine z_get C wd (Cn := RX1) (TT := TX1) (N := 8) (ci := 1) iX1 0 rfl rfl 5 (by decide) L15 (fun _ h => h) rfl dX1_copyFrom_53 ?_
  refine z_iconst C dX1_copyFrom_56 ?_
  refine z_bipush C dX1_copyFrom_57 (by decide +kernel) ?_
  refine z_copy C wd (rest := []) (ws2 := [zO r0 1 [.int (iI Sq), .int (iI Lq), .int (iI Nq), .int (iI Eq), .ref r1, .ref r2, .ref r3, .ref r4], zA cy r1 80 (cpZ gr fr 80), zA cy r2 32 (cpZ gm fm 32), zA cy r4 80 fu, zO r0q 1 [.int (iI Sq), .int (iI Lq), .int (iI Nq), .int (iI Eq), .ref r1q, .ref r2q, .ref r3q, .ref r4q], zA cy r1q 80 gr, zA cy r2q 32 gm, zA cy r4q 80 gu]) 6 2 rfl rfl (C.2.2.2.2 (.methodLink RX1 47 arraycopyName) (by decide +kernel)) (C.2.2.2.2 (.native arraycopyName) (by decide +kernel)) (C.2.2.2.2 (.static arraycopyName) (by decide +kernel)) (C.2.2.2.2 (.initialized "java/lang/System") (by decide +kernel)) (by omega) (Nat.le_of_ble_eq_true rfl) (Nat.le_of_ble_eq_true rfl) hl.1 rfl dX1_copyFrom_59 (fun H locs wd => ?_)
  refine lv_aload_n C.1 C.2.1 dX1_copyFrom_62 rfl (lv_at hl 1 rfl) ?_
  refine z_get C wd (Cn := RX1) (TT := TX1) (N := 8) (ci := 1) iX1 4 rfl rfl 7 (by decide) L21 (fun _ h => h) rfl dX1_copyFrom_63 ?_
  refine z_iconst C dX1_copyFrom_66 ?_
  refine lv_aload_n C.1 C.2.1 dX1_copyFrom_67 rfl (lv_at hl 0 rfl) ?_
  refine z_get C wd (Cn := RX1) (TT := TX1) (N := 8) (ci := 1) iX1 0 rfl rfl 7 (by decide) L21 (fun _ h => h) rfl dX1_copyFrom_68 ?_
  refine z_iconst C dX1_copyFrom_71 ?_
  refine z_bipush C dX1_copyFrom_72 (by decide +kernel) ?_
  refine z_copy C wd (rest := []) (ws2 := [zO r0 1 [.int (iI Sq), .int (iI Lq), .int (iI Nq), .int (iI Eq), .ref r1, .ref r2, .ref r3, .ref r4], zA cy r1 80 (cpZ gr fr 80), zA cy r2 32 (cpZ gm fm 32), zA cy r4 80 (cpZ gu fu 80), zO r0q 1 [.int (iI Sq), .int (iI Lq), .int (iI Nq), .int (iI Eq), .ref r1q, .ref r2q, .ref r3q, .ref r4q], zA cy r1q 80 gr, zA cy r2q 32 gm, zA cy r4q 80 gu]) 7 3 rfl rfl (C.2.2.2.2 (.methodLink RX1 47 arraycopyName) (by decide +kernel)) (C.2.2.2.2 (.native arraycopyName) (by decide +kernel)) (C.2.2.2.2 (.static arraycopyName) (by decide +kernel)) (C.2.2.2.2 (.initialized "java/lang/System") (by decide +kernel)) (by omega) (Nat.le_of_ble_eq_true rfl) (Nat.le_of_ble_eq_true rfl) hl.1 rfl dX1_copyFrom_74 (fun H locs wd => ?_)
  have wd := z_cell wd (ws2 := [zO r0 1 [.int (iI Sq), .int (iI Lq), .int (iI Nq), .int (iI Eq), .ref r1, .ref r2, .ref r3, .ref r4], zA cy r1 80 gr, zA cy r2 32 (cpZ gm fm 32), zA cy r4 80 (cpZ gu fu 80), zO r0q 1 [.int (iI Sq), .int (iI Lq), .int (iI Nq), .int (iI Eq), .ref r1q, .ref r2q, .ref r3q, .ref r4q], zA cy r1q 80 gr, zA cy r2q 32 gm, zA cy r4q 80 gu]) 1 rfl (by intro j j0 j1; exact if_pos (by omega)) rfl
  have wd := z_cell wd (ws2 := [zO r0 1 [.int (iI Sq), .int (iI Lq), .int (iI Nq), .int (iI Eq), .ref r1, .ref r2, .ref r3, .ref r4], zA cy r1 80 gr, zA cy r2 32 gm, zA cy r4 80 (cpZ gu fu 80), zO r0q 1 [.int (iI Sq), .int (iI Lq), .int (iI Nq), .int (iI Eq), .ref r1q, .ref r2q, .ref r3q, .ref r4q], zA cy r1q 80 gr, zA cy r2q 32 gm, zA cy r4q 80 gu]) 2 rfl (by intro j j0 j1; exact if_pos (by omega)) rfl
  have wd := z_cell wd (ws2 := [zO r0 1 [.int (iI Sq), .int (iI Lq), .int (iI Nq), .int (iI Eq), .ref r1, .ref r2, .ref r3, .ref r4], zA cy r1 80 gr, zA cy r2 32 gm, zA cy r4 80 gu, zO r0q 1 [.int (iI Sq), .int (iI Lq), .int (iI Nq), .int (iI Eq), .ref r1q, .ref r2q, .ref r3q, .ref r4q], zA cy r1q 80 gr, zA cy r2q 32 gm, zA cy r4q 80 gu]) 3 rfl (by intro j j0 j1; exact if_pos (by omega)) rfl
  exact z_vret C hr hlk wd dX1_copyFrom_77
set_option maxRecDepth 100000 in
set_option maxHeartbeats 4000000 in
theorem c_X1_metricOver (l : Launch) (D : va_G) (cy cs : ClassId) (r0 r1 r2 r3 r4 a0 a1 a2 n : Nat) (S L N E mm oo : Int) (tp fm f : Int → Int) (x b q : Int) (hm : 1 ≤ mm ∧ mm ≤ 5) (ho : 2 ≤ oo ∧ oo ≤ 3) (ht : tpOk tp) (hf : rwOk f n) (hn : n < 2147483648) (hq : 0 ≤ q ∧ q + oo ≤ n) (hx : 0 ≤ x ∧ x < p2 mm) (hb : 0 ≤ b ∧ b ≤ 1) (hS : 0 ≤ S ∧ S ≤ 80) (hme : mtOk fm S) : zCi l D (zT cy cs) yX1_metricOver wsX1_metricOver ({ frames := 3, cells := 0, slots := 0, locals := 70 } : Room) [.ref r0, .ref a0, .int (iI x), .int (iI b), .ref a2, .int (iI q)] [zO r0 1 [.int (iI S), .int (iI L), .int (iI N), .int (iI E), .ref r1, .ref r2, .ref r3, .ref r4], zA cy r2 32 fm, zO a0 0 [.int (iI mm), .int (iI oo), .ref a1], zA cy a1 3 tp, zA cy a2 n f] (mo oo tp fm f q mm x b) [zO r0 1 [.int (iI S), .int (iI L), .int (iI N), .int (iI E), .ref r1, .ref r2, .ref r3, .ref r4], zA cy r2 32 fm, zO a0 0 [.int (iI mm), .int (iI oo), .ref a1], zA cy a1 3 tp, zA cy a2 n f] := by
  intro sz
  refine zM_mk (cc := cX1_metricOver) (maxL := 6) (ret := (some .int)) (own := RX1) (Qc := fun sz => va_Qi (fun r (_ : Unit) => r = iI (mo oo tp fm f q mm x b)) (fun _ t => zQ D (zT cy cs) (va_A [zO r0 1 [.int (iI S), .int (iI L), .int (iI N), .int (iI E), .ref r1, .ref r2, .ref r3, .ref r4], zA cy r2 32 fm, zO a0 0 [.int (iI mm), .int (iI oo), .ref a1], zA cy a1 3 tp, zA cy a2 n f] sz) [zO r0 1 [.int (iI S), .int (iI L), .int (iI N), .int (iI E), .ref r1, .ref r2, .ref r3, .ref r4], zA cy r2 32 fm, zO a0 0 [.int (iI mm), .int (iI oo), .ref a1], zA cy a1 3 tp, zA cy a2 n f] t) (va_A [zO r0 1 [.int (iI S), .int (iI L), .int (iI N), .int (iI E), .ref r1, .ref r2, .ref r3, .ref r4], zA cy r2 32 fm, zO a0 0 [.int (iI mm), .int (iI oo), .ref a1], zA cy a1 3 tp, zA cy a2 n f] sz)) (by decide) rfl rfl (Nat.le_of_ble_eq_true rfl) rfl sz ?_
  intro p e s m args below meth c ls C hr hlk hnm hl hsz hA wd
  subst hsz
  have hl : lv_has ls 6 [(0, .ref r0), (1, .ref a0), (2, .int (iI x)), (3, .int (iI b)), (4, .ref a2), (5, .int (iI q))] := hl
  have iX1 : ∀ w ∈ u_ws RX1 TX1 8, w ∈ wsX1_metricOver := by decide +kernel
  have L15 := C.2.2.2.2 (.fieldLink RX1 15 "LikelyWalks$Reader" "metrics" "[I") (by decide +kernel)
  have hp := p2_all hm.1 hm.2
  have hfx := hme x hx.1 (by omega)
  refine lv_aload_n C.1 C.2.1 dX1_metricOver_0 rfl (lv_at hl 0 rfl) ?_
  refine z_get C wd (Cn := RX1) (TT := TX1) (N := 8) (ci := 1) iX1 0 rfl rfl 5 (by decide) L15 (fun _ h => h) rfl dX1_metricOver_1 ?_
  refine lv_iload_n C.1 C.2.1 dX1_metricOver_4 rfl (lv_at hl 2 rfl) ?_
  refine z_iald C wd 1 rfl (by omega) (by decide) dX1_metricOver_5 ?_
  refine z_iconst C dX1_metricOver_6 ?_
  refine z_icmp_ne C (tgt := 12) dX1_metricOver_7 (by decide) (by omega) (fun c_1 => ?_) (fun c_1 => ?_)
  · skip
    refine lv_aload_n C.1 C.2.1 dX1_metricOver_12 rfl (lv_at hl 0 rfl) ?_
    refine z_get C wd (Cn := RX1) (TT := TX1) (N := 8) (ci := 1) iX1 0 rfl rfl 5 (by decide) L15 (fun _ h => h) rfl dX1_metricOver_13 ?_
    refine lv_iload_n C.1 C.2.1 dX1_metricOver_16 rfl (lv_at hl 2 rfl) ?_
    refine z_iald C wd 1 rfl (by omega) (by decide) dX1_metricOver_17 ?_
    refine lv_aload_n C.1 C.2.1 dX1_metricOver_18 rfl (lv_at hl 1 rfl) ?_
    refine lv_iload_n C.1 C.2.1 dX1_metricOver_19 rfl (lv_at hl 2 rfl) ?_
    refine lv_iload_n C.1 C.2.1 dX1_metricOver_20 rfl (lv_at hl 3 rfl) ?_
    refine lv_aload C.1 C.2.1 dX1_metricOver_21 (lv_at hl 4 rfl) ?_
    refine lv_iload C.1 C.2.1 dX1_metricOver_23 (lv_at hl 5 rfl) ?_
    refine z_cvi C wd hA (As := [.int (iI x), .int (iI b), .ref a2, .int (iI q)]) (rest := [.int (iI (fm x))]) (ws2 := [zO r0 1 [.int (iI S), .int (iI L), .int (iI N), .int (iI E), .ref r1, .ref r2, .ref r3, .ref r4], zA cy r2 32 fm, zO a0 0 [.int (iI mm), .int (iI oo), .ref a1], zA cy a1 3 tp, zA cy a2 n f]) (c_X0_priceOf l D cy cs a0 a1 a2 n mm oo tp f x b q (by omega) (by omega) (by omega) (by omega) (by omega) (by omega) (by omega) (by omega)) (cwV 4 C.2.2.2.2 gX1_metricOver_X0_priceOf rfl rfl rfl (by decide +kernel) ⟨Nat.le_of_ble_eq_true rfl, Nat.le_of_ble_eq_true rfl⟩) [2, 3, 4] rfl rfl rfl ⟨rfl, [0, 1], [zO r0 1 [.int (iI S), .int (iI L), .int (iI N), .int (iI E), .ref r1, .ref r2, .ref r3, .ref r4], zA cy r2 32 fm], 5, rfl, rfl, rfl, by decide +kernel⟩ rfl rfl rfl rfl (Nat.le_of_ble_eq_true rfl) hl.1 dX1_metricOver_25 ⟨Nat.zero_le _, Nat.zero_le _⟩ (fun H locs wd => ?_)
    refine z_iadd C dX1_metricOver_28 ?_
    exact z_iret C hr hlk wd (by rw [mo, if_neg (by omega)]) dX1_metricOver_29
  · skip
    refine z_iconst C dX1_metricOver_10 ?_
    exact z_iret C hr hlk wd (by rw [mo, if_pos (by omega)]) dX1_metricOver_11
set_option maxRecDepth 100000 in
set_option maxHeartbeats 4000000 in
theorem c_X1_stateBefore (l : Launch) (D : va_G) (cy cs : ClassId) (r0 r1 r2 r3 r4 a0 a1 : Nat) (S L N E mm oo : Int) (fu : Int → Int) (st j : Int) (hm : 1 ≤ mm ∧ mm ≤ 5) (hs : 0 ≤ st ∧ st < p2 mm) (hj : 0 ≤ j ∧ j < 80) (hu : ∀ k : Int, 0 ≤ k → k < 80 → 0 ≤ fu k ∧ fu k < 4294967296) : zCi l D (zT cy cs) yX1_stateBefore wsX1_stateBefore ({ frames := 2, cells := 0, slots := 0, locals := 41 } : Room) [.ref r0, .ref a0, .int (iI st), .int (iI j)] [zO r0 1 [.int (iI S), .int (iI L), .int (iI N), .int (iI E), .ref r1, .ref r2, .ref r3, .ref r4], zA cy r4 80 fu, zO a0 0 [.int (iI mm), .int (iI oo), .ref a1]] (pv mm (fu j) st) [zO r0 1 [.int (iI S), .int (iI L), .int (iI N), .int (iI E), .ref r1, .ref r2, .ref r3, .ref r4], zA cy r4 80 fu, zO a0 0 [.int (iI mm), .int (iI oo), .ref a1]] := by
  intro sz
  refine zM_mk (cc := cX1_stateBefore) (maxL := 4) (ret := (some .int)) (own := RX1) (Qc := fun sz => va_Qi (fun r (_ : Unit) => r = iI (pv mm (fu j) st)) (fun _ t => zQ D (zT cy cs) (va_A [zO r0 1 [.int (iI S), .int (iI L), .int (iI N), .int (iI E), .ref r1, .ref r2, .ref r3, .ref r4], zA cy r4 80 fu, zO a0 0 [.int (iI mm), .int (iI oo), .ref a1]] sz) [zO r0 1 [.int (iI S), .int (iI L), .int (iI N), .int (iI E), .ref r1, .ref r2, .ref r3, .ref r4], zA cy r4 80 fu, zO a0 0 [.int (iI mm), .int (iI oo), .ref a1]] t) (va_A [zO r0 1 [.int (iI S), .int (iI L), .int (iI N), .int (iI E), .ref r1, .ref r2, .ref r3, .ref r4], zA cy r4 80 fu, zO a0 0 [.int (iI mm), .int (iI oo), .ref a1]] sz)) (by decide) rfl rfl (Nat.le_of_ble_eq_true rfl) rfl sz ?_
  intro p e s m args below meth c ls C hr hlk hnm hl hsz hA wd
  subst hsz
  have hl : lv_has ls 4 [(0, .ref r0), (1, .ref a0), (2, .int (iI st)), (3, .int (iI j))] := hl
  have iX1 : ∀ w ∈ u_ws RX1 TX1 8, w ∈ wsX1_stateBefore := by decide +kernel
  have L21 := C.2.2.2.2 (.fieldLink RX1 21 "LikelyWalks$Reader" "fromUpper" "[I") (by decide +kernel)
  have hp := p2_all hm.1 hm.2
  have huj := hu j hj.1 hj.2
  refine lv_aload_n C.1 C.2.1 dX1_stateBefore_0 rfl (lv_at hl 1 rfl) ?_
  refine lv_iload_n C.1 C.2.1 dX1_stateBefore_1 rfl (lv_at hl 2 rfl) ?_
  refine z_cvi C wd hA (As := [.int (iI st)]) (rest := []) (ws2 := [zO r0 1 [.int (iI S), .int (iI L), .int (iI N), .int (iI E), .ref r1, .ref r2, .ref r3, .ref r4], zA cy r4 80 fu, zO a0 0 [.int (iI mm), .int (iI oo), .ref a1]]) (c_X0_lowerBefore l D cy cs a0 a1 mm oo st (by omega) (by omega)) (cwV 1 C.2.2.2.2 gX1_stateBefore_X0_lowerBefore rfl rfl rfl (by decide +kernel) ⟨Nat.le_of_ble_eq_true rfl, Nat.le_of_ble_eq_true rfl⟩) [2] rfl rfl rfl ⟨rfl, [0, 1], [zO r0 1 [.int (iI S), .int (iI L), .int (iI N), .int (iI E), .ref r1, .ref r2, .ref r3, .ref r4], zA cy r4 80 fu], 3, rfl, rfl, rfl, by decide +kernel⟩ rfl rfl rfl rfl (Nat.le_of_ble_eq_true rfl) hl.1 dX1_stateBefore_2 ⟨Nat.zero_le _, Nat.zero_le _⟩ (fun H locs wd => ?_)
  refine lv_aload_n C.1 C.2.1 dX1_stateBefore_5 rfl (lv_at hl 0 rfl) ?_
  refine z_get C wd (Cn := RX1) (TT := TX1) (N := 8) (ci := 1) iX1 0 rfl rfl 7 (by decide) L21 (fun _ h => h) rfl dX1_stateBefore_6 ?_
  refine lv_iload_n C.1 C.2.1 dX1_stateBefore_9 rfl (lv_at hl 3 rfl) ?_
  refine z_iald C wd 1 rfl (by omega) (by decide) dX1_stateBefore_10 ?_
  refine lv_iload_n C.1 C.2.1 dX1_stateBefore_11 rfl (lv_at hl 2 rfl) ?_
  refine z_ishr C (sg (fu j) / p2 st) dX1_stateBefore_12 (iI_bit1 huj.1 huj.2 hs.1 (by omega)) ?_
  refine z_iconst C dX1_stateBefore_13 ?_
  refine z_iand C (fu j / p2 st % 2) dX1_stateBefore_14 (iI_bit2 hs.1 (by omega)) ?_
  refine z_iadd C dX1_stateBefore_15 ?_
  exact z_iret C hr hlk wd (by first | rfl | omega) dX1_stateBefore_16
set_option maxRecDepth 100000 in
set_option maxHeartbeats 4000000 in
theorem c_X1_releaseUpTo (l : Launch) (D : va_G) (cy cs : ClassId) (r0 r1 r2 r3 r4 a0 a1 : Nat) (S L N E mm oo : Int) (fr fu : Int → Int) (st z : Int) (hm : 1 ≤ mm ∧ mm ≤ 5) (hs : 0 ≤ st ∧ st < p2 mm) (hu : ∀ k : Int, 0 ≤ k → k < 80 → 0 ≤ fu k ∧ fu k < 4294967296) (hS : 0 ≤ S ∧ S ≤ 80) (hN : 0 ≤ N ∧ N ≤ S) (hz : z ≤ S ∧ N ≤ z) : zCv l D (zT cy cs) yX1_releaseUpTo wsX1_releaseUpTo ({ frames := 3, cells := 0, slots := 0, locals := 64 } : Room) [.ref r0, .ref a0, .int (iI st), .int (iI z)] [zO r0 1 [.int (iI S), .int (iI L), .int (iI N), .int (iI E), .ref r1, .ref r2, .ref r3, .ref r4], zA cy r1 80 fr, zA cy r4 80 fu, zO a0 0 [.int (iI mm), .int (iI oo), .ref a1]] [zO r0 1 [.int (iI S), .int (iI L), .int (iI z), .int (iI E), .ref r1, .ref r2, .ref r3, .ref r4], zA cy r1 80 (rlF mm fu S st fr N z (N - 1)), zA cy r4 80 fu, zO a0 0 [.int (iI mm), .int (iI oo), .ref a1]] := by
  intro sz
  refine zM_mk (cc := cX1_releaseUpTo) (maxL := 6) (ret := none) (own := RX1) (Qc := fun sz => va_Qv (fun (_ : Unit) => True) (fun _ t => zQ D (zT cy cs) (va_A [zO r0 1 [.int (iI S), .int (iI L), .int (iI N), .int (iI E), .ref r1, .ref r2, .ref r3, .ref r4], zA cy r1 80 fr, zA cy r4 80 fu, zO a0 0 [.int (iI mm), .int (iI oo), .ref a1]] sz) [zO r0 1 [.int (iI S), .int (iI L), .int (iI z), .int (iI E), .ref r1, .ref r2, .ref r3, .ref r4], zA cy r1 80 (rlF mm fu S st fr N z (N - 1)), zA cy r4 80 fu, zO a0 0 [.int (iI mm), .int (iI oo), .ref a1]] t) (va_A [zO r0 1 [.int (iI S), .int (iI L), .int (iI N), .int (iI E), .ref r1, .ref r2, .ref r3, .ref r4], zA cy r1 80 fr, zA cy r4 80 fu, zO a0 0 [.int (iI mm), .int (iI oo), .ref a1]] sz)) (by decide) rfl rfl (Nat.le_of_ble_eq_true rfl) rfl sz ?_
  intro p e s m args below meth c ls C hr hlk hnm hl hsz hA wd
  subst hsz
  have hl : lv_has ls 6 [(0, .ref r0), (1, .ref a0), (2, .int (iI st)), (3, .int (iI z))] := hl
  have iX1 : ∀ w ∈ u_ws RX1 TX1 8, w ∈ wsX1_releaseUpTo := by decide +kernel
  have L9 := C.2.2.2.2 (.fieldLink RX1 9 "LikelyWalks$Reader" "releasedBits" "[I") (by decide +kernel)
  have L27 := C.2.2.2.2 (.fieldLink RX1 27 "LikelyWalks$Reader" "steps" "I") (by decide +kernel)
  have L34 := C.2.2.2.2 (.fieldLink RX1 34 "LikelyWalks$Reader" "releasedCount" "I") (by decide +kernel)
  refine lv_iload_n C.1 C.2.1 dX1_releaseUpTo_0 rfl (lv_at hl 2 rfl) ?_
  refine lv_istore (lv' := [(4, .int (iI st)), (0, .ref r0), (1, .ref a0), (2, .int (iI st)), (3, .int (iI z))]) C.1 C.2.1 dX1_releaseUpTo_1 hl (by decide) rfl (fun ls hl => ?_)
  refine lv_aload_n C.1 C.2.1 dX1_releaseUpTo_3 rfl (lv_at hl 1 rfl) ?_
  refine z_get C wd (Cn := RX1) (TT := TX1) (N := 8) (ci := 1) iX1 0 rfl rfl 0 (by decide) L27 (fun _ h => h) rfl dX1_releaseUpTo_4 ?_
  refine z_iconst C dX1_releaseUpTo_7 ?_
  refine z_isub C dX1_releaseUpTo_8 ?_
  refine lv_istore (lv' := [(5, .int (iI (S - 1))), (4, .int (iI st)), (0, .ref r0), (1, .ref a0), (2, .int (iI st)), (3, .int (iI z))]) C.1 C.2.1 dX1_releaseUpTo_9 hl (by decide) rfl (fun ls hl => ?_)
  refine z_loop3 (P := fun (x : Int) (k : Int) (g : Int → Int) => (N - 1 ≤ k ∧ k ≤ S - 1) ∧ (x = bk mm fu S st (S - 1 - k).toNat) ∧ (g = rlF mm fu S st fr N z k) ∧ (0 ≤ x ∧ x < p2 mm)) (mu := fun (x : Int) (k : Int) (g : Int → Int) => (k - N + 1).toNat) (ws := fun (x : Int) (k : Int) (g : Int → Int) => [zO r0 1 [.int (iI S), .int (iI L), .int (iI N), .int (iI E), .ref r1, .ref r2, .ref r3, .ref r4], zA cy r1 80 g, zA cy r4 80 fu, zO a0 0 [.int (iI mm), .int (iI oo), .ref a1]]) (lv := fun (x : Int) (k : Int) (g : Int → Int) => [(0, .ref r0), (1, .ref a0), (2, .int (iI st)), (3, .int (iI z)), (4, .int (iI x)), (5, .int (iI k))]) st (S - 1) fr C ⟨(by omega), (by rw [show (S - 1 - (S - 1)).toNat = 0 by omega]; rfl), (rlF_0 (by omega)).symm, (by omega)⟩ wd (lv_sub hl [2, 3, 4, 5, 1, 0] rfl) ?_
  intro x k g hP11 ih11 H locs ls wd hl
  obtain ⟨h11_0, h11_1, h11_2, h11_3⟩ := hP11
  try dsimp only at h11_0 h11_1 h11_2 h11_3
  have wd : Wd D (zT cy cs) _ s.heap s [zO r0 1 [.int (iI S), .int (iI L), .int (iI N), .int (iI E), .ref r1, .ref r2, .ref r3, .ref r4], zA cy r1 80 g, zA cy r4 80 fu, zO a0 0 [.int (iI mm), .int (iI oo), .ref a1]] H locs := wd
  have hl : lv_has ls 6 [(0, .ref r0), (1, .ref a0), (2, .int (iI st)), (3, .int (iI z)), (4, .int (iI x)), (5, .int (iI k))] := hl
  refine lv_iload C.1 C.2.1 dX1_releaseUpTo_11 (lv_at hl 5 rfl) ?_
  refine lv_aload_n C.1 C.2.1 dX1_releaseUpTo_13 rfl (lv_at hl 0 rfl) ?_
  refine z_get C wd (Cn := RX1) (TT := TX1) (N := 8) (ci := 1) iX1 0 rfl rfl 2 (by decide) L34 (fun _ h => h) rfl dX1_releaseUpTo_14 ?_
  refine z_icmp_lt C (tgt := 56) dX1_releaseUpTo_17 (by decide) (by omega) (fun c_1 => ?_) (fun c_1 => ?_)
  · skip
    refine lv_aload_n C.1 C.2.1 dX1_releaseUpTo_56 rfl (lv_at hl 0 rfl) ?_
    refine lv_iload_n C.1 C.2.1 dX1_releaseUpTo_57 rfl (lv_at hl 3 rfl) ?_
    refine z_put C wd (Cn := RX1) (TT := TX1) (N := 8) (ci := 1) (ws2 := [zO r0 1 [.int (iI S), .int (iI L), .int (iI z), .int (iI E), .ref r1, .ref r2, .ref r3, .ref r4], zA cy r1 80 g, zA cy r4 80 fu, zO a0 0 [.int (iI mm), .int (iI oo), .ref a1]]) iX1 tyX1 tyX1_ok nmX1 0 rfl rfl 2 (by decide) L34 (fun _ h => h) rfl (ty := .int) (by decide +kernel) rfl rfl (Nat.le_of_ble_eq_true rfl) rfl dX1_releaseUpTo_58 (fun H locs wd => ?_)
    have wd := z_cell wd (ws2 := [zO r0 1 [.int (iI S), .int (iI L), .int (iI z), .int (iI E), .ref r1, .ref r2, .ref r3, .ref r4], zA cy r1 80 (rlF mm fu S st fr N z (N - 1)), zA cy r4 80 fu, zO a0 0 [.int (iI mm), .int (iI oo), .ref a1]]) 1 rfl (by intro j _ _; rw [h11_2, rlF_e (j := N - 1) (by omega) (by omega)]) rfl
    exact z_vret C hr hlk wd dX1_releaseUpTo_61
  · skip
    refine lv_iload C.1 C.2.1 dX1_releaseUpTo_20 (lv_at hl 5 rfl) ?_
    refine lv_iload_n C.1 C.2.1 dX1_releaseUpTo_22 rfl (lv_at hl 3 rfl) ?_
    refine z_icmp_ge C (tgt := 39) dX1_releaseUpTo_23 (by decide) (by omega) (fun c_2 => ?_) (fun c_2 => ?_)
    · skip
      refine lv_aload_n C.1 C.2.1 dX1_releaseUpTo_39 rfl (lv_at hl 0 rfl) ?_
      refine lv_aload_n C.1 C.2.1 dX1_releaseUpTo_40 rfl (lv_at hl 1 rfl) ?_
      refine lv_iload C.1 C.2.1 dX1_releaseUpTo_41 (lv_at hl 4 rfl) ?_
      refine lv_iload C.1 C.2.1 dX1_releaseUpTo_43 (lv_at hl 5 rfl) ?_
      refine z_cvi C wd hA (As := [.ref a0, .int (iI x), .int (iI k)]) (rest := []) (ws2 := [zO r0 1 [.int (iI S), .int (iI L), .int (iI N), .int (iI E), .ref r1, .ref r2, .ref r3, .ref r4], zA cy r1 80 g, zA cy r4 80 fu, zO a0 0 [.int (iI mm), .int (iI oo), .ref a1]]) (c_X1_stateBefore l D cy cs r0 r1 r2 r3 r4 a0 a1 S L N E mm oo fu x k (by omega) (by omega) (by omega) (by omega)) (cwV 3 C.2.2.2.2 gX1_releaseUpTo_X1_stateBefore rfl rfl rfl (by decide +kernel) ⟨Nat.le_of_ble_eq_true rfl, Nat.le_of_ble_eq_true rfl⟩) [0, 2, 3] rfl rfl rfl ⟨rfl, [1], [zA cy r1 80 g], 4, rfl, rfl, rfl, by decide +kernel⟩ rfl rfl rfl rfl (Nat.le_of_ble_eq_true rfl) hl.1 dX1_releaseUpTo_45 ⟨Nat.zero_le _, Nat.zero_le _⟩ (fun H locs wd => ?_)
      refine lv_istore (lv' := [(4, .int (iI (pv mm (fu k) x))), (0, .ref r0), (1, .ref a0), (2, .int (iI st)), (3, .int (iI z)), (5, .int (iI k))]) C.1 C.2.1 dX1_releaseUpTo_48 hl (by decide) rfl (fun ls hl => ?_)
      refine z_iinc C (lv' := [(5, .int (iI (k + (-1)))), (4, .int (iI (pv mm (fu k) x))), (0, .ref r0), (1, .ref a0), (2, .int (iI st)), (3, .int (iI z))]) hl 5 dX1_releaseUpTo_50 rfl (by decide) rfl (fun ls hl => ?_)
      refine z_goto C (tgt := 11) dX1_releaseUpTo_53 (by decide) ?_
      exact ih11 (pv mm (fu k) x) (k + (-1)) g ⟨(by omega), (by rw [show k + (-1) = k - 1 by omega, bk_at (by omega), h11_1]), (by rw [show k + (-1) = k - 1 by omega, h11_2]; first | (rw [h11_1]; exact rlF_step (by omega) (by omega)) | exact rlF_skip (by omega)), (pv_le hm.1 hm.2)⟩ (by omega) H locs _ wd (lv_sub hl [2, 3, 4, 5, 1, 0] rfl)
    · skip
      refine lv_aload_n C.1 C.2.1 dX1_releaseUpTo_26 rfl (lv_at hl 0 rfl) ?_
      refine z_get C wd (Cn := RX1) (TT := TX1) (N := 8) (ci := 1) iX1 0 rfl rfl 4 (by decide) L9 (fun _ h => h) rfl dX1_releaseUpTo_27 ?_
      refine lv_iload C.1 C.2.1 dX1_releaseUpTo_30 (lv_at hl 5 rfl) ?_
      refine lv_aload_n C.1 C.2.1 dX1_releaseUpTo_32 rfl (lv_at hl 1 rfl) ?_
      refine lv_iload C.1 C.2.1 dX1_releaseUpTo_33 (lv_at hl 4 rfl) ?_
      refine z_cvi C wd hA (As := [.int (iI x)]) (rest := [.int (iI k), .ref r1]) (ws2 := [zO r0 1 [.int (iI S), .int (iI L), .int (iI N), .int (iI E), .ref r1, .ref r2, .ref r3, .ref r4], zA cy r1 80 g, zA cy r4 80 fu, zO a0 0 [.int (iI mm), .int (iI oo), .ref a1]]) (c_X0_bitInto l D cy cs a0 a1 mm oo x (by omega) (by omega)) (cwV 1 C.2.2.2.2 gX1_releaseUpTo_X0_bitInto rfl rfl rfl (by decide +kernel) ⟨Nat.le_of_ble_eq_true rfl, Nat.le_of_ble_eq_true rfl⟩) [3] rfl rfl rfl ⟨rfl, [0, 1, 2], [zO r0 1 [.int (iI S), .int (iI L), .int (iI N), .int (iI E), .ref r1, .ref r2, .ref r3, .ref r4], zA cy r1 80 g, zA cy r4 80 fu], 4, rfl, rfl, rfl, by decide +kernel⟩ rfl rfl rfl rfl (Nat.le_of_ble_eq_true rfl) hl.1 dX1_releaseUpTo_35 ⟨Nat.zero_le _, Nat.zero_le _⟩ (fun H locs wd => ?_)
      refine z_iast C wd (ws2 := [zO r0 1 [.int (iI S), .int (iI L), .int (iI N), .int (iI E), .ref r1, .ref r2, .ref r3, .ref r4], zA cy r1 80 (uZ g k (x / p2 (mm - 1))), zA cy r4 80 fu, zO a0 0 [.int (iI mm), .int (iI oo), .ref a1]]) 1 rfl (by omega) (by decide) rfl dX1_releaseUpTo_38 (fun H locs wd => ?_)
      refine lv_aload_n C.1 C.2.1 dX1_releaseUpTo_39 rfl (lv_at hl 0 rfl) ?_
      refine lv_aload_n C.1 C.2.1 dX1_releaseUpTo_40 rfl (lv_at hl 1 rfl) ?_
      refine lv_iload C.1 C.2.1 dX1_releaseUpTo_41 (lv_at hl 4 rfl) ?_
      refine lv_iload C.1 C.2.1 dX1_releaseUpTo_43 (lv_at hl 5 rfl) ?_
      refine z_cvi C wd hA (As := [.ref a0, .int (iI x), .int (iI k)]) (rest := []) (ws2 := [zO r0 1 [.int (iI S), .int (iI L), .int (iI N), .int (iI E), .ref r1, .ref r2, .ref r3, .ref r4], zA cy r1 80 (uZ g k (x / p2 (mm - 1))), zA cy r4 80 fu, zO a0 0 [.int (iI mm), .int (iI oo), .ref a1]]) (c_X1_stateBefore l D cy cs r0 r1 r2 r3 r4 a0 a1 S L N E mm oo fu x k (by omega) (by omega) (by omega) (by omega)) (cwV 3 C.2.2.2.2 gX1_releaseUpTo_X1_stateBefore rfl rfl rfl (by decide +kernel) ⟨Nat.le_of_ble_eq_true rfl, Nat.le_of_ble_eq_true rfl⟩) [0, 2, 3] rfl rfl rfl ⟨rfl, [1], [zA cy r1 80 (uZ g k (x / p2 (mm - 1)))], 4, rfl, rfl, rfl, by decide +kernel⟩ rfl rfl rfl rfl (Nat.le_of_ble_eq_true rfl) hl.1 dX1_releaseUpTo_45 ⟨Nat.zero_le _, Nat.zero_le _⟩ (fun H locs wd => ?_)
      refine lv_istore (lv' := [(4, .int (iI (pv mm (fu k) x))), (0, .ref r0), (1, .ref a0), (2, .int (iI st)), (3, .int (iI z)), (5, .int (iI k))]) C.1 C.2.1 dX1_releaseUpTo_48 hl (by decide) rfl (fun ls hl => ?_)
      refine z_iinc C (lv' := [(5, .int (iI (k + (-1)))), (4, .int (iI (pv mm (fu k) x))), (0, .ref r0), (1, .ref a0), (2, .int (iI st)), (3, .int (iI z))]) hl 5 dX1_releaseUpTo_50 rfl (by decide) rfl (fun ls hl => ?_)
      refine z_goto C (tgt := 11) dX1_releaseUpTo_53 (by decide) ?_
      exact ih11 (pv mm (fu k) x) (k + (-1)) (uZ g k (x / p2 (mm - 1))) ⟨(by omega), (by rw [show k + (-1) = k - 1 by omega, bk_at (by omega), h11_1]), (by rw [show k + (-1) = k - 1 by omega, h11_2]; first | (rw [h11_1]; exact rlF_step (by omega) (by omega)) | exact rlF_skip (by omega)), (pv_le hm.1 hm.2)⟩ (by omega) H locs _ wd (lv_sub hl [2, 3, 4, 5, 1, 0] rfl)
set_option maxRecDepth 100000 in
set_option maxHeartbeats 4000000 in
theorem c_X1_survivorBit (l : Launch) (D : va_G) (cy cs : ClassId) (r0 r1 r2 r3 r4 a0 a1 : Nat) (S L N E mm oo : Int) (fu : Int → Int) (st z : Int) (hm : 1 ≤ mm ∧ mm ≤ 5) (hs : 0 ≤ st ∧ st < p2 mm) (hu : ∀ k : Int, 0 ≤ k → k < 80 → 0 ≤ fu k ∧ fu k < 4294967296) (hS : 0 ≤ S ∧ S ≤ 80) (hz : 0 ≤ z ∧ z < S) : zCi l D (zT cy cs) yX1_survivorBit wsX1_survivorBit ({ frames := 3, cells := 0, slots := 0, locals := 64 } : Room) [.ref r0, .ref a0, .int (iI st), .int (iI z)] [zO r0 1 [.int (iI S), .int (iI L), .int (iI N), .int (iI E), .ref r1, .ref r2, .ref r3, .ref r4], zA cy r4 80 fu, zO a0 0 [.int (iI mm), .int (iI oo), .ref a1]] (sb mm fu S st (S - 1 - z)) [zO r0 1 [.int (iI S), .int (iI L), .int (iI N), .int (iI E), .ref r1, .ref r2, .ref r3, .ref r4], zA cy r4 80 fu, zO a0 0 [.int (iI mm), .int (iI oo), .ref a1]] := by
  intro sz
  refine zM_mk (cc := cX1_survivorBit) (maxL := 6) (ret := (some .int)) (own := RX1) (Qc := fun sz => va_Qi (fun r (_ : Unit) => r = iI (sb mm fu S st (S - 1 - z))) (fun _ t => zQ D (zT cy cs) (va_A [zO r0 1 [.int (iI S), .int (iI L), .int (iI N), .int (iI E), .ref r1, .ref r2, .ref r3, .ref r4], zA cy r4 80 fu, zO a0 0 [.int (iI mm), .int (iI oo), .ref a1]] sz) [zO r0 1 [.int (iI S), .int (iI L), .int (iI N), .int (iI E), .ref r1, .ref r2, .ref r3, .ref r4], zA cy r4 80 fu, zO a0 0 [.int (iI mm), .int (iI oo), .ref a1]] t) (va_A [zO r0 1 [.int (iI S), .int (iI L), .int (iI N), .int (iI E), .ref r1, .ref r2, .ref r3, .ref r4], zA cy r4 80 fu, zO a0 0 [.int (iI mm), .int (iI oo), .ref a1]] sz)) (by decide) rfl rfl (Nat.le_of_ble_eq_true rfl) rfl sz ?_
  intro p e s m args below meth c ls C hr hlk hnm hl hsz hA wd
  subst hsz
  have hl : lv_has ls 6 [(0, .ref r0), (1, .ref a0), (2, .int (iI st)), (3, .int (iI z))] := hl
  have iX1 : ∀ w ∈ u_ws RX1 TX1 8, w ∈ wsX1_survivorBit := by decide +kernel
  have L27 := C.2.2.2.2 (.fieldLink RX1 27 "LikelyWalks$Reader" "steps" "I") (by decide +kernel)
  refine lv_iload_n C.1 C.2.1 dX1_survivorBit_0 rfl (lv_at hl 2 rfl) ?_
  refine lv_istore (lv' := [(4, .int (iI st)), (0, .ref r0), (1, .ref a0), (2, .int (iI st)), (3, .int (iI z))]) C.1 C.2.1 dX1_survivorBit_1 hl (by decide) rfl (fun ls hl => ?_)
  refine z_iconst C dX1_survivorBit_3 ?_
  refine lv_istore (lv' := [(5, .int (iI 0)), (4, .int (iI st)), (0, .ref r0), (1, .ref a0), (2, .int (iI st)), (3, .int (iI z))]) C.1 C.2.1 dX1_survivorBit_4 hl (by decide) rfl (fun ls hl => ?_)
  refine z_loop2 (P := fun (x : Int) (k : Int) => (0 ≤ k ∧ k ≤ z) ∧ (x = bk mm fu S st k.toNat) ∧ (0 ≤ x ∧ x < p2 mm)) (mu := fun (x : Int) (k : Int) => (z - k).toNat) (ws := fun (x : Int) (k : Int) => [zO r0 1 [.int (iI S), .int (iI L), .int (iI N), .int (iI E), .ref r1, .ref r2, .ref r3, .ref r4], zA cy r4 80 fu, zO a0 0 [.int (iI mm), .int (iI oo), .ref a1]]) (lv := fun (x : Int) (k : Int) => [(0, .ref r0), (1, .ref a0), (2, .int (iI st)), (3, .int (iI z)), (4, .int (iI x)), (5, .int (iI k))]) st 0 C ⟨(by omega), rfl, (by omega)⟩ wd (lv_sub hl [2, 3, 4, 5, 1, 0] rfl) ?_
  intro x k hP6 ih6 H locs ls wd hl
  obtain ⟨h6_0, h6_1, h6_2⟩ := hP6
  try dsimp only at h6_0 h6_1 h6_2
  have wd : Wd D (zT cy cs) _ s.heap s [zO r0 1 [.int (iI S), .int (iI L), .int (iI N), .int (iI E), .ref r1, .ref r2, .ref r3, .ref r4], zA cy r4 80 fu, zO a0 0 [.int (iI mm), .int (iI oo), .ref a1]] H locs := wd
  have hl : lv_has ls 6 [(0, .ref r0), (1, .ref a0), (2, .int (iI st)), (3, .int (iI z)), (4, .int (iI x)), (5, .int (iI k))] := hl
  refine lv_iload C.1 C.2.1 dX1_survivorBit_6 (lv_at hl 5 rfl) ?_
  refine lv_iload_n C.1 C.2.1 dX1_survivorBit_8 rfl (lv_at hl 3 rfl) ?_
  refine z_icmp_ge C (tgt := 36) dX1_survivorBit_9 (by decide) (by omega) (fun c_1 => ?_) (fun c_1 => ?_)
  · skip
    refine lv_aload_n C.1 C.2.1 dX1_survivorBit_36 rfl (lv_at hl 1 rfl) ?_
    refine lv_iload C.1 C.2.1 dX1_survivorBit_37 (lv_at hl 4 rfl) ?_
    refine z_cvi C wd hA (As := [.int (iI x)]) (rest := []) (ws2 := [zO r0 1 [.int (iI S), .int (iI L), .int (iI N), .int (iI E), .ref r1, .ref r2, .ref r3, .ref r4], zA cy r4 80 fu, zO a0 0 [.int (iI mm), .int (iI oo), .ref a1]]) (c_X0_bitInto l D cy cs a0 a1 mm oo x (by omega) (by omega)) (cwV 1 C.2.2.2.2 gX1_survivorBit_X0_bitInto rfl rfl rfl (by decide +kernel) ⟨Nat.le_of_ble_eq_true rfl, Nat.le_of_ble_eq_true rfl⟩) [2] rfl rfl rfl ⟨rfl, [0, 1], [zO r0 1 [.int (iI S), .int (iI L), .int (iI N), .int (iI E), .ref r1, .ref r2, .ref r3, .ref r4], zA cy r4 80 fu], 3, rfl, rfl, rfl, by decide +kernel⟩ rfl rfl rfl rfl (Nat.le_of_ble_eq_true rfl) hl.1 dX1_survivorBit_39 ⟨Nat.zero_le _, Nat.zero_le _⟩ (fun H locs wd => ?_)
    exact z_iret C hr hlk wd (by rw [sb, h6_1, show k.toNat = (S - 1 - (S - 1 - z)).toNat by omega]) dX1_survivorBit_42
  · skip
    refine lv_aload_n C.1 C.2.1 dX1_survivorBit_12 rfl (lv_at hl 0 rfl) ?_
    refine lv_aload_n C.1 C.2.1 dX1_survivorBit_13 rfl (lv_at hl 1 rfl) ?_
    refine lv_iload C.1 C.2.1 dX1_survivorBit_14 (lv_at hl 4 rfl) ?_
    refine lv_aload_n C.1 C.2.1 dX1_survivorBit_16 rfl (lv_at hl 0 rfl) ?_
    refine z_get C wd (Cn := RX1) (TT := TX1) (N := 8) (ci := 1) iX1 0 rfl rfl 0 (by decide) L27 (fun _ h => h) rfl dX1_survivorBit_17 ?_
    refine z_iconst C dX1_survivorBit_20 ?_
    refine z_isub C dX1_survivorBit_21 ?_
    refine lv_iload C.1 C.2.1 dX1_survivorBit_22 (lv_at hl 5 rfl) ?_
    refine z_isub C dX1_survivorBit_24 ?_
    refine z_cvi C wd hA (As := [.ref a0, .int (iI x), .int (iI ((S - 1) - k))]) (rest := []) (ws2 := [zO r0 1 [.int (iI S), .int (iI L), .int (iI N), .int (iI E), .ref r1, .ref r2, .ref r3, .ref r4], zA cy r4 80 fu, zO a0 0 [.int (iI mm), .int (iI oo), .ref a1]]) (c_X1_stateBefore l D cy cs r0 r1 r2 r3 r4 a0 a1 S L N E mm oo fu x ((S - 1) - k) (by omega) (by omega) (by omega) (by omega)) (cwV 3 C.2.2.2.2 gX1_survivorBit_X1_stateBefore rfl rfl rfl (by decide +kernel) ⟨Nat.le_of_ble_eq_true rfl, Nat.le_of_ble_eq_true rfl⟩) [0, 1, 2] rfl rfl rfl ⟨rfl, [], [], 3, rfl, rfl, rfl, by decide +kernel⟩ rfl rfl rfl rfl (Nat.le_of_ble_eq_true rfl) hl.1 dX1_survivorBit_25 ⟨Nat.zero_le _, Nat.zero_le _⟩ (fun H locs wd => ?_)
    refine lv_istore (lv' := [(4, .int (iI (pv mm (fu ((S - 1) - k)) x))), (0, .ref r0), (1, .ref a0), (2, .int (iI st)), (3, .int (iI z)), (5, .int (iI k))]) C.1 C.2.1 dX1_survivorBit_28 hl (by decide) rfl (fun ls hl => ?_)
    refine z_iinc C (lv' := [(5, .int (iI (k + 1))), (4, .int (iI (pv mm (fu ((S - 1) - k)) x))), (0, .ref r0), (1, .ref a0), (2, .int (iI st)), (3, .int (iI z))]) hl 5 dX1_survivorBit_30 rfl (by decide) rfl (fun ls hl => ?_)
    refine z_goto C (tgt := 6) dX1_survivorBit_33 (by decide) ?_
    exact ih6 (pv mm (fu ((S - 1) - k)) x) (k + 1) ⟨(by omega), (by rw [h6_1, show (k + 1).toNat = k.toNat + 1 by omega, bk, Int.toNat_of_nonneg h6_0.1]), (pv_le hm.1 hm.2)⟩ (by omega) H locs _ wd (lv_sub hl [2, 3, 4, 5, 1, 0] rfl)
set_option maxRecDepth 100000 in
set_option maxHeartbeats 4000000 in
theorem c_X1_bestState (l : Launch) (D : va_G) (cy cs : ClassId) (r0 r1 r2 r3 r4 a0 a1 : Nat) (S L N E mm oo : Int) (fm : Int → Int) (hm : 1 ≤ mm ∧ mm ≤ 5) (hS : 0 ≤ S ∧ S ≤ 80) (hme : mtOk fm S) : zCi l D (zT cy cs) yX1_bestState wsX1_bestState ({ frames := 1, cells := 0, slots := 0, locals := 20 } : Room) [.ref r0, .ref a0] [zO r0 1 [.int (iI S), .int (iI L), .int (iI N), .int (iI E), .ref r1, .ref r2, .ref r3, .ref r4], zA cy r2 32 fm, zO a0 0 [.int (iI mm), .int (iI oo), .ref a1]] (bsc fm (p2 mm).toNat) [zO r0 1 [.int (iI S), .int (iI L), .int (iI N), .int (iI E), .ref r1, .ref r2, .ref r3, .ref r4], zA cy r2 32 fm, zO a0 0 [.int (iI mm), .int (iI oo), .ref a1]] := by
  intro sz
  refine zM_mk (cc := cX1_bestState) (maxL := 6) (ret := (some .int)) (own := RX1) (Qc := fun sz => va_Qi (fun r (_ : Unit) => r = iI (bsc fm (p2 mm).toNat)) (fun _ t => zQ D (zT cy cs) (va_A [zO r0 1 [.int (iI S), .int (iI L), .int (iI N), .int (iI E), .ref r1, .ref r2, .ref r3, .ref r4], zA cy r2 32 fm, zO a0 0 [.int (iI mm), .int (iI oo), .ref a1]] sz) [zO r0 1 [.int (iI S), .int (iI L), .int (iI N), .int (iI E), .ref r1, .ref r2, .ref r3, .ref r4], zA cy r2 32 fm, zO a0 0 [.int (iI mm), .int (iI oo), .ref a1]] t) (va_A [zO r0 1 [.int (iI S), .int (iI L), .int (iI N), .int (iI E), .ref r1, .ref r2, .ref r3, .ref r4], zA cy r2 32 fm, zO a0 0 [.int (iI mm), .int (iI oo), .ref a1]] sz)) (by decide) rfl rfl (Nat.le_of_ble_eq_true rfl) rfl sz ?_
  intro p e s m args below meth c ls C hr hlk hnm hl hsz hA wd
  subst hsz
  have hl : lv_has ls 6 [(0, .ref r0), (1, .ref a0)] := hl
  have iX1 : ∀ w ∈ u_ws RX1 TX1 8, w ∈ wsX1_bestState := by decide +kernel
  have L15 := C.2.2.2.2 (.fieldLink RX1 15 "LikelyWalks$Reader" "metrics" "[I") (by decide +kernel)
  have hp := p2_all hm.1 hm.2
  refine lv_aload_n C.1 C.2.1 dX1_bestState_0 rfl (lv_at hl 1 rfl) ?_
  refine z_cvi C wd hA (As := []) (rest := []) (ws2 := [zO r0 1 [.int (iI S), .int (iI L), .int (iI N), .int (iI E), .ref r1, .ref r2, .ref r3, .ref r4], zA cy r2 32 fm, zO a0 0 [.int (iI mm), .int (iI oo), .ref a1]]) (c_X0_states l D cy cs a0 a1 mm oo (by omega)) (cwV 0 C.2.2.2.2 gX1_bestState_X0_states rfl rfl rfl (by decide +kernel) ⟨Nat.le_of_ble_eq_true rfl, Nat.le_of_ble_eq_true rfl⟩) [2] rfl rfl rfl ⟨rfl, [0, 1], [zO r0 1 [.int (iI S), .int (iI L), .int (iI N), .int (iI E), .ref r1, .ref r2, .ref r3, .ref r4], zA cy r2 32 fm], 3, rfl, rfl, rfl, by decide +kernel⟩ rfl rfl rfl rfl (Nat.le_of_ble_eq_true rfl) hl.1 dX1_bestState_1 ⟨Nat.zero_le _, Nat.zero_le _⟩ (fun H locs wd => ?_)
  refine lv_istore_n (lv' := [(2, .int (iI (p2 mm))), (0, .ref r0), (1, .ref a0)]) C.1 C.2.1 dX1_bestState_4 rfl hl (by decide) rfl (fun ls hl => ?_)
  refine z_iconst C dX1_bestState_5 ?_
  refine lv_istore_n (lv' := [(3, .int (iI 0)), (2, .int (iI (p2 mm))), (0, .ref r0), (1, .ref a0)]) C.1 C.2.1 dX1_bestState_6 rfl hl (by decide) rfl (fun ls hl => ?_)
  refine z_iconst C dX1_bestState_7 ?_
  refine lv_istore (lv' := [(4, .int (iI 1)), (3, .int (iI 0)), (2, .int (iI (p2 mm))), (0, .ref r0), (1, .ref a0)]) C.1 C.2.1 dX1_bestState_8 hl (by decide) rfl (fun ls hl => ?_)
  refine z_loop2 (P := fun (x : Int) (k : Int) => (1 ≤ k ∧ k ≤ p2 mm) ∧ (x = bsc fm k.toNat) ∧ (0 ≤ x ∧ x < 32)) (mu := fun (x : Int) (k : Int) => (p2 mm - k).toNat) (ws := fun (x : Int) (k : Int) => [zO r0 1 [.int (iI S), .int (iI L), .int (iI N), .int (iI E), .ref r1, .ref r2, .ref r3, .ref r4], zA cy r2 32 fm, zO a0 0 [.int (iI mm), .int (iI oo), .ref a1]]) (lv := fun (x : Int) (k : Int) => [(0, .ref r0), (1, .ref a0), (2, .int (iI (p2 mm))), (3, .int (iI x)), (4, .int (iI k))]) 0 1 C ⟨(by omega), (bsc_1 fm).symm, (by omega)⟩ wd (lv_sub hl [3, 4, 2, 1, 0] rfl) ?_
  intro x k hP10 ih10 H locs ls wd hl
  obtain ⟨h10_0, h10_1, h10_2⟩ := hP10
  try dsimp only at h10_0 h10_1 h10_2
  have wd : Wd D (zT cy cs) _ s.heap s [zO r0 1 [.int (iI S), .int (iI L), .int (iI N), .int (iI E), .ref r1, .ref r2, .ref r3, .ref r4], zA cy r2 32 fm, zO a0 0 [.int (iI mm), .int (iI oo), .ref a1]] H locs := wd
  have hl : lv_has ls 6 [(0, .ref r0), (1, .ref a0), (2, .int (iI (p2 mm))), (3, .int (iI x)), (4, .int (iI k))] := hl
  have hfk : k < p2 mm → -1 ≤ fm k ∧ fm k ≤ 3 * S := fun h => hme k (by omega) (by omega)
  have hfx := hme x h10_2.1 h10_2.2
  have hst := bsc_step (f := fm) h10_0.1
  rw [← h10_1] at hst
  refine lv_iload C.1 C.2.1 dX1_bestState_10 (lv_at hl 4 rfl) ?_
  refine lv_iload_n C.1 C.2.1 dX1_bestState_12 rfl (lv_at hl 2 rfl) ?_
  refine z_icmp_ge C (tgt := 74) dX1_bestState_13 (by decide) (by omega) (fun c_1 => ?_) (fun c_1 => ?_)
  · skip
    refine lv_iload_n C.1 C.2.1 dX1_bestState_74 rfl (lv_at hl 3 rfl) ?_
    exact z_iret C hr hlk wd (by rw [h10_1, show k = p2 mm by omega]) dX1_bestState_75
  · skip
    refine z_join1 (nL := 6) (D := D) (T := zT cy cs) (A := va_A [zO r0 1 [.int (iI S), .int (iI L), .int (iI N), .int (iI E), .ref r1, .ref r2, .ref r3, .ref r4], zA cy r2 32 fm, zO a0 0 [.int (iI mm), .int (iI oo), .ref a1]] s.heap.size) (H0 := s.heap) (P := fun (u : Int) => ((u = 1 ∧ (fm x = -1 ∨ fm k < fm x)) ∨ (u = 0 ∧ ¬ (fm x = -1 ∨ fm k < fm x)))) (ws := fun (u : Int) => [zO r0 1 [.int (iI S), .int (iI L), .int (iI N), .int (iI E), .ref r1, .ref r2, .ref r3, .ref r4], zA cy r2 32 fm, zO a0 0 [.int (iI mm), .int (iI oo), .ref a1]]) (lv := fun (u : Int) => [(0, .ref r0), (1, .ref a0), (2, .int (iI (p2 mm))), (3, .int (iI x)), (4, .int (iI k))]) (stj := fun (u : Int) => [.int (iI u)]) 47 ?_ (fun jn47 => ?_)
    · skip
      intro u hP47 H locs ls wd hl
      have h47_0 := hP47
      try dsimp only at h47_0
      have wd : Wd D (zT cy cs) _ s.heap s [zO r0 1 [.int (iI S), .int (iI L), .int (iI N), .int (iI E), .ref r1, .ref r2, .ref r3, .ref r4], zA cy r2 32 fm, zO a0 0 [.int (iI mm), .int (iI oo), .ref a1]] H locs := wd
      have hl : lv_has ls 6 [(0, .ref r0), (1, .ref a0), (2, .int (iI (p2 mm))), (3, .int (iI x)), (4, .int (iI k))] := hl
      refine lv_istore (lv' := [(5, .int (iI u)), (0, .ref r0), (1, .ref a0), (2, .int (iI (p2 mm))), (3, .int (iI x)), (4, .int (iI k))]) C.1 C.2.1 dX1_bestState_47 hl (by decide) rfl (fun ls hl => ?_)
      refine lv_aload_n C.1 C.2.1 dX1_bestState_49 rfl (lv_at hl 1 rfl) ?_
      refine z_get C wd (Cn := RX1) (TT := TX1) (N := 8) (ci := 1) iX1 0 rfl rfl 5 (by decide) L15 (fun _ h => h) rfl dX1_bestState_50 ?_
      refine lv_iload C.1 C.2.1 dX1_bestState_53 (lv_at hl 5 rfl) ?_
      refine z_iald C wd 1 rfl (by omega) (by decide) dX1_bestState_55 ?_
      refine z_iconst C dX1_bestState_56 ?_
      refine z_icmp_eq C (tgt := 68) dX1_bestState_57 (by decide) (by omega) (fun c_2 => ?_) (fun c_2 => ?_)
      · skip
        refine z_iinc C (lv' := [(4, .int (iI (k + 1))), (5, .int (iI u)), (0, .ref r0), (1, .ref a0), (2, .int (iI (p2 mm))), (3, .int (iI x))]) hl 5 dX1_bestState_68 rfl (by decide) rfl (fun ls hl => ?_)
        refine z_goto C (tgt := 10) dX1_bestState_71 (by decide) ?_
        exact ih10 x (k + 1) ⟨(by omega), (by rw [hst]; first | rw [if_pos (by omega)] | rw [if_neg (by omega)]), (by omega)⟩ (by omega) H locs _ wd (lv_sub hl [2, 3, 4, 5, 0] rfl)
      · skip
        refine lv_iload C.1 C.2.1 dX1_bestState_60 (lv_at hl 0 rfl) ?_
        refine z_if_eq C (tgt := 68) dX1_bestState_62 (by decide) (by omega) (fun c_3 => ?_) (fun c_3 => ?_)
        · skip
          refine z_iinc C (lv' := [(4, .int (iI (k + 1))), (5, .int (iI u)), (0, .ref r0), (1, .ref a0), (2, .int (iI (p2 mm))), (3, .int (iI x))]) hl 5 dX1_bestState_68 rfl (by decide) rfl (fun ls hl => ?_)
          refine z_goto C (tgt := 10) dX1_bestState_71 (by decide) ?_
          exact ih10 x (k + 1) ⟨(by omega), (by rw [hst]; first | rw [if_pos (by omega)] | rw [if_neg (by omega)]), (by omega)⟩ (by omega) H locs _ wd (lv_sub hl [2, 3, 4, 5, 0] rfl)
        · skip
          refine lv_iload C.1 C.2.1 dX1_bestState_65 (lv_at hl 5 rfl) ?_
          refine lv_istore_n (lv' := [(3, .int (iI k)), (5, .int (iI u)), (0, .ref r0), (1, .ref a0), (2, .int (iI (p2 mm))), (4, .int (iI k))]) C.1 C.2.1 dX1_bestState_67 rfl hl (by decide) rfl (fun ls hl => ?_)
          refine z_iinc C (lv' := [(4, .int (iI (k + 1))), (3, .int (iI k)), (5, .int (iI u)), (0, .ref r0), (1, .ref a0), (2, .int (iI (p2 mm)))]) hl 5 dX1_bestState_68 rfl (by decide) rfl (fun ls hl => ?_)
          refine z_goto C (tgt := 10) dX1_bestState_71 (by decide) ?_
          exact ih10 k (k + 1) ⟨(by omega), (by rw [hst]; first | rw [if_pos (by omega)] | rw [if_neg (by omega)]), (by omega)⟩ (by omega) H locs _ wd (lv_sub hl [3, 4, 5, 1, 0] rfl)
    refine lv_aload_n C.1 C.2.1 dX1_bestState_16 rfl (lv_at hl 0 rfl) ?_
    refine z_get C wd (Cn := RX1) (TT := TX1) (N := 8) (ci := 1) iX1 0 rfl rfl 5 (by decide) L15 (fun _ h => h) rfl dX1_bestState_17 ?_
    refine lv_iload_n C.1 C.2.1 dX1_bestState_20 rfl (lv_at hl 3 rfl) ?_
    refine z_iald C wd 1 rfl (by omega) (by decide) dX1_bestState_21 ?_
    refine z_iconst C dX1_bestState_22 ?_
    refine z_icmp_eq C (tgt := 42) dX1_bestState_23 (by decide) (by omega) (fun c_4 => ?_) (fun c_4 => ?_)
    · skip
      refine z_iconst C dX1_bestState_42 ?_
      refine z_goto C (tgt := 47) dX1_bestState_43 (by decide) ?_
      exact jn47 1 (by first | assumption | omega) H locs _ wd (lv_sub hl [0, 1, 2, 3, 4] rfl)
    · skip
      refine lv_aload_n C.1 C.2.1 dX1_bestState_26 rfl (lv_at hl 0 rfl) ?_
      refine z_get C wd (Cn := RX1) (TT := TX1) (N := 8) (ci := 1) iX1 0 rfl rfl 5 (by decide) L15 (fun _ h => h) rfl dX1_bestState_27 ?_
      refine lv_iload C.1 C.2.1 dX1_bestState_30 (lv_at hl 4 rfl) ?_
      refine z_iald C wd 1 rfl (by omega) (by decide) dX1_bestState_32 ?_
      refine lv_aload_n C.1 C.2.1 dX1_bestState_33 rfl (lv_at hl 0 rfl) ?_
      refine z_get C wd (Cn := RX1) (TT := TX1) (N := 8) (ci := 1) iX1 0 rfl rfl 5 (by decide) L15 (fun _ h => h) rfl dX1_bestState_34 ?_
      refine lv_iload_n C.1 C.2.1 dX1_bestState_37 rfl (lv_at hl 3 rfl) ?_
      refine z_iald C wd 1 rfl (by omega) (by decide) dX1_bestState_38 ?_
      refine z_icmp_ge C (tgt := 46) dX1_bestState_39 (by decide) (by omega) (fun c_5 => ?_) (fun c_5 => ?_)
      · skip
        refine z_iconst C dX1_bestState_46 ?_
        exact jn47 0 (by first | assumption | omega) H locs _ wd (lv_sub hl [0, 1, 2, 3, 4] rfl)
      · skip
        refine z_iconst C dX1_bestState_42 ?_
        refine z_goto C (tgt := 47) dX1_bestState_43 (by decide) ?_
        exact jn47 1 (by first | assumption | omega) H locs _ wd (lv_sub hl [0, 1, 2, 3, 4] rfl)
