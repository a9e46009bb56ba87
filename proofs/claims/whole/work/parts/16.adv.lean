set_option maxRecDepth 100000 in
set_option maxHeartbeats 4000000 in
theorem c_X1_advance (l : Launch) (D : va_G) (cy cs : ClassId) (r0 r1 r2 r3 r4 a0 a1 a2 n : Nat) (S L N E mm oo d q : Int) (fr fm fn fu tp f : Int → Int) (hm : 1 ≤ mm ∧ mm ≤ 5) (ho : 2 ≤ oo ∧ oo ≤ 3) (ht : tpOk tp) (hf : rwOk f n) (hn : n < 2147483648) (hq : 0 ≤ q ∧ q + oo ≤ n) (hu : ∀ k : Int, 0 ≤ k → k < 80 → 0 ≤ fu k ∧ fu k < 4294967296) (hS : 0 ≤ S ∧ S < 80) (hN : 0 ≤ N ∧ N ≤ S) (hd : 2 ≤ d ∧ d ≤ 40) (hme : mtOk fm S) : zCv l D (zT cy cs) yX1_advance wsX1_advance ({ frames := 4, cells := 0, slots := 0, locals := 95 } : Room) [.ref r0, .ref a0, .int (iI d), .ref a2, .int (iI q)] [zO r0 1 [.int (iI S), .int (iI L), .int (iI N), .int (iI E), .ref r1, .ref r2, .ref r3, .ref r4], zA cy r1 80 fr, zA cy r2 32 fm, zA cy r3 32 fn, zA cy r4 80 fu, zO a0 0 [.int (iI mm), .int (iI oo), .ref a1], zA cy a1 3 tp, zA cy a2 n f] [zO r0 1 [.int (iI (S + 1)), .int (iI L), .int (iI (nN d S N)), .int (iI E), .ref r1, .ref r2, .ref r3, .ref r4], zA cy r1 80 (rlF mm (uZ fu S (uF oo tp fm f q mm)) (S + 1) (bsc (mF oo tp fm f q mm) (p2 mm).toNat) fr N (nN d S N) (N - 1)), zA cy r2 32 (mF oo tp fm f q mm), zA cy r3 32 (cpZ (nmF oo tp fm f q mm) fn (p2 mm)), zA cy r4 80 (uZ fu S (uF oo tp fm f q mm)), zO a0 0 [.int (iI mm), .int (iI oo), .ref a1], zA cy a1 3 tp, zA cy a2 n f] := by
  intro sz
  refine zM_mk (cc := cX1_advance) (maxL := 13) (ret := none) (own := RX1) (Qc := fun sz => va_Qv (fun (_ : Unit) => True) (fun _ t => zQ D (zT cy cs) (va_A [zO r0 1 [.int (iI S), .int (iI L), .int (iI N), .int (iI E), .ref r1, .ref r2, .ref r3, .ref r4], zA cy r1 80 fr, zA cy r2 32 fm, zA cy r3 32 fn, zA cy r4 80 fu, zO a0 0 [.int (iI mm), .int (iI oo), .ref a1], zA cy a1 3 tp, zA cy a2 n f] sz) [zO r0 1 [.int (iI (S + 1)), .int (iI L), .int (iI (nN d S N)), .int (iI E), .ref r1, .ref r2, .ref r3, .ref r4], zA cy r1 80 (rlF mm (uZ fu S (uF oo tp fm f q mm)) (S + 1) (bsc (mF oo tp fm f q mm) (p2 mm).toNat) fr N (nN d S N) (N - 1)), zA cy r2 32 (mF oo tp fm f q mm), zA cy r3 32 (cpZ (nmF oo tp fm f q mm) fn (p2 mm)), zA cy r4 80 (uZ fu S (uF oo tp fm f q mm)), zO a0 0 [.int (iI mm), .int (iI oo), .ref a1], zA cy a1 3 tp, zA cy a2 n f] t) (va_A [zO r0 1 [.int (iI S), .int (iI L), .int (iI N), .int (iI E), .ref r1, .ref r2, .ref r3, .ref r4], zA cy r1 80 fr, zA cy r2 32 fm, zA cy r3 32 fn, zA cy r4 80 fu, zO a0 0 [.int (iI mm), .int (iI oo), .ref a1], zA cy a1 3 tp, zA cy a2 n f] sz)) (by decide) rfl rfl (Nat.le_of_ble_eq_true rfl) rfl sz ?_
  intro p e s m args below meth c ls C hr hlk hnm hl hsz hA wd
  subst hsz
  have hl : lv_has ls 13 [(0, .ref r0), (1, .ref a0), (2, .int (iI d)), (3, .ref a2), (4, .int (iI q))] := hl
  have iX1 : ∀ w ∈ u_ws RX1 TX1 8, w ∈ wsX1_advance := by decide +kernel
  have L15 := C.2.2.2.2 (.fieldLink RX1 15 "LikelyWalks$Reader" "metrics" "[I") (by decide +kernel)
  have L18 := C.2.2.2.2 (.fieldLink RX1 18 "LikelyWalks$Reader" "newMetrics" "[I") (by decide +kernel)
  have L21 := C.2.2.2.2 (.fieldLink RX1 21 "LikelyWalks$Reader" "fromUpper" "[I") (by decide +kernel)
  have L27 := C.2.2.2.2 (.fieldLink RX1 27 "LikelyWalks$Reader" "steps" "I") (by decide +kernel)
  have L34 := C.2.2.2.2 (.fieldLink RX1 34 "LikelyWalks$Reader" "releasedCount" "I") (by decide +kernel)
  have hp := p2_all hm.1 hm.2
  refine lv_aload_n C.1 C.2.1 dX1_advance_0 rfl (lv_at hl 0 rfl) ?_
  refine z_get C wd (Cn := RX1) (TT := TX1) (N := 8) (ci := 1) iX1 0 rfl rfl 0 (by decide) L27 (fun _ h => h) rfl dX1_advance_1 ?_
  refine z_bipush C dX1_advance_4 (by decide +kernel) ?_
  refine z_icmp_lt C (tgt := 10) dX1_advance_6 (by decide) (by omega) (fun c_1 => ?_) (fun c_1 => ?_)
  · skip
    refine lv_aload_n C.1 C.2.1 dX1_advance_10 rfl (lv_at hl 1 rfl) ?_
    refine z_cvi C wd hA (As := []) (rest := []) (ws2 := [zO r0 1 [.int (iI S), .int (iI L), .int (iI N), .int (iI E), .ref r1, .ref r2, .ref r3, .ref r4], zA cy r1 80 fr, zA cy r2 32 fm, zA cy r3 32 fn, zA cy r4 80 fu, zO a0 0 [.int (iI mm), .int (iI oo), .ref a1], zA cy a1 3 tp, zA cy a2 n f]) (c_X0_states l D cy cs a0 a1 mm oo (by omega)) (cwV 0 C.2.2.2.2 gX1_advance_X0_states rfl rfl rfl (by decide +kernel) ⟨Nat.le_of_ble_eq_true rfl, Nat.le_of_ble_eq_true rfl⟩) [5] rfl rfl rfl ⟨rfl, [0, 1, 2, 3, 4, 6, 7], [zO r0 1 [.int (iI S), .int (iI L), .int (iI N), .int (iI E), .ref r1, .ref r2, .ref r3, .ref r4], zA cy r1 80 fr, zA cy r2 32 fm, zA cy r3 32 fn, zA cy r4 80 fu, zA cy a1 3 tp, zA cy a2 n f], 8, rfl, rfl, rfl, by decide +kernel⟩ rfl rfl rfl rfl (Nat.le_of_ble_eq_true rfl) hl.1 dX1_advance_11 ⟨Nat.zero_le _, Nat.zero_le _⟩ (fun H locs wd => ?_)
    refine lv_istore (lv' := [(5, .int (iI (p2 mm))), (0, .ref r0), (1, .ref a0), (2, .int (iI d)), (3, .ref a2), (4, .int (iI q))]) C.1 C.2.1 dX1_advance_14 hl (by decide) rfl (fun ls hl => ?_)
    refine z_iconst C dX1_advance_16 ?_
    refine lv_istore (lv' := [(6, .int (iI 0)), (5, .int (iI (p2 mm))), (0, .ref r0), (1, .ref a0), (2, .int (iI d)), (3, .ref a2), (4, .int (iI q))]) C.1 C.2.1 dX1_advance_17 hl (by decide) rfl (fun ls hl => ?_)
    refine z_iconst C dX1_advance_19 ?_
    refine lv_istore (lv' := [(7, .int (iI 0)), (6, .int (iI 0)), (5, .int (iI (p2 mm))), (0, .ref r0), (1, .ref a0), (2, .int (iI d)), (3, .ref a2), (4, .int (iI q))]) C.1 C.2.1 dX1_advance_20 hl (by decide) rfl (fun ls hl => ?_)
    refine z_loop3 (P := fun (x : Int) (k : Int) (g : Int → Int) => (0 ≤ k ∧ k ≤ p2 mm) ∧ (x = csum (uB oo tp fm f q mm) k.toNat) ∧ (g = cpZ (nmF oo tp fm f q mm) fn k)) (mu := fun (x : Int) (k : Int) (g : Int → Int) => (p2 mm - k).toNat) (ws := fun (x : Int) (k : Int) (g : Int → Int) => [zO r0 1 [.int (iI S), .int (iI L), .int (iI N), .int (iI E), .ref r1, .ref r2, .ref r3, .ref r4], zA cy r1 80 fr, zA cy r2 32 fm, zA cy r3 32 g, zA cy r4 80 fu, zO a0 0 [.int (iI mm), .int (iI oo), .ref a1], zA cy a1 3 tp, zA cy a2 n f]) (lv := fun (x : Int) (k : Int) (g : Int → Int) => [(0, .ref r0), (1, .ref a0), (2, .int (iI d)), (3, .ref a2), (4, .int (iI q)), (5, .int (iI (p2 mm))), (6, .int (iI x)), (7, .int (iI k))]) 0 0 fn C ⟨(by omega), rfl, (cpZ_0 _ _).symm⟩ wd (lv_sub hl [3, 4, 5, 6, 7, 2, 1, 0] rfl) ?_
    intro x k g hP22 ih22 H locs ls wd hl
    obtain ⟨h22_0, h22_1, h22_2⟩ := hP22
    try dsimp only at h22_0 h22_1 h22_2
    have wd : Wd D (zT cy cs) _ s.heap s [zO r0 1 [.int (iI S), .int (iI L), .int (iI N), .int (iI E), .ref r1, .ref r2, .ref r3, .ref r4], zA cy r1 80 fr, zA cy r2 32 fm, zA cy r3 32 g, zA cy r4 80 fu, zO a0 0 [.int (iI mm), .int (iI oo), .ref a1], zA cy a1 3 tp, zA cy a2 n f] H locs := wd
    have hl : lv_has ls 13 [(0, .ref r0), (1, .ref a0), (2, .int (iI d)), (3, .ref a2), (4, .int (iI q)), (5, .int (iI (p2 mm))), (6, .int (iI x)), (7, .int (iI k))] := hl
    have hxc := csum_le (uB_le oo tp fm f q mm) k.toNat
    rw [← h22_1, Int.toNat_of_nonneg h22_0.1] at hxc
    refine lv_iload C.1 C.2.1 dX1_advance_22 (lv_at hl 7 rfl) ?_
    refine lv_iload C.1 C.2.1 dX1_advance_24 (lv_at hl 5 rfl) ?_
    refine z_icmp_ge C (tgt := 140) dX1_advance_26 (by decide) (by omega) (fun c_2 => ?_) (fun c_2 => ?_)
    · skip
      have hk : k = p2 mm := by omega
      have hmF := mF_ok (tp := tp) (f := f) (q := q) hm.1 hm.2 ho hme
      have huF := uF_le oo tp fm f q mm hm.1 hm.2
      have hnN := nN_or d S N
      have hbs := bsc_le (mF oo tp fm f q mm) (n := (p2 mm).toNat) (by omega)
      have wd := z_cell wd (ws2 := [zO r0 1 [.int (iI S), .int (iI L), .int (iI N), .int (iI E), .ref r1, .ref r2, .ref r3, .ref r4], zA cy r1 80 fr, zA cy r2 32 fm, zA cy r3 32 (cpZ (nmF oo tp fm f q mm) fn (p2 mm)), zA cy r4 80 fu, zO a0 0 [.int (iI mm), .int (iI oo), .ref a1], zA cy a1 3 tp, zA cy a2 n f]) 3 rfl (by intro j _ _; rw [h22_2, hk]) rfl
      refine lv_aload_n C.1 C.2.1 dX1_advance_140 rfl (lv_at hl 0 rfl) ?_
      refine z_get C wd (Cn := RX1) (TT := TX1) (N := 8) (ci := 1) iX1 0 rfl rfl 6 (by decide) L18 (fun _ h => h) rfl dX1_advance_141 ?_
      refine z_iconst C dX1_advance_144 ?_
      refine lv_aload_n C.1 C.2.1 dX1_advance_145 rfl (lv_at hl 0 rfl) ?_
      refine z_get C wd (Cn := RX1) (TT := TX1) (N := 8) (ci := 1) iX1 0 rfl rfl 5 (by decide) L15 (fun _ h => h) rfl dX1_advance_146 ?_
      refine z_iconst C dX1_advance_149 ?_
      refine lv_iload C.1 C.2.1 dX1_advance_150 (lv_at hl 5 rfl) ?_
      refine z_copy C wd (rest := []) (ws2 := [zO r0 1 [.int (iI S), .int (iI L), .int (iI N), .int (iI E), .ref r1, .ref r2, .ref r3, .ref r4], zA cy r1 80 fr, zA cy r2 32 (cpZ (cpZ (nmF oo tp fm f q mm) fn (p2 mm)) fm (p2 mm)), zA cy r3 32 (cpZ (nmF oo tp fm f q mm) fn (p2 mm)), zA cy r4 80 fu, zO a0 0 [.int (iI mm), .int (iI oo), .ref a1], zA cy a1 3 tp, zA cy a2 n f]) 3 2 rfl rfl (C.2.2.2.2 (.methodLink RX1 47 arraycopyName) (by decide +kernel)) (C.2.2.2.2 (.native arraycopyName) (by decide +kernel)) (C.2.2.2.2 (.static arraycopyName) (by decide +kernel)) (C.2.2.2.2 (.initialized "java/lang/System") (by decide +kernel)) (by omega) (Nat.le_of_ble_eq_true rfl) (Nat.le_of_ble_eq_true rfl) hl.1 rfl dX1_advance_152 (fun H locs wd => ?_)
      have wd := z_cell wd (ws2 := [zO r0 1 [.int (iI S), .int (iI L), .int (iI N), .int (iI E), .ref r1, .ref r2, .ref r3, .ref r4], zA cy r1 80 fr, zA cy r2 32 (mF oo tp fm f q mm), zA cy r3 32 (cpZ (nmF oo tp fm f q mm) fn (p2 mm)), zA cy r4 80 fu, zO a0 0 [.int (iI mm), .int (iI oo), .ref a1], zA cy a1 3 tp, zA cy a2 n f]) 2 rfl (by intro j _ _; unfold mF cpZ; split <;> rfl) rfl
      refine lv_aload_n C.1 C.2.1 dX1_advance_155 rfl (lv_at hl 0 rfl) ?_
      refine z_get C wd (Cn := RX1) (TT := TX1) (N := 8) (ci := 1) iX1 0 rfl rfl 7 (by decide) L21 (fun _ h => h) rfl dX1_advance_156 ?_
      refine lv_aload_n C.1 C.2.1 dX1_advance_159 rfl (lv_at hl 0 rfl) ?_
      refine z_get C wd (Cn := RX1) (TT := TX1) (N := 8) (ci := 1) iX1 0 rfl rfl 0 (by decide) L27 (fun _ h => h) rfl dX1_advance_160 ?_
      refine lv_iload C.1 C.2.1 dX1_advance_163 (lv_at hl 6 rfl) ?_
      refine z_top (b := uF oo tp fm f q mm) (by rw [h22_1, hk]; rfl) ?_
      refine z_iast C wd (ws2 := [zO r0 1 [.int (iI S), .int (iI L), .int (iI N), .int (iI E), .ref r1, .ref r2, .ref r3, .ref r4], zA cy r1 80 fr, zA cy r2 32 (mF oo tp fm f q mm), zA cy r3 32 (cpZ (nmF oo tp fm f q mm) fn (p2 mm)), zA cy r4 80 (uZ fu S (uF oo tp fm f q mm)), zO a0 0 [.int (iI mm), .int (iI oo), .ref a1], zA cy a1 3 tp, zA cy a2 n f]) 4 rfl (by omega) (by decide) rfl dX1_advance_165 (fun H locs wd => ?_)
      refine lv_aload_n C.1 C.2.1 dX1_advance_166 rfl (lv_at hl 0 rfl) ?_
      refine lv_dup C.1 C.2.1 dX1_advance_167 rfl ?_
      refine z_get C wd (Cn := RX1) (TT := TX1) (N := 8) (ci := 1) iX1 0 rfl rfl 0 (by decide) L27 (fun _ h => h) rfl dX1_advance_168 ?_
      refine z_iconst C dX1_advance_171 ?_
      refine z_iadd C dX1_advance_172 ?_
      refine z_put C wd (Cn := RX1) (TT := TX1) (N := 8) (ci := 1) (ws2 := [zO r0 1 [.int (iI (S + 1)), .int (iI L), .int (iI N), .int (iI E), .ref r1, .ref r2, .ref r3, .ref r4], zA cy r1 80 fr, zA cy r2 32 (mF oo tp fm f q mm), zA cy r3 32 (cpZ (nmF oo tp fm f q mm) fn (p2 mm)), zA cy r4 80 (uZ fu S (uF oo tp fm f q mm)), zO a0 0 [.int (iI mm), .int (iI oo), .ref a1], zA cy a1 3 tp, zA cy a2 n f]) iX1 tyX1 tyX1_ok nmX1 0 rfl rfl 0 (by decide) L27 (fun _ h => h) rfl (ty := .int) (by decide +kernel) rfl rfl (Nat.le_of_ble_eq_true rfl) rfl dX1_advance_173 (fun H locs wd => ?_)
      refine lv_aload_n C.1 C.2.1 dX1_advance_176 rfl (lv_at hl 0 rfl) ?_
      refine z_get C wd (Cn := RX1) (TT := TX1) (N := 8) (ci := 1) iX1 0 rfl rfl 0 (by decide) L27 (fun _ h => h) rfl dX1_advance_177 ?_
      refine lv_aload_n C.1 C.2.1 dX1_advance_180 rfl (lv_at hl 0 rfl) ?_
      refine z_get C wd (Cn := RX1) (TT := TX1) (N := 8) (ci := 1) iX1 0 rfl rfl 2 (by decide) L34 (fun _ h => h) rfl dX1_advance_181 ?_
      refine z_isub C dX1_advance_184 ?_
      refine lv_iload_n C.1 C.2.1 dX1_advance_185 rfl (lv_at hl 2 rfl) ?_
      refine z_icmp_lt C (tgt := 207) dX1_advance_186 (by decide) (by omega) (fun c_3 => ?_) (fun c_3 => ?_)
      · skip
        have wd := z_fld wd (ws2 := [zO r0 1 [.int (iI (S + 1)), .int (iI L), .int (iI (nN d S N)), .int (iI E), .ref r1, .ref r2, .ref r3, .ref r4], zA cy r1 80 fr, zA cy r2 32 (mF oo tp fm f q mm), zA cy r3 32 (cpZ (nmF oo tp fm f q mm) fn (p2 mm)), zA cy r4 80 (uZ fu S (uF oo tp fm f q mm)), zO a0 0 [.int (iI mm), .int (iI oo), .ref a1], zA cy a1 3 tp, zA cy a2 n f]) 0 rfl (congrArg (fun z0 => zO r0 1 [.int (iI (S + 1)), .int (iI L), .int (iI z0), .int (iI E), .ref r1, .ref r2, .ref r3, .ref r4]) (show (N : Int) = nN d S N from (by omega))) rfl
        have wd := z_cell wd (ws2 := [zO r0 1 [.int (iI (S + 1)), .int (iI L), .int (iI (nN d S N)), .int (iI E), .ref r1, .ref r2, .ref r3, .ref r4], zA cy r1 80 (rlF mm (uZ fu S (uF oo tp fm f q mm)) (S + 1) (bsc (mF oo tp fm f q mm) (p2 mm).toNat) fr N (nN d S N) (N - 1)), zA cy r2 32 (mF oo tp fm f q mm), zA cy r3 32 (cpZ (nmF oo tp fm f q mm) fn (p2 mm)), zA cy r4 80 (uZ fu S (uF oo tp fm f q mm)), zO a0 0 [.int (iI mm), .int (iI oo), .ref a1], zA cy a1 3 tp, zA cy a2 n f]) 1 rfl (by intro j _ _; first | (rw [show nN d S N = S + 1 - d + 1 by omega]; done) | (rw [rlF_0 (by omega)]; done)) rfl
        exact z_vret C hr hlk wd dX1_advance_207
      · skip
        refine lv_aload_n C.1 C.2.1 dX1_advance_189 rfl (lv_at hl 0 rfl) ?_
        refine lv_aload_n C.1 C.2.1 dX1_advance_190 rfl (lv_at hl 1 rfl) ?_
        refine lv_aload_n C.1 C.2.1 dX1_advance_191 rfl (lv_at hl 0 rfl) ?_
        refine lv_aload_n C.1 C.2.1 dX1_advance_192 rfl (lv_at hl 1 rfl) ?_
        refine z_cvi C wd hA (As := [.ref a0]) (rest := [.ref a0, .ref r0]) (ws2 := [zO r0 1 [.int (iI (S + 1)), .int (iI L), .int (iI N), .int (iI E), .ref r1, .ref r2, .ref r3, .ref r4], zA cy r1 80 fr, zA cy r2 32 (mF oo tp fm f q mm), zA cy r3 32 (cpZ (nmF oo tp fm f q mm) fn (p2 mm)), zA cy r4 80 (uZ fu S (uF oo tp fm f q mm)), zO a0 0 [.int (iI mm), .int (iI oo), .ref a1], zA cy a1 3 tp, zA cy a2 n f]) (c_X1_bestState l D cy cs r0 r1 r2 r3 r4 a0 a1 (S + 1) L N E mm oo (mF oo tp fm f q mm) (by omega) (by omega) hmF) (cwV 1 C.2.2.2.2 gX1_advance_X1_bestState rfl rfl rfl (by decide +kernel) ⟨Nat.le_of_ble_eq_true rfl, Nat.le_of_ble_eq_true rfl⟩) [0, 2, 5] rfl rfl rfl ⟨rfl, [1, 3, 4, 6, 7], [zA cy r1 80 fr, zA cy r3 32 (cpZ (nmF oo tp fm f q mm) fn (p2 mm)), zA cy r4 80 (uZ fu S (uF oo tp fm f q mm)), zA cy a1 3 tp, zA cy a2 n f], 8, rfl, rfl, rfl, by decide +kernel⟩ rfl rfl rfl rfl (Nat.le_of_ble_eq_true rfl) hl.1 dX1_advance_193 ⟨Nat.zero_le _, Nat.zero_le _⟩ (fun H locs wd => ?_)
        refine lv_aload_n C.1 C.2.1 dX1_advance_196 rfl (lv_at hl 0 rfl) ?_
        refine z_get C wd (Cn := RX1) (TT := TX1) (N := 8) (ci := 1) iX1 0 rfl rfl 0 (by decide) L27 (fun _ h => h) rfl dX1_advance_197 ?_
        refine lv_iload_n C.1 C.2.1 dX1_advance_200 rfl (lv_at hl 2 rfl) ?_
        refine z_isub C dX1_advance_201 ?_
        refine z_iconst C dX1_advance_202 ?_
        refine z_iadd C dX1_advance_203 ?_
        refine z_cvv C wd hA (As := [.ref a0, .int (iI (bsc (mF oo tp fm f q mm) (p2 mm).toNat)), .int (iI (((S + 1) - d) + 1))]) (rest := []) (ws2 := [zO r0 1 [.int (iI (S + 1)), .int (iI L), .int (iI (((S + 1) - d) + 1)), .int (iI E), .ref r1, .ref r2, .ref r3, .ref r4], zA cy r1 80 (rlF mm (uZ fu S (uF oo tp fm f q mm)) (S + 1) (bsc (mF oo tp fm f q mm) (p2 mm).toNat) fr N (((S + 1) - d) + 1) (N - 1)), zA cy r2 32 (mF oo tp fm f q mm), zA cy r3 32 (cpZ (nmF oo tp fm f q mm) fn (p2 mm)), zA cy r4 80 (uZ fu S (uF oo tp fm f q mm)), zO a0 0 [.int (iI mm), .int (iI oo), .ref a1], zA cy a1 3 tp, zA cy a2 n f]) (c_X1_releaseUpTo l D cy cs r0 r1 r2 r3 r4 a0 a1 (S + 1) L N E mm oo fr (uZ fu S (uF oo tp fm f q mm)) (bsc (mF oo tp fm f q mm) (p2 mm).toNat) (((S + 1) - d) + 1) (by omega) (by omega) (uOk hu huF) (by omega) (by omega) (by omega)) (cwV 3 C.2.2.2.2 gX1_advance_X1_releaseUpTo rfl rfl rfl (by decide +kernel) ⟨Nat.le_of_ble_eq_true rfl, Nat.le_of_ble_eq_true rfl⟩) [0, 1, 4, 5] rfl rfl rfl ⟨rfl, [2, 3, 6, 7], [zA cy r2 32 (mF oo tp fm f q mm), zA cy r3 32 (cpZ (nmF oo tp fm f q mm) fn (p2 mm)), zA cy a1 3 tp, zA cy a2 n f], 8, rfl, rfl, rfl, by decide +kernel⟩ rfl rfl rfl rfl (Nat.le_of_ble_eq_true rfl) hl.1 dX1_advance_204 ⟨Nat.zero_le _, Nat.zero_le _⟩ (fun H locs wd => ?_)
        have wd := z_fld wd (ws2 := [zO r0 1 [.int (iI (S + 1)), .int (iI L), .int (iI (((S + 1) - d) + 1)), .int (iI E), .ref r1, .ref r2, .ref r3, .ref r4], zA cy r1 80 (rlF mm (uZ fu S (uF oo tp fm f q mm)) (S + 1) (bsc (mF oo tp fm f q mm) (p2 mm).toNat) fr N (((S + 1) - d) + 1) (N - 1)), zA cy r2 32 (mF oo tp fm f q mm), zA cy r3 32 (cpZ (nmF oo tp fm f q mm) fn (p2 mm)), zA cy r4 80 (uZ fu S (uF oo tp fm f q mm)), zO a0 0 [.int (iI mm), .int (iI oo), .ref a1], zA cy a1 3 tp, zA cy a2 n f]) 0 rfl (congrArg (fun z0 => zO r0 1 [.int (iI z0), .int (iI L), .int (iI (((S + 1) - d) + 1)), .int (iI E), .ref r1, .ref r2, .ref r3, .ref r4]) (show ((S + 1) : Int) = S + 1 from (by omega))) rfl
        have wd := z_fld wd (ws2 := [zO r0 1 [.int (iI (S + 1)), .int (iI L), .int (iI (nN d S N)), .int (iI E), .ref r1, .ref r2, .ref r3, .ref r4], zA cy r1 80 (rlF mm (uZ fu S (uF oo tp fm f q mm)) (S + 1) (bsc (mF oo tp fm f q mm) (p2 mm).toNat) fr N (((S + 1) - d) + 1) (N - 1)), zA cy r2 32 (mF oo tp fm f q mm), zA cy r3 32 (cpZ (nmF oo tp fm f q mm) fn (p2 mm)), zA cy r4 80 (uZ fu S (uF oo tp fm f q mm)), zO a0 0 [.int (iI mm), .int (iI oo), .ref a1], zA cy a1 3 tp, zA cy a2 n f]) 0 rfl (congrArg (fun z0 => zO r0 1 [.int (iI (S + 1)), .int (iI L), .int (iI z0), .int (iI E), .ref r1, .ref r2, .ref r3, .ref r4]) (show ((((S + 1) - d) + 1) : Int) = nN d S N from (by omega))) rfl
        have wd := z_cell wd (ws2 := [zO r0 1 [.int (iI (S + 1)), .int (iI L), .int (iI (nN d S N)), .int (iI E), .ref r1, .ref r2, .ref r3, .ref r4], zA cy r1 80 (rlF mm (uZ fu S (uF oo tp fm f q mm)) (S + 1) (bsc (mF oo tp fm f q mm) (p2 mm).toNat) fr N (nN d S N) (N - 1)), zA cy r2 32 (mF oo tp fm f q mm), zA cy r3 32 (cpZ (nmF oo tp fm f q mm) fn (p2 mm)), zA cy r4 80 (uZ fu S (uF oo tp fm f q mm)), zO a0 0 [.int (iI mm), .int (iI oo), .ref a1], zA cy a1 3 tp, zA cy a2 n f]) 1 rfl (by intro j _ _; first | (rw [show nN d S N = S + 1 - d + 1 by omega]; done) | (rw [rlF_0 (by omega)]; done)) rfl
        have wd := z_cell wd (ws2 := [zO r0 1 [.int (iI (S + 1)), .int (iI L), .int (iI (nN d S N)), .int (iI E), .ref r1, .ref r2, .ref r3, .ref r4], zA cy r1 80 (rlF mm (uZ fu S (uF oo tp fm f q mm)) (S + 1) (bsc (mF oo tp fm f q mm) (p2 mm).toNat) fr N (nN d S N) (N - 1)), zA cy r2 32 (mF oo tp fm f q mm), zA cy r3 32 (cpZ (nmF oo tp fm f q mm) fn (p2 mm)), zA cy r4 80 (uZ fu S (uF oo tp fm f q mm)), zO a0 0 [.int (iI mm), .int (iI oo), .ref a1], zA cy a1 3 tp, zA cy a2 n f]) 2 rfl (by intro k hk0 hk1; first | rfl | omega) rfl
        have wd := z_cell wd (ws2 := [zO r0 1 [.int (iI (S + 1)), .int (iI L), .int (iI (nN d S N)), .int (iI E), .ref r1, .ref r2, .ref r3, .ref r4], zA cy r1 80 (rlF mm (uZ fu S (uF oo tp fm f q mm)) (S + 1) (bsc (mF oo tp fm f q mm) (p2 mm).toNat) fr N (nN d S N) (N - 1)), zA cy r2 32 (mF oo tp fm f q mm), zA cy r3 32 (cpZ (nmF oo tp fm f q mm) fn (p2 mm)), zA cy r4 80 (uZ fu S (uF oo tp fm f q mm)), zO a0 0 [.int (iI mm), .int (iI oo), .ref a1], zA cy a1 3 tp, zA cy a2 n f]) 4 rfl (by intro k hk0 hk1; first | rfl | omega) rfl
        exact z_vret C hr hlk wd dX1_advance_207
    · skip
      have hbi := bi_le (t := k) hm.1 hm.2 h22_0.1 (by omega)
      have hlo := lo_le (t := k) hm.1 hm.2
      have hvL : _ ∧ _ := mo_le (tp := tp) (f := f) (q := q) (mm := mm) (b := k / p2 (mm - 1)) ho hme (x := 2 * k % p2 mm) (by omega) (by omega)
      have hvU : _ ∧ _ := mo_le (tp := tp) (f := f) (q := q) (mm := mm) (b := k / p2 (mm - 1)) ho hme (x := 2 * k % p2 mm + 1) (by omega) (by omega)
      have eL : vL oo tp fm f q mm k = mo oo tp fm f q mm (2 * k % p2 mm) (k / p2 (mm - 1)) := rfl
      have eU : vU oo tp fm f q mm k = mo oo tp fm f q mm (2 * k % p2 mm + 1) (k / p2 (mm - 1)) := rfl
      rw [← eL] at hvL
      rw [← eU] at hvU
      refine lv_aload_n C.1 C.2.1 dX1_advance_29 rfl (lv_at hl 1 rfl) ?_
      refine lv_iload C.1 C.2.1 dX1_advance_30 (lv_at hl 7 rfl) ?_
      refine z_cvi C wd hA (As := [.int (iI k)]) (rest := []) (ws2 := [zO r0 1 [.int (iI S), .int (iI L), .int (iI N), .int (iI E), .ref r1, .ref r2, .ref r3, .ref r4], zA cy r1 80 fr, zA cy r2 32 fm, zA cy r3 32 g, zA cy r4 80 fu, zO a0 0 [.int (iI mm), .int (iI oo), .ref a1], zA cy a1 3 tp, zA cy a2 n f]) (c_X0_lowerBefore l D cy cs a0 a1 mm oo k (by omega) (by omega)) (cwV 1 C.2.2.2.2 gX1_advance_X0_lowerBefore rfl rfl rfl (by decide +kernel) ⟨Nat.le_of_ble_eq_true rfl, Nat.le_of_ble_eq_true rfl⟩) [5] rfl rfl rfl ⟨rfl, [0, 1, 2, 3, 4, 6, 7], [zO r0 1 [.int (iI S), .int (iI L), .int (iI N), .int (iI E), .ref r1, .ref r2, .ref r3, .ref r4], zA cy r1 80 fr, zA cy r2 32 fm, zA cy r3 32 g, zA cy r4 80 fu, zA cy a1 3 tp, zA cy a2 n f], 8, rfl, rfl, rfl, by decide +kernel⟩ rfl rfl rfl rfl (Nat.le_of_ble_eq_true rfl) hl.1 dX1_advance_32 ⟨Nat.zero_le _, Nat.zero_le _⟩ (fun H locs wd => ?_)
      refine lv_istore (lv' := [(8, .int (iI (2 * k % p2 mm))), (0, .ref r0), (1, .ref a0), (2, .int (iI d)), (3, .ref a2), (4, .int (iI q)), (5, .int (iI (p2 mm))), (6, .int (iI x)), (7, .int (iI k))]) C.1 C.2.1 dX1_advance_35 hl (by decide) rfl (fun ls hl => ?_)
      refine lv_aload_n C.1 C.2.1 dX1_advance_37 rfl (lv_at hl 2 rfl) ?_
      refine lv_iload C.1 C.2.1 dX1_advance_38 (lv_at hl 8 rfl) ?_
      refine z_cvi C wd hA (As := [.int (iI k)]) (rest := []) (ws2 := [zO r0 1 [.int (iI S), .int (iI L), .int (iI N), .int (iI E), .ref r1, .ref r2, .ref r3, .ref r4], zA cy r1 80 fr, zA cy r2 32 fm, zA cy r3 32 g, zA cy r4 80 fu, zO a0 0 [.int (iI mm), .int (iI oo), .ref a1], zA cy a1 3 tp, zA cy a2 n f]) (c_X0_bitInto l D cy cs a0 a1 mm oo k (by omega) (by omega)) (cwV 1 C.2.2.2.2 gX1_advance_X0_bitInto rfl rfl rfl (by decide +kernel) ⟨Nat.le_of_ble_eq_true rfl, Nat.le_of_ble_eq_true rfl⟩) [5] rfl rfl rfl ⟨rfl, [0, 1, 2, 3, 4, 6, 7], [zO r0 1 [.int (iI S), .int (iI L), .int (iI N), .int (iI E), .ref r1, .ref r2, .ref r3, .ref r4], zA cy r1 80 fr, zA cy r2 32 fm, zA cy r3 32 g, zA cy r4 80 fu, zA cy a1 3 tp, zA cy a2 n f], 8, rfl, rfl, rfl, by decide +kernel⟩ rfl rfl rfl rfl (Nat.le_of_ble_eq_true rfl) hl.1 dX1_advance_40 ⟨Nat.zero_le _, Nat.zero_le _⟩ (fun H locs wd => ?_)
      refine lv_istore (lv' := [(9, .int (iI (k / p2 (mm - 1)))), (8, .int (iI (2 * k % p2 mm))), (0, .ref r0), (1, .ref a0), (2, .int (iI d)), (3, .ref a2), (4, .int (iI q)), (5, .int (iI (p2 mm))), (6, .int (iI x)), (7, .int (iI k))]) C.1 C.2.1 dX1_advance_43 hl (by decide) rfl (fun ls hl => ?_)
      refine lv_aload_n C.1 C.2.1 dX1_advance_45 rfl (lv_at hl 2 rfl) ?_
      refine lv_aload_n C.1 C.2.1 dX1_advance_46 rfl (lv_at hl 3 rfl) ?_
      refine lv_iload C.1 C.2.1 dX1_advance_47 (lv_at hl 1 rfl) ?_
      refine lv_iload C.1 C.2.1 dX1_advance_49 (lv_at hl 0 rfl) ?_
      refine lv_aload_n C.1 C.2.1 dX1_advance_51 rfl (lv_at hl 5 rfl) ?_
      refine lv_iload C.1 C.2.1 dX1_advance_52 (lv_at hl 6 rfl) ?_
      refine z_cvi C wd hA (As := [.ref a0, .int (iI (2 * k % p2 mm)), .int (iI (k / p2 (mm - 1))), .ref a2, .int (iI q)]) (rest := []) (ws2 := [zO r0 1 [.int (iI S), .int (iI L), .int (iI N), .int (iI E), .ref r1, .ref r2, .ref r3, .ref r4], zA cy r1 80 fr, zA cy r2 32 fm, zA cy r3 32 g, zA cy r4 80 fu, zO a0 0 [.int (iI mm), .int (iI oo), .ref a1], zA cy a1 3 tp, zA cy a2 n f]) (c_X1_metricOver l D cy cs r0 r1 r2 r3 r4 a0 a1 a2 n S L N E mm oo tp fm f (2 * k % p2 mm) (k / p2 (mm - 1)) q (by omega) (by omega) (by omega) (by omega) (by omega) (by omega) (by omega) (by omega) (by omega) (by omega)) (cwV 5 C.2.2.2.2 gX1_advance_X1_metricOver rfl rfl rfl (by decide +kernel) ⟨Nat.le_of_ble_eq_true rfl, Nat.le_of_ble_eq_true rfl⟩) [0, 2, 5, 6, 7] rfl rfl rfl ⟨rfl, [1, 3, 4], [zA cy r1 80 fr, zA cy r3 32 g, zA cy r4 80 fu], 8, rfl, rfl, rfl, by decide +kernel⟩ rfl rfl rfl rfl (Nat.le_of_ble_eq_true rfl) hl.1 dX1_advance_54 ⟨Nat.zero_le _, Nat.zero_le _⟩ (fun H locs wd => ?_)
      refine z_top (b := vL oo tp fm f q mm k) rfl ?_
      refine lv_istore (lv' := [(10, .int (iI (vL oo tp fm f q mm k))), (9, .int (iI (k / p2 (mm - 1)))), (8, .int (iI (2 * k % p2 mm))), (0, .ref r0), (1, .ref a0), (2, .int (iI d)), (3, .ref a2), (4, .int (iI q)), (5, .int (iI (p2 mm))), (6, .int (iI x)), (7, .int (iI k))]) C.1 C.2.1 dX1_advance_57 hl (by decide) rfl (fun ls hl => ?_)
      refine lv_aload_n C.1 C.2.1 dX1_advance_59 rfl (lv_at hl 3 rfl) ?_
      refine lv_aload_n C.1 C.2.1 dX1_advance_60 rfl (lv_at hl 4 rfl) ?_
      refine lv_iload C.1 C.2.1 dX1_advance_61 (lv_at hl 2 rfl) ?_
      refine z_iconst C dX1_advance_63 ?_
      refine z_iadd C dX1_advance_64 ?_
      refine lv_iload C.1 C.2.1 dX1_advance_65 (lv_at hl 1 rfl) ?_
      refine lv_aload_n C.1 C.2.1 dX1_advance_67 rfl (lv_at hl 6 rfl) ?_
      refine lv_iload C.1 C.2.1 dX1_advance_68 (lv_at hl 7 rfl) ?_
      refine z_cvi C wd hA (As := [.ref a0, .int (iI ((2 * k % p2 mm) + 1)), .int (iI (k / p2 (mm - 1))), .ref a2, .int (iI q)]) (rest := []) (ws2 := [zO r0 1 [.int (iI S), .int (iI L), .int (iI N), .int (iI E), .ref r1, .ref r2, .ref r3, .ref r4], zA cy r1 80 fr, zA cy r2 32 fm, zA cy r3 32 g, zA cy r4 80 fu, zO a0 0 [.int (iI mm), .int (iI oo), .ref a1], zA cy a1 3 tp, zA cy a2 n f]) (c_X1_metricOver l D cy cs r0 r1 r2 r3 r4 a0 a1 a2 n S L N E mm oo tp fm f ((2 * k % p2 mm) + 1) (k / p2 (mm - 1)) q (by omega) (by omega) (by omega) (by omega) (by omega) (by omega) (by omega) (by omega) (by omega) (by omega)) (cwV 5 C.2.2.2.2 gX1_advance_X1_metricOver rfl rfl rfl (by decide +kernel) ⟨Nat.le_of_ble_eq_true rfl, Nat.le_of_ble_eq_true rfl⟩) [0, 2, 5, 6, 7] rfl rfl rfl ⟨rfl, [1, 3, 4], [zA cy r1 80 fr, zA cy r3 32 g, zA cy r4 80 fu], 8, rfl, rfl, rfl, by decide +kernel⟩ rfl rfl rfl rfl (Nat.le_of_ble_eq_true rfl) hl.1 dX1_advance_70 ⟨Nat.zero_le _, Nat.zero_le _⟩ (fun H locs wd => ?_)
      refine z_top (b := vU oo tp fm f q mm k) rfl ?_
      refine lv_istore (lv' := [(11, .int (iI (vU oo tp fm f q mm k))), (10, .int (iI (vL oo tp fm f q mm k))), (9, .int (iI (k / p2 (mm - 1)))), (8, .int (iI (2 * k % p2 mm))), (0, .ref r0), (1, .ref a0), (2, .int (iI d)), (3, .ref a2), (4, .int (iI q)), (5, .int (iI (p2 mm))), (6, .int (iI x)), (7, .int (iI k))]) C.1 C.2.1 dX1_advance_73 hl (by decide) rfl (fun ls hl => ?_)
      refine z_join1 (nL := 13) (D := D) (T := zT cy cs) (A := va_A [zO r0 1 [.int (iI S), .int (iI L), .int (iI N), .int (iI E), .ref r1, .ref r2, .ref r3, .ref r4], zA cy r1 80 fr, zA cy r2 32 fm, zA cy r3 32 fn, zA cy r4 80 fu, zO a0 0 [.int (iI mm), .int (iI oo), .ref a1], zA cy a1 3 tp, zA cy a2 n f] s.heap.size) (H0 := s.heap) (P := fun (u : Int) => (u = uB oo tp fm f q mm k)) (ws := fun (u : Int) => [zO r0 1 [.int (iI S), .int (iI L), .int (iI N), .int (iI E), .ref r1, .ref r2, .ref r3, .ref r4], zA cy r1 80 fr, zA cy r2 32 fm, zA cy r3 32 g, zA cy r4 80 fu, zO a0 0 [.int (iI mm), .int (iI oo), .ref a1], zA cy a1 3 tp, zA cy a2 n f]) (lv := fun (u : Int) => [(0, .ref r0), (1, .ref a0), (2, .int (iI d)), (3, .ref a2), (4, .int (iI q)), (5, .int (iI (p2 mm))), (6, .int (iI x)), (7, .int (iI k)), (8, .int (iI (2 * k % p2 mm))), (9, .int (iI (k / p2 (mm - 1)))), (10, .int (iI (vL oo tp fm f q mm k))), (11, .int (iI (vU oo tp fm f q mm k)))]) (stj := fun (u : Int) => [.int (iI u)]) 99 ?_ (fun jn99 => ?_)
      · skip
        intro u hP99 H locs ls wd hl
        have h99_0 := hP99
        try dsimp only at h99_0
        have wd : Wd D (zT cy cs) _ s.heap s [zO r0 1 [.int (iI S), .int (iI L), .int (iI N), .int (iI E), .ref r1, .ref r2, .ref r3, .ref r4], zA cy r1 80 fr, zA cy r2 32 fm, zA cy r3 32 g, zA cy r4 80 fu, zO a0 0 [.int (iI mm), .int (iI oo), .ref a1], zA cy a1 3 tp, zA cy a2 n f] H locs := wd
        have hl : lv_has ls 13 [(0, .ref r0), (1, .ref a0), (2, .int (iI d)), (3, .ref a2), (4, .int (iI q)), (5, .int (iI (p2 mm))), (6, .int (iI x)), (7, .int (iI k)), (8, .int (iI (2 * k % p2 mm))), (9, .int (iI (k / p2 (mm - 1)))), (10, .int (iI (vL oo tp fm f q mm k))), (11, .int (iI (vU oo tp fm f q mm k)))] := hl
        have hu := uB_or oo tp fm f q mm k
        refine lv_istore (lv' := [(12, .int (iI u)), (0, .ref r0), (1, .ref a0), (2, .int (iI d)), (3, .ref a2), (4, .int (iI q)), (5, .int (iI (p2 mm))), (6, .int (iI x)), (7, .int (iI k)), (8, .int (iI (2 * k % p2 mm))), (9, .int (iI (k / p2 (mm - 1)))), (10, .int (iI (vL oo tp fm f q mm k))), (11, .int (iI (vU oo tp fm f q mm k)))]) C.1 C.2.1 dX1_advance_99 hl (by decide) rfl (fun ls hl => ?_)
        refine z_join1 (nL := 13) (D := D) (T := zT cy cs) (A := va_A [zO r0 1 [.int (iI S), .int (iI L), .int (iI N), .int (iI E), .ref r1, .ref r2, .ref r3, .ref r4], zA cy r1 80 fr, zA cy r2 32 fm, zA cy r3 32 fn, zA cy r4 80 fu, zO a0 0 [.int (iI mm), .int (iI oo), .ref a1], zA cy a1 3 tp, zA cy a2 n f] s.heap.size) (H0 := s.heap) (P := fun (y : Int) => (-1 ≤ y ∧ y ≤ 243) ∧ (y = nmF oo tp fm f q mm k)) (ws := fun (y : Int) => [zO r0 1 [.int (iI S), .int (iI L), .int (iI N), .int (iI E), .ref r1, .ref r2, .ref r3, .ref r4], zA cy r1 80 fr, zA cy r2 32 fm, zA cy r3 32 g, zA cy r4 80 fu, zO a0 0 [.int (iI mm), .int (iI oo), .ref a1], zA cy a1 3 tp, zA cy a2 n f]) (lv := fun (y : Int) => [(0, .ref r0), (1, .ref a0), (2, .int (iI d)), (3, .ref a2), (4, .int (iI q)), (5, .int (iI (p2 mm))), (6, .int (iI x)), (7, .int (iI k)), (12, .int (iI u))]) (stj := fun (y : Int) => [.int (iI y), .int (iI k), .ref r3]) 119 ?_ (fun jn119 => ?_)
        · skip
          intro y hP119 H locs ls wd hl
          obtain ⟨h119_0, h119_1⟩ := hP119
          try dsimp only at h119_0 h119_1
          have wd : Wd D (zT cy cs) _ s.heap s [zO r0 1 [.int (iI S), .int (iI L), .int (iI N), .int (iI E), .ref r1, .ref r2, .ref r3, .ref r4], zA cy r1 80 fr, zA cy r2 32 fm, zA cy r3 32 g, zA cy r4 80 fu, zO a0 0 [.int (iI mm), .int (iI oo), .ref a1], zA cy a1 3 tp, zA cy a2 n f] H locs := wd
          have hl : lv_has ls 13 [(0, .ref r0), (1, .ref a0), (2, .int (iI d)), (3, .ref a2), (4, .int (iI q)), (5, .int (iI (p2 mm))), (6, .int (iI x)), (7, .int (iI k)), (12, .int (iI u))] := hl
          refine z_iast C wd (ws2 := [zO r0 1 [.int (iI S), .int (iI L), .int (iI N), .int (iI E), .ref r1, .ref r2, .ref r3, .ref r4], zA cy r1 80 fr, zA cy r2 32 fm, zA cy r3 32 (uZ g k y), zA cy r4 80 fu, zO a0 0 [.int (iI mm), .int (iI oo), .ref a1], zA cy a1 3 tp, zA cy a2 n f]) 3 rfl (by omega) (by decide) rfl dX1_advance_119 (fun H locs wd => ?_)
          refine lv_iload C.1 C.2.1 dX1_advance_120 (lv_at hl 8 rfl) ?_
          refine z_if_eq C (tgt := 134) dX1_advance_122 (by decide) (by omega) (fun c_4 => ?_) (fun c_4 => ?_)
          · skip
            refine z_iinc C (lv' := [(7, .int (iI (k + 1))), (0, .ref r0), (1, .ref a0), (2, .int (iI d)), (3, .ref a2), (4, .int (iI q)), (5, .int (iI (p2 mm))), (6, .int (iI x)), (12, .int (iI u))]) hl 7 dX1_advance_134 rfl (by decide) rfl (fun ls hl => ?_)
            refine z_goto C (tgt := 22) dX1_advance_137 (by decide) ?_
            exact ih22 x (k + 1) (uZ g k y) ⟨(by omega), (by have e := csum_at (uB oo tp fm f q mm) h22_0.1; rcases hu with hu | hu <;> rw [hu.1] at e <;> omega), (by rw [h22_2, h119_1]; exact cpZ_step (nmF oo tp fm f q mm) fn k h22_0.1)⟩ (by omega) H locs _ wd (lv_sub hl [1, 2, 3, 4, 5, 6, 7, 0] rfl)
          · skip
            refine lv_iload C.1 C.2.1 dX1_advance_125 (lv_at hl 6 rfl) ?_
            refine z_iconst C dX1_advance_127 ?_
            refine lv_iload C.1 C.2.1 dX1_advance_128 (lv_at hl 7 rfl) ?_
            refine z_ishl C (p2 k) dX1_advance_130 (iI_1k h22_0.1 (by omega)) ?_
            refine z_ior C (x + p2 k) dX1_advance_131 (iI_orb hxc.1 hxc.2 h22_0.1) ?_
            refine lv_istore (lv' := [(6, .int (iI (x + p2 k))), (0, .ref r0), (1, .ref a0), (2, .int (iI d)), (3, .ref a2), (4, .int (iI q)), (5, .int (iI (p2 mm))), (7, .int (iI k)), (12, .int (iI u))]) C.1 C.2.1 dX1_advance_132 hl (by decide) rfl (fun ls hl => ?_)
            refine z_iinc C (lv' := [(7, .int (iI (k + 1))), (6, .int (iI (x + p2 k))), (0, .ref r0), (1, .ref a0), (2, .int (iI d)), (3, .ref a2), (4, .int (iI q)), (5, .int (iI (p2 mm))), (12, .int (iI u))]) hl 7 dX1_advance_134 rfl (by decide) rfl (fun ls hl => ?_)
            refine z_goto C (tgt := 22) dX1_advance_137 (by decide) ?_
            exact ih22 (x + p2 k) (k + 1) (uZ g k y) ⟨(by omega), (by have e := csum_at (uB oo tp fm f q mm) h22_0.1; rcases hu with hu | hu <;> rw [hu.1] at e <;> omega), (by rw [h22_2, h119_1]; exact cpZ_step (nmF oo tp fm f q mm) fn k h22_0.1)⟩ (by omega) H locs _ wd (lv_sub hl [2, 3, 4, 5, 6, 7, 1, 0] rfl)
        refine lv_aload_n C.1 C.2.1 dX1_advance_101 rfl (lv_at hl 1 rfl) ?_
        refine z_get C wd (Cn := RX1) (TT := TX1) (N := 8) (ci := 1) iX1 0 rfl rfl 6 (by decide) L18 (fun _ h => h) rfl dX1_advance_102 ?_
        refine lv_iload C.1 C.2.1 dX1_advance_105 (lv_at hl 8 rfl) ?_
        refine lv_iload C.1 C.2.1 dX1_advance_107 (lv_at hl 0 rfl) ?_
        refine z_if_eq C (tgt := 117) dX1_advance_109 (by decide) (by omega) (fun c_5 => ?_) (fun c_5 => ?_)
        · skip
          refine lv_iload C.1 C.2.1 dX1_advance_117 (lv_at hl 11 rfl) ?_
          exact jn119 (vL oo tp fm f q mm k) ⟨(by omega), (by omega)⟩ H locs _ wd (lv_sub hl [1, 2, 3, 4, 5, 6, 7, 8, 0] rfl)
        · skip
          refine lv_iload C.1 C.2.1 dX1_advance_112 (lv_at hl 12 rfl) ?_
          refine z_goto C (tgt := 119) dX1_advance_114 (by decide) ?_
          exact jn119 (vU oo tp fm f q mm k) ⟨(by omega), (by omega)⟩ H locs _ wd (lv_sub hl [1, 2, 3, 4, 5, 6, 7, 8, 0] rfl)
      refine lv_iload C.1 C.2.1 dX1_advance_75 (lv_at hl 0 rfl) ?_
      refine z_iconst C dX1_advance_77 ?_
      refine z_icmp_eq C (tgt := 98) dX1_advance_78 (by decide) (by omega) (fun c_6 => ?_) (fun c_6 => ?_)
      · skip
        refine z_iconst C dX1_advance_98 ?_
        exact jn99 0 (by have hu := uB_or oo tp fm f q mm k; omega) H locs _ wd (lv_sub hl [4, 5, 6, 7, 8, 9, 10, 11, 3, 2, 1, 0] rfl)
      · skip
        refine lv_iload C.1 C.2.1 dX1_advance_81 (lv_at hl 1 rfl) ?_
        refine z_iconst C dX1_advance_83 ?_
        refine z_icmp_eq C (tgt := 94) dX1_advance_84 (by decide) (by omega) (fun c_7 => ?_) (fun c_7 => ?_)
        · skip
          refine z_iconst C dX1_advance_94 ?_
          refine z_goto C (tgt := 99) dX1_advance_95 (by decide) ?_
          exact jn99 1 (by have hu := uB_or oo tp fm f q mm k; omega) H locs _ wd (lv_sub hl [4, 5, 6, 7, 8, 9, 10, 11, 3, 2, 1, 0] rfl)
        · skip
          refine lv_iload C.1 C.2.1 dX1_advance_87 (lv_at hl 0 rfl) ?_
          refine lv_iload C.1 C.2.1 dX1_advance_89 (lv_at hl 1 rfl) ?_
          refine z_icmp_ge C (tgt := 98) dX1_advance_91 (by decide) (by omega) (fun c_8 => ?_) (fun c_8 => ?_)
          · skip
            refine z_iconst C dX1_advance_98 ?_
            exact jn99 0 (by have hu := uB_or oo tp fm f q mm k; omega) H locs _ wd (lv_sub hl [4, 5, 6, 7, 8, 9, 10, 11, 3, 2, 1, 0] rfl)
          · skip
            refine z_iconst C dX1_advance_94 ?_
            refine z_goto C (tgt := 99) dX1_advance_95 (by decide) ?_
            exact jn99 1 (by have hu := uB_or oo tp fm f q mm k; omega) H locs _ wd (lv_sub hl [4, 5, 6, 7, 8, 9, 10, 11, 3, 2, 1, 0] rfl)
  · skip
    exact False.elim (by omega)
set_option maxRecDepth 100000 in
set_option maxHeartbeats 4000000 in
theorem c_X1_reached (l : Launch) (D : va_G) (cy cs : ClassId) (r0 r1 r2 r3 r4 a0 a1 : Nat) (S L N E mm oo : Int) (fm : Int → Int) (hm : 1 ≤ mm ∧ mm ≤ 5) (hS : 0 ≤ S ∧ S ≤ 80) (hme : mtOk fm S) : zCl l D (zT cy cs) yX1_reached wsX1_reached ({ frames := 1, cells := 0, slots := 0, locals := 20 } : Room) [.ref r0, .ref a0] [zO r0 1 [.int (iI S), .int (iI L), .int (iI N), .int (iI E), .ref r1, .ref r2, .ref r3, .ref r4], zA cy r2 32 fm, zO a0 0 [.int (iI mm), .int (iI oo), .ref a1]] (csum (rB fm) (p2 mm).toNat) [zO r0 1 [.int (iI S), .int (iI L), .int (iI N), .int (iI E), .ref r1, .ref r2, .ref r3, .ref r4], zA cy r2 32 fm, zO a0 0 [.int (iI mm), .int (iI oo), .ref a1]] := by
  intro sz
  refine zM_mk (cc := cX1_reached) (maxL := 6) (ret := (some .long)) (own := RX1) (Qc := fun sz => va_Ql (fun r (_ : Unit) => r = lI (csum (rB fm) (p2 mm).toNat)) (fun _ t => zQ D (zT cy cs) (va_A [zO r0 1 [.int (iI S), .int (iI L), .int (iI N), .int (iI E), .ref r1, .ref r2, .ref r3, .ref r4], zA cy r2 32 fm, zO a0 0 [.int (iI mm), .int (iI oo), .ref a1]] sz) [zO r0 1 [.int (iI S), .int (iI L), .int (iI N), .int (iI E), .ref r1, .ref r2, .ref r3, .ref r4], zA cy r2 32 fm, zO a0 0 [.int (iI mm), .int (iI oo), .ref a1]] t) (va_A [zO r0 1 [.int (iI S), .int (iI L), .int (iI N), .int (iI E), .ref r1, .ref r2, .ref r3, .ref r4], zA cy r2 32 fm, zO a0 0 [.int (iI mm), .int (iI oo), .ref a1]] sz)) (by decide) rfl rfl (Nat.le_of_ble_eq_true rfl) rfl sz ?_
  intro p e s m args below meth c ls C hr hlk hnm hl hsz hA wd
  subst hsz
  have hl : lv_has ls 6 [(0, .ref r0), (1, .ref a0)] := hl
  have iX1 : ∀ w ∈ u_ws RX1 TX1 8, w ∈ wsX1_reached := by decide +kernel
  have L15 := C.2.2.2.2 (.fieldLink RX1 15 "LikelyWalks$Reader" "metrics" "[I") (by decide +kernel)
  have hp := p2_all hm.1 hm.2
  refine lv_aload_n C.1 C.2.1 dX1_reached_0 rfl (lv_at hl 1 rfl) ?_
  refine z_cvi C wd hA (As := []) (rest := []) (ws2 := [zO r0 1 [.int (iI S), .int (iI L), .int (iI N), .int (iI E), .ref r1, .ref r2, .ref r3, .ref r4], zA cy r2 32 fm, zO a0 0 [.int (iI mm), .int (iI oo), .ref a1]]) (c_X0_states l D cy cs a0 a1 mm oo (by omega)) (cwV 0 C.2.2.2.2 gX1_reached_X0_states rfl rfl rfl (by decide +kernel) ⟨Nat.le_of_ble_eq_true rfl, Nat.le_of_ble_eq_true rfl⟩) [2] rfl rfl rfl ⟨rfl, [0, 1], [zO r0 1 [.int (iI S), .int (iI L), .int (iI N), .int (iI E), .ref r1, .ref r2, .ref r3, .ref r4], zA cy r2 32 fm], 3, rfl, rfl, rfl, by decide +kernel⟩ rfl rfl rfl rfl (Nat.le_of_ble_eq_true rfl) hl.1 dX1_reached_1 ⟨Nat.zero_le _, Nat.zero_le _⟩ (fun H locs wd => ?_)
  refine lv_istore_n (lv' := [(2, .int (iI (p2 mm))), (0, .ref r0), (1, .ref a0)]) C.1 C.2.1 dX1_reached_4 rfl hl (by decide) rfl (fun ls hl => ?_)
  refine lv_lconst (v := lI 0) C.1 C.2.1 dX1_reached_5 (by decide +kernel) ?_
  refine lv_lstore_n (lv' := [(3, .long (lI 0)), (2, .int (iI (p2 mm))), (0, .ref r0), (1, .ref a0)]) C.1 C.2.1 dX1_reached_6 rfl hl (by decide) rfl (fun ls hl => ?_)
  refine z_iconst C dX1_reached_7 ?_
  refine lv_istore (lv' := [(5, .int (iI 0)), (3, .long (lI 0)), (2, .int (iI (p2 mm))), (0, .ref r0), (1, .ref a0)]) C.1 C.2.1 dX1_reached_8 hl (by decide) rfl (fun ls hl => ?_)
  refine z_loop2 (P := fun (x : Int) (k : Int) => (0 ≤ k ∧ k ≤ p2 mm) ∧ (x = csum (rB fm) k.toNat)) (mu := fun (x : Int) (k : Int) => (p2 mm - k).toNat) (ws := fun (x : Int) (k : Int) => [zO r0 1 [.int (iI S), .int (iI L), .int (iI N), .int (iI E), .ref r1, .ref r2, .ref r3, .ref r4], zA cy r2 32 fm, zO a0 0 [.int (iI mm), .int (iI oo), .ref a1]]) (lv := fun (x : Int) (k : Int) => [(0, .ref r0), (1, .ref a0), (2, .int (iI (p2 mm))), (3, .long (lI x)), (5, .int (iI k))]) 0 0 C ⟨(by omega), rfl⟩ wd (lv_sub hl [3, 4, 2, 1, 0] rfl) ?_
  intro x k hP10 ih10 H locs ls wd hl
  obtain ⟨h10_0, h10_1⟩ := hP10
  try dsimp only at h10_0 h10_1
  have wd : Wd D (zT cy cs) _ s.heap s [zO r0 1 [.int (iI S), .int (iI L), .int (iI N), .int (iI E), .ref r1, .ref r2, .ref r3, .ref r4], zA cy r2 32 fm, zO a0 0 [.int (iI mm), .int (iI oo), .ref a1]] H locs := wd
  have hl : lv_has ls 6 [(0, .ref r0), (1, .ref a0), (2, .int (iI (p2 mm))), (3, .long (lI x)), (5, .int (iI k))] := hl
  have hxc := csum_le (rB_le fm) k.toNat
  rw [← h10_1, Int.toNat_of_nonneg h10_0.1] at hxc
  refine lv_iload C.1 C.2.1 dX1_reached_10 (lv_at hl 4 rfl) ?_
  refine lv_iload_n C.1 C.2.1 dX1_reached_12 rfl (lv_at hl 2 rfl) ?_
  refine z_icmp_ge C (tgt := 40) dX1_reached_13 (by decide) (by omega) (fun c_1 => ?_) (fun c_1 => ?_)
  · skip
    refine lv_lload_n C.1 C.2.1 dX1_reached_40 rfl (lv_at hl 3 rfl) ?_
    exact z_lret C hr hlk wd (by rw [h10_1, show k = p2 mm by omega]) dX1_reached_41
  · skip
    refine lv_aload_n C.1 C.2.1 dX1_reached_16 rfl (lv_at hl 0 rfl) ?_
    refine z_get C wd (Cn := RX1) (TT := TX1) (N := 8) (ci := 1) iX1 0 rfl rfl 5 (by decide) L15 (fun _ h => h) rfl dX1_reached_17 ?_
    refine lv_iload C.1 C.2.1 dX1_reached_20 (lv_at hl 4 rfl) ?_
    refine z_iald C wd 1 rfl (by omega) (by decide) dX1_reached_22 ?_
    have hfk := hme k h10_0.1 (by omega)
    refine z_iconst C dX1_reached_23 ?_
    refine z_icmp_eq C (tgt := 34) dX1_reached_24 (by decide) (by omega) (fun c_2 => ?_) (fun c_2 => ?_)
    · skip
      refine z_iinc C (lv' := [(5, .int (iI (k + 1))), (0, .ref r0), (1, .ref a0), (2, .int (iI (p2 mm))), (3, .long (lI x))]) hl 4 dX1_reached_34 rfl (by decide) rfl (fun ls hl => ?_)
      refine z_goto C (tgt := 10) dX1_reached_37 (by decide) ?_
      exact ih10 x (k + 1) ⟨(by omega), (by have e := csum_at (rB fm) h10_0.1; have e2 : rB fm k = if fm k = -1 then 0 else 1 := rfl; first | (rw [if_pos (by omega)] at e2; rw [e2] at e; omega) | (rw [if_neg (by omega)] at e2; rw [e2] at e; omega))⟩ (by omega) H locs _ wd (lv_sub hl [1, 2, 3, 4, 0] rfl)
    · skip
      refine lv_lload_n C.1 C.2.1 dX1_reached_27 rfl (lv_at hl 3 rfl) ?_
      refine lv_lconst (v := lI 1) C.1 C.2.1 dX1_reached_28 (by decide +kernel) ?_
      refine lv_iload C.1 C.2.1 dX1_reached_29 (lv_at hl 4 rfl) ?_
      refine lv_lshl (v := lI (p2 k)) C.1 C.2.1 dX1_reached_31 (lI_1k h10_0.1 (by omega)) ?_
      refine z_lor C (x + p2 k) dX1_reached_32 (lI_orb hxc.1 hxc.2 h10_0.1) ?_
      refine lv_lstore_n (lv' := [(3, .long (lI (x + p2 k))), (0, .ref r0), (1, .ref a0), (2, .int (iI (p2 mm))), (5, .int (iI k))]) C.1 C.2.1 dX1_reached_33 rfl hl (by decide) rfl (fun ls hl => ?_)
      refine z_iinc C (lv' := [(5, .int (iI (k + 1))), (3, .long (lI (x + p2 k))), (0, .ref r0), (1, .ref a0), (2, .int (iI (p2 mm)))]) hl 4 dX1_reached_34 rfl (by decide) rfl (fun ls hl => ?_)
      refine z_goto C (tgt := 10) dX1_reached_37 (by decide) ?_
      exact ih10 (x + p2 k) (k + 1) ⟨(by omega), (by have e := csum_at (rB fm) h10_0.1; have e2 : rB fm k = if fm k = -1 then 0 else 1 := rfl; first | (rw [if_pos (by omega)] at e2; rw [e2] at e; omega) | (rw [if_neg (by omega)] at e2; rw [e2] at e; omega))⟩ (by omega) H locs _ wd (lv_sub hl [2, 3, 4, 1, 0] rfl)
