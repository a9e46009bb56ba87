set_option maxRecDepth 100000 in
set_option maxHeartbeats 4000000 in
theorem c_X6_lay (l : Launch) (D : va_G) (cy cs : ClassId) (m0 m1 m2 m3 m4 m5 m6 m7 m8 : Nat) (st iss ty : Int) (M : Int → Int) (t : Int) (hd me wk : Int → Int) (hm : 1 ≤ M 0 ∧ M 0 ≤ 5) (ho : 2 ≤ M 1 ∧ M 1 ≤ 3) (ht : tpOk (sl M 2)) (hhd : ∀ k : Int, 0 ≤ k → k < 3 → 0 ≤ hd k ∧ hd k ≤ 3) (h9 : 0 ≤ M 9 ∧ M 9 < 80) (hme : mtOk (sl M 572) (M 9)) (hwd : wdOk M) (htt : 0 ≤ t ∧ t < p2 (M 0)) : zCv l D (zT cy cs) yX6_lay wsX6_lay ({ frames := 2, cells := 0, slots := 0, locals := 47 } : Room) [.ref m0, .int (iI t)] [zO m0 6 [.ref m1, .ref m2, .int (iI st), .ref m3, .int (iI iss), .ref m4, .int (iI ty), .ref m5, .ref m6, .ref m7, .ref m8], zA cy m1 780 M, zA cy m5 3 hd, zA cy m6 32 me, zA cy m7 96 wk] [zO m0 6 [.ref m1, .ref m2, .int (iI st), .ref m3, .int (iI iss), .ref m4, .int (iI ty), .ref m5, .ref m6, .ref m7, .ref m8], zA cy m1 780 M, zA cy m5 3 hd, zA cy m6 32 (uZ me t (nmM M hd t)), zA cy m7 96 (wrS wk (3 * t) 3 (wkF M hd t))] := by
  intro sz
  refine zM_mk (cc := cX6_lay) (maxL := 9) (ret := none) (own := RX6) (Qc := fun sz => va_Qv (fun (_ : Unit) => True) (fun _ t9 => zQ D (zT cy cs) (va_A [zO m0 6 [.ref m1, .ref m2, .int (iI st), .ref m3, .int (iI iss), .ref m4, .int (iI ty), .ref m5, .ref m6, .ref m7, .ref m8], zA cy m1 780 M, zA cy m5 3 hd, zA cy m6 32 me, zA cy m7 96 wk] sz) [zO m0 6 [.ref m1, .ref m2, .int (iI st), .ref m3, .int (iI iss), .ref m4, .int (iI ty), .ref m5, .ref m6, .ref m7, .ref m8], zA cy m1 780 M, zA cy m5 3 hd, zA cy m6 32 (uZ me t (nmM M hd t)), zA cy m7 96 (wrS wk (3 * t) 3 (wkF M hd t))] t9) (va_A [zO m0 6 [.ref m1, .ref m2, .int (iI st), .ref m3, .int (iI iss), .ref m4, .int (iI ty), .ref m5, .ref m6, .ref m7, .ref m8], zA cy m1 780 M, zA cy m5 3 hd, zA cy m6 32 me, zA cy m7 96 wk] sz)) (by decide) rfl rfl (Nat.le_of_ble_eq_true rfl) rfl sz ?_
  intro p e s m args below meth c ls C hr hlk hnm hl hsz hA wd
  subst hsz
  have hl : lv_has ls 9 [(0, .ref m0), (1, .int (iI t))] := hl
  have iX6 : ∀ w ∈ u_ws RX6 TX6 11, w ∈ wsX6_lay := by decide +kernel
  have L7 := C.2.2.2.2 (.fieldLink RX6 7 "LikelyWalksModel" "now" "[I") (by decide +kernel)
  have L25 := C.2.2.2.2 (.fieldLink RX6 25 "LikelyWalksModel" "metrics" "[I") (by decide +kernel)
  have L28 := C.2.2.2.2 (.fieldLink RX6 28 "LikelyWalksModel" "walks" "[I") (by decide +kernel)
  have hp := p2_all hm.1 hm.2
  have hbi := bi_le hm.1 hm.2 htt.1 htt.2
  have hlo := lo_le (t := t) hm.1 hm.2
  have hub := uB_or (M 1) (sl M 2) (sl M 572) hd 0 (M 0) t
  have hvL := mo_le (tp := sl M 2) (f := hd) (q := 0) (mm := M 0) (b := t / p2 (M 0 - 1)) ho hme (x := 2 * t % p2 (M 0)) (by omega) (by omega)
  have hvU := mo_le (tp := sl M 2) (f := hd) (q := 0) (mm := M 0) (b := t / p2 (M 0 - 1)) ho hme (x := 2 * t % p2 (M 0) + 1) (by omega) (by omega)
  have eL : vL (M 1) (sl M 2) (sl M 572) hd 0 (M 0) t = mo (M 1) (sl M 2) (sl M 572) hd 0 (M 0) (2 * t % p2 (M 0)) (t / p2 (M 0 - 1)) := rfl
  have eU : vU (M 1) (sl M 2) (sl M 572) hd 0 (M 0) t = mo (M 1) (sl M 2) (sl M 572) hd 0 (M 0) (2 * t % p2 (M 0) + 1) (t / p2 (M 0 - 1)) := rfl
  rw [← eL] at hvL
  rw [← eU] at hvU
  have enm : nmM M hd t = nmF (M 1) (sl M 2) (sl M 572) hd 0 (M 0) t := rfl
  rw [← enm] at hub
  have hfr := frF_or M hd t
  have hfl := frF_le (hd := hd) (t := t) hm.1 hm.2
  refine lv_aload_n C.1 C.2.1 dX6_lay_0 rfl (lv_at hl 0 rfl) ?_
  refine z_cvi C wd hA (As := []) (rest := []) (ws2 := [zO m0 6 [.ref m1, .ref m2, .int (iI st), .ref m3, .int (iI iss), .ref m4, .int (iI ty), .ref m5, .ref m6, .ref m7, .ref m8], zA cy m1 780 M, zA cy m5 3 hd, zA cy m6 32 me, zA cy m7 96 wk]) (c_X6_registers l D cy cs m0 m1 m2 m3 m4 m5 m6 m7 m8 st iss ty M (by omega)) (cwV 0 C.2.2.2.2 gX6_lay_X6_registers rfl rfl rfl (by decide +kernel) ⟨Nat.le_of_ble_eq_true rfl, Nat.le_of_ble_eq_true rfl⟩) [0, 1] rfl rfl rfl ⟨rfl, [2, 3, 4], [zA cy m5 3 hd, zA cy m6 32 me, zA cy m7 96 wk], 5, rfl, rfl, rfl, by decide +kernel⟩ rfl rfl rfl rfl (Nat.le_of_ble_eq_true rfl) hl.1 dX6_lay_1 ⟨Nat.zero_le _, Nat.zero_le _⟩ (fun H locs wd => ?_)
  refine z_iconst C dX6_lay_4 ?_
  refine z_idiv C dX6_lay_5 (by omega) ?_
  refine z_top (b := p2 (M 0 - 1)) (by omega) ?_
  refine lv_istore_n (lv' := [(2, .int (iI (p2 (M 0 - 1)))), (0, .ref m0), (1, .int (iI t))]) C.1 C.2.1 dX6_lay_6 rfl hl (by decide) rfl (fun ls hl => ?_)
  refine lv_iload_n C.1 C.2.1 dX6_lay_7 rfl (lv_at hl 2 rfl) ?_
  refine lv_iload_n C.1 C.2.1 dX6_lay_8 rfl (lv_at hl 0 rfl) ?_
  refine z_idiv C dX6_lay_9 (by omega) ?_
  refine lv_istore_n (lv' := [(3, .int (iI (t / (p2 (M 0 - 1))))), (2, .int (iI (p2 (M 0 - 1)))), (0, .ref m0), (1, .int (iI t))]) C.1 C.2.1 dX6_lay_10 rfl hl (by decide) rfl (fun ls hl => ?_)
  refine z_iconst C dX6_lay_11 ?_
  refine lv_iload_n C.1 C.2.1 dX6_lay_12 rfl (lv_at hl 3 rfl) ?_
  refine lv_iload_n C.1 C.2.1 dX6_lay_13 rfl (lv_at hl 1 rfl) ?_
  refine z_irem C dX6_lay_14 (by omega) ?_
  refine z_imul C dX6_lay_15 ?_
  refine z_top (b := 2 * t % p2 (M 0)) (lo_mod hm.1 hm.2) ?_
  refine lv_istore (lv' := [(4, .int (iI (2 * t % p2 (M 0)))), (3, .int (iI (t / (p2 (M 0 - 1))))), (2, .int (iI (p2 (M 0 - 1)))), (0, .ref m0), (1, .int (iI t))]) C.1 C.2.1 dX6_lay_16 hl (by decide) rfl (fun ls hl => ?_)
  refine z_iconst C dX6_lay_18 ?_
  refine lv_istore (lv' := [(5, .int (iI (-1))), (4, .int (iI (2 * t % p2 (M 0)))), (3, .int (iI (t / (p2 (M 0 - 1))))), (2, .int (iI (p2 (M 0 - 1)))), (0, .ref m0), (1, .int (iI t))]) C.1 C.2.1 dX6_lay_19 hl (by decide) rfl (fun ls hl => ?_)
  refine z_iconst C dX6_lay_21 ?_
  refine lv_istore (lv' := [(6, .int (iI (-1))), (5, .int (iI (-1))), (4, .int (iI (2 * t % p2 (M 0)))), (3, .int (iI (t / (p2 (M 0 - 1))))), (2, .int (iI (p2 (M 0 - 1)))), (0, .ref m0), (1, .int (iI t))]) C.1 C.2.1 dX6_lay_22 hl (by decide) rfl (fun ls hl => ?_)
  refine lv_iload C.1 C.2.1 dX6_lay_24 (lv_at hl 2 rfl) ?_
  refine lv_istore (lv' := [(7, .int (iI (2 * t % p2 (M 0)))), (6, .int (iI (-1))), (5, .int (iI (-1))), (4, .int (iI (2 * t % p2 (M 0)))), (3, .int (iI (t / (p2 (M 0 - 1))))), (2, .int (iI (p2 (M 0 - 1)))), (0, .ref m0), (1, .int (iI t))]) C.1 C.2.1 dX6_lay_26 hl (by decide) rfl (fun ls hl => ?_)
  refine z_loop3 (P := fun (fr : Int) (le : Int) (x : Int) => ((x = 2 * t % p2 (M 0) ∧ fr = -1 ∧ le = -1) ∨ (x = 2 * t % p2 (M 0) + 1 ∧ le = vL (M 1) (sl M 2) (sl M 572) hd 0 (M 0) t ∧ ((vL (M 1) (sl M 2) (sl M 572) hd 0 (M 0) t = -1 ∧ fr = -1) ∨ (vL (M 1) (sl M 2) (sl M 572) hd 0 (M 0) t ≠ -1 ∧ fr = 2 * t % p2 (M 0)))) ∨ (x = 2 * t % p2 (M 0) + 2 ∧ le = nmM M hd t ∧ ((nmM M hd t = -1 ∧ fr = -1) ∨ (nmM M hd t ≠ -1 ∧ fr = 2 * t % p2 (M 0) + uB (M 1) (sl M 2) (sl M 572) hd 0 (M 0) t))))) (mu := fun (fr : Int) (le : Int) (x : Int) => (2 * t % p2 (M 0) + 2 - x).toNat) (ws := fun (fr : Int) (le : Int) (x : Int) => [zO m0 6 [.ref m1, .ref m2, .int (iI st), .ref m3, .int (iI iss), .ref m4, .int (iI ty), .ref m5, .ref m6, .ref m7, .ref m8], zA cy m1 780 M, zA cy m5 3 hd, zA cy m6 32 me, zA cy m7 96 wk]) (lv := fun (fr : Int) (le : Int) (x : Int) => [(0, .ref m0), (1, .int (iI t)), (2, .int (iI (p2 (M 0 - 1)))), (3, .int (iI (t / p2 (M 0 - 1)))), (4, .int (iI (2 * t % p2 (M 0)))), (5, .int (iI fr)), (6, .int (iI le)), (7, .int (iI x))]) (-1) (-1) (2 * t % p2 (M 0)) C (by omega) wd (lv_sub hl [6, 7, 5, 4, 3, 2, 1, 0] rfl) ?_
  intro fr le x hP28 ih28 H locs ls wd hl
  have h28_0 := hP28
  try dsimp only at h28_0
  have wd : Wd D (zT cy cs) _ s.heap s [zO m0 6 [.ref m1, .ref m2, .int (iI st), .ref m3, .int (iI iss), .ref m4, .int (iI ty), .ref m5, .ref m6, .ref m7, .ref m8], zA cy m1 780 M, zA cy m5 3 hd, zA cy m6 32 me, zA cy m7 96 wk] H locs := wd
  have hl : lv_has ls 9 [(0, .ref m0), (1, .int (iI t)), (2, .int (iI (p2 (M 0 - 1)))), (3, .int (iI (t / p2 (M 0 - 1)))), (4, .int (iI (2 * t % p2 (M 0)))), (5, .int (iI fr)), (6, .int (iI le)), (7, .int (iI x))] := hl
  refine lv_iload C.1 C.2.1 dX6_lay_28 (lv_at hl 7 rfl) ?_
  refine lv_iload C.1 C.2.1 dX6_lay_30 (lv_at hl 4 rfl) ?_
  refine z_iconst C dX6_lay_32 ?_
  refine z_iadd C dX6_lay_33 ?_
  refine z_icmp_ge C (tgt := 111) dX6_lay_34 (by decide) (by omega) (fun c_1 => ?_) (fun c_1 => ?_)
  · skip
    have hle : le = nmM M hd t := by omega
    have hfv : fr = frF M hd t := by omega
    refine lv_aload_n C.1 C.2.1 dX6_lay_111 rfl (lv_at hl 0 rfl) ?_
    refine z_get C wd (Cn := RX6) (TT := TX6) (N := 11) (ci := 6) iX6 0 rfl rfl 8 (by decide) L25 (fun _ h => h) rfl dX6_lay_112 ?_
    refine lv_iload_n C.1 C.2.1 dX6_lay_115 rfl (lv_at hl 1 rfl) ?_
    refine lv_iload C.1 C.2.1 dX6_lay_116 (lv_at hl 6 rfl) ?_
    refine z_top (b := nmM M hd t) hle ?_
    refine z_iast C wd (ws2 := [zO m0 6 [.ref m1, .ref m2, .int (iI st), .ref m3, .int (iI iss), .ref m4, .int (iI ty), .ref m5, .ref m6, .ref m7, .ref m8], zA cy m1 780 M, zA cy m5 3 hd, zA cy m6 32 (uZ me t (nmM M hd t)), zA cy m7 96 wk]) 3 rfl (by omega) (by decide) rfl dX6_lay_118 (fun H locs wd => ?_)
    refine z_iconst C dX6_lay_119 ?_
    refine lv_istore (lv' := [(7, .int (iI 0)), (0, .ref m0), (1, .int (iI t)), (2, .int (iI (p2 (M 0 - 1)))), (3, .int (iI (t / p2 (M 0 - 1)))), (4, .int (iI (2 * t % p2 (M 0)))), (5, .int (iI fr)), (6, .int (iI le))]) C.1 C.2.1 dX6_lay_120 hl (by decide) rfl (fun ls hl => ?_)
    refine z_loop2 (P := fun (k : Int) (g : Int → Int) => (0 ≤ k ∧ k ≤ 3) ∧ (g = wrS wk (3 * t) k (wcF M hd t))) (mu := fun (k : Int) (g : Int → Int) => (3 - k).toNat) (ws := fun (k : Int) (g : Int → Int) => [zO m0 6 [.ref m1, .ref m2, .int (iI st), .ref m3, .int (iI iss), .ref m4, .int (iI ty), .ref m5, .ref m6, .ref m7, .ref m8], zA cy m1 780 M, zA cy m5 3 hd, zA cy m6 32 (uZ me t (nmM M hd t)), zA cy m7 96 g]) (lv := fun (k : Int) (g : Int → Int) => [(0, .ref m0), (1, .int (iI t)), (2, .int (iI (p2 (M 0 - 1)))), (3, .int (iI (t / p2 (M 0 - 1)))), (4, .int (iI (2 * t % p2 (M 0)))), (5, .int (iI fr)), (6, .int (iI le)), (7, .int (iI k))]) 0 wk C ⟨(by omega), (wrS_0 _ _ _).symm⟩ wd (lv_sub hl [1, 2, 3, 4, 5, 6, 7, 0] rfl) ?_
    intro k g hP122 ih122 H locs ls wd hl
    obtain ⟨h122_0, h122_1⟩ := hP122
    try dsimp only at h122_0 h122_1
    have wd : Wd D (zT cy cs) _ s.heap s [zO m0 6 [.ref m1, .ref m2, .int (iI st), .ref m3, .int (iI iss), .ref m4, .int (iI ty), .ref m5, .ref m6, .ref m7, .ref m8], zA cy m1 780 M, zA cy m5 3 hd, zA cy m6 32 (uZ me t (nmM M hd t)), zA cy m7 96 g] H locs := wd
    have hl : lv_has ls 9 [(0, .ref m0), (1, .int (iI t)), (2, .int (iI (p2 (M 0 - 1)))), (3, .int (iI (t / p2 (M 0 - 1)))), (4, .int (iI (2 * t % p2 (M 0)))), (5, .int (iI fr)), (6, .int (iI le)), (7, .int (iI k))] := hl
    have hwc := wcF_or M hd t k
    refine lv_iload C.1 C.2.1 dX6_lay_122 (lv_at hl 7 rfl) ?_
    refine z_iconst C dX6_lay_124 ?_
    refine z_icmp_ge C (tgt := 170) dX6_lay_125 (by decide) (by omega) (fun c_2 => ?_) (fun c_2 => ?_)
    · skip
      refine lv_aload_n C.1 C.2.1 dX6_lay_170 rfl (lv_at hl 0 rfl) ?_
      refine z_get C wd (Cn := RX6) (TT := TX6) (N := 11) (ci := 6) iX6 0 rfl rfl 9 (by decide) L28 (fun _ h => h) rfl dX6_lay_171 ?_
      refine z_iconst C dX6_lay_174 ?_
      refine lv_iload_n C.1 C.2.1 dX6_lay_175 rfl (lv_at hl 1 rfl) ?_
      refine z_imul C dX6_lay_176 ?_
      refine lv_aload_n C.1 C.2.1 dX6_lay_177 rfl (lv_at hl 0 rfl) ?_
      refine z_get C wd (Cn := RX6) (TT := TX6) (N := 11) (ci := 6) iX6 0 rfl rfl 0 (by decide) L7 (fun _ h => h) rfl dX6_lay_178 ?_
      refine z_bipush C dX6_lay_181 (by decide +kernel) ?_
      refine z_iald C wd 1 rfl (by omega) (by decide) dX6_lay_183 ?_
      refine z_bipush C dX6_lay_184 (by decide +kernel) ?_
      refine z_idiv C dX6_lay_186 (by omega) ?_
      refine z_iadd C dX6_lay_187 ?_
      refine lv_dup2_11 C.1 C.2.1 dX6_lay_188 rfl rfl ?_
      refine z_iald C wd 4 rfl (by omega) (by decide) dX6_lay_189 ?_
      refine z_top (b := wcF M hd t (M 9 / 30)) (by rw [h122_1]; unfold wrS; rw [if_pos (by omega), show 3 * t + M 9 / 30 - 3 * t = M 9 / 30 by omega]) ?_
      refine lv_iload C.1 C.2.1 dX6_lay_190 (lv_at hl 5 rfl) ?_
      refine z_if_ge C (tgt := 199) dX6_lay_192 (by decide) (by omega) (fun c_3 => ?_) (fun c_3 => ?_)
      · skip
        refine lv_iload_n C.1 C.2.1 dX6_lay_199 rfl (lv_at hl 3 rfl) ?_
        refine lv_aload_n C.1 C.2.1 dX6_lay_200 rfl (lv_at hl 0 rfl) ?_
        refine z_get C wd (Cn := RX6) (TT := TX6) (N := 11) (ci := 6) iX6 0 rfl rfl 0 (by decide) L7 (fun _ h => h) rfl dX6_lay_201 ?_
        refine z_bipush C dX6_lay_204 (by decide +kernel) ?_
        refine z_iald C wd 1 rfl (by omega) (by decide) dX6_lay_206 ?_
        refine z_bipush C dX6_lay_207 (by decide +kernel) ?_
        refine z_irem C dX6_lay_209 (by omega) ?_
        refine z_ishl C ((t / p2 (M 0 - 1)) * p2 (M 9 % 30)) dX6_lay_210 (iI_shl (by omega) (by omega) (by omega) (by rcases (show t / p2 (M 0 - 1) = 0 ∨ t / p2 (M 0 - 1) = 1 by omega) with e | e <;> rw [e] <;> (have := p2_30 (k := M 9 % 30) (by omega) (by omega); omega))) ?_
        refine z_ior C (wkF M hd t (M 9 / 30)) dX6_lay_211 (lay_or hm hwd h9 htt (Or.inr ⟨by omega, rfl⟩)) ?_
        refine z_iast C wd (ws2 := [zO m0 6 [.ref m1, .ref m2, .int (iI st), .ref m3, .int (iI iss), .ref m4, .int (iI ty), .ref m5, .ref m6, .ref m7, .ref m8], zA cy m1 780 M, zA cy m5 3 hd, zA cy m6 32 (uZ me t (nmM M hd t)), zA cy m7 96 (uZ g ((3 * t) + ((M 9) / 30)) (wkF M hd t (M 9 / 30)))]) 4 rfl (by omega) (by decide) rfl dX6_lay_212 (fun H locs wd => ?_)
        have wd := z_cell wd (ws2 := [zO m0 6 [.ref m1, .ref m2, .int (iI st), .ref m3, .int (iI iss), .ref m4, .int (iI ty), .ref m5, .ref m6, .ref m7, .ref m8], zA cy m1 780 M, zA cy m5 3 hd, zA cy m6 32 (uZ me t (nmM M hd t)), zA cy m7 96 (wrS wk (3 * t) 3 (wkF M hd t))]) 4 rfl (by intro j _ _; rw [h122_1, show k = 3 by omega]; exact congrFun (wrS_put wk (3 * t) 3 (M 9 / 30) _ _ _ (by omega) (by omega) rfl (fun z hz => wkF_ne hz)) j) rfl
        exact z_vret C hr hlk wd dX6_lay_213
      · skip
        refine z_iconst C dX6_lay_195 ?_
        refine z_goto C (tgt := 211) dX6_lay_196 (by decide) ?_
        refine z_ior C (wkF M hd t (M 9 / 30)) dX6_lay_211 (lay_or hm hwd h9 htt (Or.inl ⟨by omega, rfl⟩)) ?_
        refine z_iast C wd (ws2 := [zO m0 6 [.ref m1, .ref m2, .int (iI st), .ref m3, .int (iI iss), .ref m4, .int (iI ty), .ref m5, .ref m6, .ref m7, .ref m8], zA cy m1 780 M, zA cy m5 3 hd, zA cy m6 32 (uZ me t (nmM M hd t)), zA cy m7 96 (uZ g ((3 * t) + ((M 9) / 30)) (wkF M hd t (M 9 / 30)))]) 4 rfl (by omega) (by decide) rfl dX6_lay_212 (fun H locs wd => ?_)
        have wd := z_cell wd (ws2 := [zO m0 6 [.ref m1, .ref m2, .int (iI st), .ref m3, .int (iI iss), .ref m4, .int (iI ty), .ref m5, .ref m6, .ref m7, .ref m8], zA cy m1 780 M, zA cy m5 3 hd, zA cy m6 32 (uZ me t (nmM M hd t)), zA cy m7 96 (wrS wk (3 * t) 3 (wkF M hd t))]) 4 rfl (by intro j _ _; rw [h122_1, show k = 3 by omega]; exact congrFun (wrS_put wk (3 * t) 3 (M 9 / 30) _ _ _ (by omega) (by omega) rfl (fun z hz => wkF_ne hz)) j) rfl
        exact z_vret C hr hlk wd dX6_lay_213
    · skip
      refine lv_aload_n C.1 C.2.1 dX6_lay_128 rfl (lv_at hl 0 rfl) ?_
      refine z_get C wd (Cn := RX6) (TT := TX6) (N := 11) (ci := 6) iX6 0 rfl rfl 9 (by decide) L28 (fun _ h => h) rfl dX6_lay_129 ?_
      refine z_iconst C dX6_lay_132 ?_
      refine lv_iload_n C.1 C.2.1 dX6_lay_133 rfl (lv_at hl 1 rfl) ?_
      refine z_imul C dX6_lay_134 ?_
      refine lv_iload C.1 C.2.1 dX6_lay_135 (lv_at hl 7 rfl) ?_
      refine z_iadd C dX6_lay_137 ?_
      refine lv_iload C.1 C.2.1 dX6_lay_138 (lv_at hl 5 rfl) ?_
      refine z_if_ge C (tgt := 147) dX6_lay_140 (by decide) (by omega) (fun c_4 => ?_) (fun c_4 => ?_)
      · skip
        refine lv_aload_n C.1 C.2.1 dX6_lay_147 rfl (lv_at hl 0 rfl) ?_
        refine z_get C wd (Cn := RX6) (TT := TX6) (N := 11) (ci := 6) iX6 0 rfl rfl 0 (by decide) L7 (fun _ h => h) rfl dX6_lay_148 ?_
        refine z_sipush C dX6_lay_151 (by decide +kernel) ?_
        refine z_iconst C dX6_lay_154 ?_
        refine lv_iload C.1 C.2.1 dX6_lay_155 (lv_at hl 5 rfl) ?_
        refine z_imul C dX6_lay_157 ?_
        refine z_iadd C dX6_lay_158 ?_
        refine lv_iload C.1 C.2.1 dX6_lay_159 (lv_at hl 7 rfl) ?_
        refine z_iadd C dX6_lay_161 ?_
        refine z_iald C wd 1 rfl (by omega) (by decide) dX6_lay_162 ?_
        refine z_iast C wd (ws2 := [zO m0 6 [.ref m1, .ref m2, .int (iI st), .ref m3, .int (iI iss), .ref m4, .int (iI ty), .ref m5, .ref m6, .ref m7, .ref m8], zA cy m1 780 M, zA cy m5 3 hd, zA cy m6 32 (uZ me t (nmM M hd t)), zA cy m7 96 (uZ g ((3 * t) + k) (M ((684 + (3 * fr)) + k)))]) 4 rfl (by omega) (by decide) rfl dX6_lay_163 (fun H locs wd => ?_)
        refine z_iinc C (lv' := [(7, .int (iI (k + 1))), (0, .ref m0), (1, .int (iI t)), (2, .int (iI (p2 (M 0 - 1)))), (3, .int (iI (t / p2 (M 0 - 1)))), (4, .int (iI (2 * t % p2 (M 0)))), (5, .int (iI fr)), (6, .int (iI le))]) hl 7 dX6_lay_164 rfl (by decide) rfl (fun ls hl => ?_)
        refine z_goto C (tgt := 122) dX6_lay_167 (by decide) ?_
        exact ih122 (k + 1) (uZ g ((3 * t) + k) (M ((684 + (3 * fr)) + k))) ⟨(by omega), (by rw [← wrS_step wk (3 * t) k (wcF M hd t) h122_0.1, h122_1]; first | (rw [show wcF M hd t k = 0 by omega]; done) | (rw [show wcF M hd t k = M (684 + 3 * fr + k) by rw [hfv]; omega]; done))⟩ (by omega) H locs _ wd (lv_sub hl [1, 2, 3, 4, 5, 6, 7, 0] rfl)
      · skip
        refine z_iconst C dX6_lay_143 ?_
        refine z_goto C (tgt := 163) dX6_lay_144 (by decide) ?_
        refine z_iast C wd (ws2 := [zO m0 6 [.ref m1, .ref m2, .int (iI st), .ref m3, .int (iI iss), .ref m4, .int (iI ty), .ref m5, .ref m6, .ref m7, .ref m8], zA cy m1 780 M, zA cy m5 3 hd, zA cy m6 32 (uZ me t (nmM M hd t)), zA cy m7 96 (uZ g ((3 * t) + k) 0)]) 4 rfl (by omega) (by decide) rfl dX6_lay_163 (fun H locs wd => ?_)
        refine z_iinc C (lv' := [(7, .int (iI (k + 1))), (0, .ref m0), (1, .int (iI t)), (2, .int (iI (p2 (M 0 - 1)))), (3, .int (iI (t / p2 (M 0 - 1)))), (4, .int (iI (2 * t % p2 (M 0)))), (5, .int (iI fr)), (6, .int (iI le))]) hl 7 dX6_lay_164 rfl (by decide) rfl (fun ls hl => ?_)
        refine z_goto C (tgt := 122) dX6_lay_167 (by decide) ?_
        exact ih122 (k + 1) (uZ g ((3 * t) + k) 0) ⟨(by omega), (by rw [← wrS_step wk (3 * t) k (wcF M hd t) h122_0.1, h122_1]; first | (rw [show wcF M hd t k = 0 by omega]; done) | (rw [show wcF M hd t k = M (684 + 3 * fr + k) by rw [hfv]; omega]; done))⟩ (by omega) H locs _ wd (lv_sub hl [1, 2, 3, 4, 5, 6, 7, 0] rfl)
  · skip
    refine z_join1 (nL := 9) (D := D) (T := zT cy cs) (A := va_A [zO m0 6 [.ref m1, .ref m2, .int (iI st), .ref m3, .int (iI iss), .ref m4, .int (iI ty), .ref m5, .ref m6, .ref m7, .ref m8], zA cy m1 780 M, zA cy m5 3 hd, zA cy m6 32 me, zA cy m7 96 wk] s.heap.size) (H0 := s.heap) (P := fun (y : Int) => (y = mo (M 1) (sl M 2) (sl M 572) hd 0 (M 0) x (t / p2 (M 0 - 1)))) (ws := fun (y : Int) => [zO m0 6 [.ref m1, .ref m2, .int (iI st), .ref m3, .int (iI iss), .ref m4, .int (iI ty), .ref m5, .ref m6, .ref m7, .ref m8], zA cy m1 780 M, zA cy m5 3 hd, zA cy m6 32 me, zA cy m7 96 wk]) (lv := fun (y : Int) => [(0, .ref m0), (1, .int (iI t)), (2, .int (iI (p2 (M 0 - 1)))), (3, .int (iI (t / p2 (M 0 - 1)))), (4, .int (iI (2 * t % p2 (M 0)))), (5, .int (iI fr)), (6, .int (iI le)), (7, .int (iI x))]) (stj := fun (y : Int) => [.int (iI y)]) 78 ?_ (fun jn78 => ?_)
    · skip
      intro y hP78 H locs ls wd hl
      have h78_0 := hP78
      try dsimp only at h78_0
      have wd : Wd D (zT cy cs) _ s.heap s [zO m0 6 [.ref m1, .ref m2, .int (iI st), .ref m3, .int (iI iss), .ref m4, .int (iI ty), .ref m5, .ref m6, .ref m7, .ref m8], zA cy m1 780 M, zA cy m5 3 hd, zA cy m6 32 me, zA cy m7 96 wk] H locs := wd
      have hl : lv_has ls 9 [(0, .ref m0), (1, .int (iI t)), (2, .int (iI (p2 (M 0 - 1)))), (3, .int (iI (t / p2 (M 0 - 1)))), (4, .int (iI (2 * t % p2 (M 0)))), (5, .int (iI fr)), (6, .int (iI le)), (7, .int (iI x))] := hl
      have hyL : x = 2 * t % p2 (M 0) → y = vL (M 1) (sl M 2) (sl M 572) hd 0 (M 0) t := fun h => by rw [h78_0, h]; exact eL.symm
      have hyU : x = 2 * t % p2 (M 0) + 1 → y = vU (M 1) (sl M 2) (sl M 572) hd 0 (M 0) t := fun h => by rw [h78_0, h]; exact eU.symm
      refine lv_istore (lv' := [(8, .int (iI y)), (0, .ref m0), (1, .int (iI t)), (2, .int (iI (p2 (M 0 - 1)))), (3, .int (iI (t / p2 (M 0 - 1)))), (4, .int (iI (2 * t % p2 (M 0)))), (5, .int (iI fr)), (6, .int (iI le)), (7, .int (iI x))]) C.1 C.2.1 dX6_lay_78 hl (by decide) rfl (fun ls hl => ?_)
      refine lv_iload C.1 C.2.1 dX6_lay_80 (lv_at hl 0 rfl) ?_
      refine z_if_lt C (tgt := 105) dX6_lay_82 (by decide) (by omega) (fun c_5 => ?_) (fun c_5 => ?_)
      · skip
        refine z_iinc C (lv' := [(7, .int (iI (x + 1))), (8, .int (iI y)), (0, .ref m0), (1, .int (iI t)), (2, .int (iI (p2 (M 0 - 1)))), (3, .int (iI (t / p2 (M 0 - 1)))), (4, .int (iI (2 * t % p2 (M 0)))), (5, .int (iI fr)), (6, .int (iI le))]) hl 8 dX6_lay_105 rfl (by decide) rfl (fun ls hl => ?_)
        refine z_goto C (tgt := 28) dX6_lay_108 (by decide) ?_
        exact ih28 fr le (x + 1) (by omega) (by omega) H locs _ wd (lv_sub hl [2, 3, 4, 5, 6, 7, 8, 0] rfl)
      · skip
        refine lv_iload C.1 C.2.1 dX6_lay_85 (lv_at hl 6 rfl) ?_
        refine z_if_lt C (tgt := 97) dX6_lay_87 (by decide) (by omega) (fun c_6 => ?_) (fun c_6 => ?_)
        · skip
          refine lv_iload C.1 C.2.1 dX6_lay_97 (lv_at hl 8 rfl) ?_
          refine lv_istore (lv' := [(5, .int (iI x)), (8, .int (iI y)), (0, .ref m0), (1, .int (iI t)), (2, .int (iI (p2 (M 0 - 1)))), (3, .int (iI (t / p2 (M 0 - 1)))), (4, .int (iI (2 * t % p2 (M 0)))), (6, .int (iI le)), (7, .int (iI x))]) C.1 C.2.1 dX6_lay_99 hl (by decide) rfl (fun ls hl => ?_)
          refine lv_iload C.1 C.2.1 dX6_lay_101 (lv_at hl 1 rfl) ?_
          refine lv_istore (lv' := [(6, .int (iI y)), (5, .int (iI x)), (8, .int (iI y)), (0, .ref m0), (1, .int (iI t)), (2, .int (iI (p2 (M 0 - 1)))), (3, .int (iI (t / p2 (M 0 - 1)))), (4, .int (iI (2 * t % p2 (M 0)))), (7, .int (iI x))]) C.1 C.2.1 dX6_lay_103 hl (by decide) rfl (fun ls hl => ?_)
          refine z_iinc C (lv' := [(7, .int (iI (x + 1))), (6, .int (iI y)), (5, .int (iI x)), (8, .int (iI y)), (0, .ref m0), (1, .int (iI t)), (2, .int (iI (p2 (M 0 - 1)))), (3, .int (iI (t / p2 (M 0 - 1)))), (4, .int (iI (2 * t % p2 (M 0))))]) hl 8 dX6_lay_105 rfl (by decide) rfl (fun ls hl => ?_)
          refine z_goto C (tgt := 28) dX6_lay_108 (by decide) ?_
          exact ih28 x y (x + 1) (by omega) (by omega) H locs _ wd (lv_sub hl [4, 5, 6, 7, 8, 2, 1, 0] rfl)
        · skip
          refine lv_iload C.1 C.2.1 dX6_lay_90 (lv_at hl 0 rfl) ?_
          refine lv_iload C.1 C.2.1 dX6_lay_92 (lv_at hl 7 rfl) ?_
          refine z_icmp_ge C (tgt := 105) dX6_lay_94 (by decide) (by omega) (fun c_7 => ?_) (fun c_7 => ?_)
          · skip
            refine z_iinc C (lv' := [(7, .int (iI (x + 1))), (8, .int (iI y)), (0, .ref m0), (1, .int (iI t)), (2, .int (iI (p2 (M 0 - 1)))), (3, .int (iI (t / p2 (M 0 - 1)))), (4, .int (iI (2 * t % p2 (M 0)))), (5, .int (iI fr)), (6, .int (iI le))]) hl 8 dX6_lay_105 rfl (by decide) rfl (fun ls hl => ?_)
            refine z_goto C (tgt := 28) dX6_lay_108 (by decide) ?_
            exact ih28 fr le (x + 1) (by omega) (by omega) H locs _ wd (lv_sub hl [2, 3, 4, 5, 6, 7, 8, 0] rfl)
          · skip
            refine lv_iload C.1 C.2.1 dX6_lay_97 (lv_at hl 8 rfl) ?_
            refine lv_istore (lv' := [(5, .int (iI x)), (8, .int (iI y)), (0, .ref m0), (1, .int (iI t)), (2, .int (iI (p2 (M 0 - 1)))), (3, .int (iI (t / p2 (M 0 - 1)))), (4, .int (iI (2 * t % p2 (M 0)))), (6, .int (iI le)), (7, .int (iI x))]) C.1 C.2.1 dX6_lay_99 hl (by decide) rfl (fun ls hl => ?_)
            refine lv_iload C.1 C.2.1 dX6_lay_101 (lv_at hl 1 rfl) ?_
            refine lv_istore (lv' := [(6, .int (iI y)), (5, .int (iI x)), (8, .int (iI y)), (0, .ref m0), (1, .int (iI t)), (2, .int (iI (p2 (M 0 - 1)))), (3, .int (iI (t / p2 (M 0 - 1)))), (4, .int (iI (2 * t % p2 (M 0)))), (7, .int (iI x))]) C.1 C.2.1 dX6_lay_103 hl (by decide) rfl (fun ls hl => ?_)
            refine z_iinc C (lv' := [(7, .int (iI (x + 1))), (6, .int (iI y)), (5, .int (iI x)), (8, .int (iI y)), (0, .ref m0), (1, .int (iI t)), (2, .int (iI (p2 (M 0 - 1)))), (3, .int (iI (t / p2 (M 0 - 1)))), (4, .int (iI (2 * t % p2 (M 0))))]) hl 8 dX6_lay_105 rfl (by decide) rfl (fun ls hl => ?_)
            refine z_goto C (tgt := 28) dX6_lay_108 (by decide) ?_
            exact ih28 x y (x + 1) (by omega) (by omega) H locs _ wd (lv_sub hl [4, 5, 6, 7, 8, 2, 1, 0] rfl)
    have hxs : -1 ≤ M (572 + x) ∧ M (572 + x) ≤ 3 * M 9 := hme x (by omega) (by omega)
    refine lv_aload_n C.1 C.2.1 dX6_lay_37 rfl (lv_at hl 0 rfl) ?_
    refine z_get C wd (Cn := RX6) (TT := TX6) (N := 11) (ci := 6) iX6 0 rfl rfl 0 (by decide) L7 (fun _ h => h) rfl dX6_lay_38 ?_
    refine z_sipush C dX6_lay_41 (by decide +kernel) ?_
    refine lv_iload C.1 C.2.1 dX6_lay_44 (lv_at hl 7 rfl) ?_
    refine z_iadd C dX6_lay_46 ?_
    refine z_iald C wd 1 rfl (by omega) (by decide) dX6_lay_47 ?_
    refine z_if_ge C (tgt := 55) dX6_lay_48 (by decide) (by omega) (fun c_8 => ?_) (fun c_8 => ?_)
    · skip
      refine lv_aload_n C.1 C.2.1 dX6_lay_55 rfl (lv_at hl 0 rfl) ?_
      refine z_get C wd (Cn := RX6) (TT := TX6) (N := 11) (ci := 6) iX6 0 rfl rfl 0 (by decide) L7 (fun _ h => h) rfl dX6_lay_56 ?_
      refine z_sipush C dX6_lay_59 (by decide +kernel) ?_
      refine lv_iload C.1 C.2.1 dX6_lay_62 (lv_at hl 7 rfl) ?_
      refine z_iadd C dX6_lay_64 ?_
      refine z_iald C wd 1 rfl (by omega) (by decide) dX6_lay_65 ?_
      refine lv_aload_n C.1 C.2.1 dX6_lay_66 rfl (lv_at hl 0 rfl) ?_
      refine lv_aload_n C.1 C.2.1 dX6_lay_67 rfl (lv_at hl 0 rfl) ?_
      have hwn := wn_le hm.1 hm.2 (show 0 ≤ x by omega) (show x < p2 (M 0) by omega) hbi.1 hbi.2
      refine lv_iload C.1 C.2.1 dX6_lay_68 (lv_at hl 7 rfl) ?_
      refine lv_iload_n C.1 C.2.1 dX6_lay_70 rfl (lv_at hl 3 rfl) ?_
      refine z_cvi C wd hA (As := [.int (iI x), .int (iI (t / p2 (M 0 - 1)))]) (rest := [.ref m0, .int (iI (M (572 + x)))]) (ws2 := [zO m0 6 [.ref m1, .ref m2, .int (iI st), .ref m3, .int (iI iss), .ref m4, .int (iI ty), .ref m5, .ref m6, .ref m7, .ref m8], zA cy m1 780 M, zA cy m5 3 hd, zA cy m6 32 me, zA cy m7 96 wk]) (c_X6_window l D cy cs m0 m1 m2 m3 m4 m5 m6 m7 m8 st iss ty M x (t / p2 (M 0 - 1)) (by omega)) (cwV 2 C.2.2.2.2 gX6_lay_X6_window rfl rfl rfl (by decide +kernel) ⟨Nat.le_of_ble_eq_true rfl, Nat.le_of_ble_eq_true rfl⟩) [0, 1] rfl rfl rfl ⟨rfl, [2, 3, 4], [zA cy m5 3 hd, zA cy m6 32 me, zA cy m7 96 wk], 5, rfl, rfl, rfl, by decide +kernel⟩ rfl rfl rfl rfl (Nat.le_of_ble_eq_true rfl) hl.1 dX6_lay_71 ⟨Nat.zero_le _, Nat.zero_le _⟩ (fun H locs wd => ?_)
      refine z_cvi C wd hA (As := [.int (iI (wn (M 0) x (t / p2 (M 0 - 1))))]) (rest := [.int (iI (M (572 + x)))]) (ws2 := [zO m0 6 [.ref m1, .ref m2, .int (iI st), .ref m3, .int (iI iss), .ref m4, .int (iI ty), .ref m5, .ref m6, .ref m7, .ref m8], zA cy m1 780 M, zA cy m5 3 hd, zA cy m6 32 me, zA cy m7 96 wk]) (c_X6_price l D cy cs m0 m1 m2 m3 m4 m5 m6 m7 m8 st iss ty M (wn (M 0) x (t / p2 (M 0 - 1))) hd (by omega) ht (by omega) hhd) (cwV 1 C.2.2.2.2 gX6_lay_X6_price rfl rfl rfl (by decide +kernel) ⟨Nat.le_of_ble_eq_true rfl, Nat.le_of_ble_eq_true rfl⟩) [0, 1, 2] rfl rfl rfl ⟨rfl, [3, 4], [zA cy m6 32 me, zA cy m7 96 wk], 5, rfl, rfl, rfl, by decide +kernel⟩ rfl rfl rfl rfl (Nat.le_of_ble_eq_true rfl) hl.1 dX6_lay_74 ⟨Nat.zero_le _, Nat.zero_le _⟩ (fun H locs wd => ?_)
      have hpr := prS_le (sl M 2) hd 0 (wn (M 0) x (t / p2 (M 0 - 1))) (M 1) ho
      refine z_iadd C dX6_lay_77 ?_
      exact jn78 ((M (572 + x)) + (sm (pr1 (sl M 2) hd 0 (wn (M 0) x (t / p2 (M 0 - 1)))) (M 1).toNat)) (by have e9 : sl M 572 x = M (572 + x) := rfl; unfold mo; rw [e9]; first | rw [if_pos (by omega)] | rw [if_neg (by omega)]) H locs _ wd (lv_sub hl [0, 1, 2, 3, 4, 5, 6, 7] rfl)
    · skip
      refine z_iconst C dX6_lay_51 ?_
      refine z_goto C (tgt := 78) dX6_lay_52 (by decide) ?_
      exact jn78 (-1) (by have e9 : sl M 572 x = M (572 + x) := rfl; unfold mo; rw [e9]; first | rw [if_pos (by omega)] | rw [if_neg (by omega)]) H locs _ wd (lv_sub hl [0, 1, 2, 3, 4, 5, 6, 7] rfl)
