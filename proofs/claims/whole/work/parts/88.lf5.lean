set_option maxRecDepth 100000 in
set_option maxHeartbeats 20000000 in
theorem lf_finish {p : Program} {l : Launch} {e : Env} {s : State} {m : MethodId} {below : List Frame} {meth : Method} {c : Code} {D : va_G} {b Ls : Nat} {xs : Nat → Int32} {cy cs : ClassId} {w0 w1 t0 t1 w2 : Nat} {mm : Nat → Nat} {i : Int} (C : CallFix p m c cL_law 4 s #[Value.ref b] wsL_law RL) (hX : va_X b Ls xs s s.heap) (hbl : b < s.heap.size) (hLs : Ls ≤ 2560) (hi : 0 ≤ i ∧ i + 5 ≤ (Ls : Int)) (NX : lNX p l e s m below meth c b D cy cs w0 w1 t0 t1 w2 mm i 718) : lNX p l e s m below meth c b D cy cs w0 w1 t0 t1 w2 mm i 336 := by
  intro iK n ty fv dz Hs Sh tx hd me wk fr B K X F G E hI H locs ls hl wd
  obtain ⟨d0, M, L, fu, fn⟩ := B
  obtain ⟨dk, Mk, Lk, uk, gk⟩ := K
  obtain ⟨dx, Mx, Lx, ux, gx⟩ := X
  obtain ⟨df, Mf, Lf, uf, gf⟩ := F
  obtain ⟨dg, Mg, Lg, ug, gg⟩ := G
  obtain ⟨de, Me, Le, ue, ge⟩ := E
  obtain ⟨hn, hiK, htxr, hhd, ⟨vB, vK⟩, ⟨vX, vF, vG, vE⟩, hh⟩ := hI
  have hvB : vO M L fu := vB
  obtain ⟨hrk, hm, ho, ht, h5, h9, h10, hme, hme2, hwk, hbs⟩ := vO_all hvB
  obtain ⟨hwr, huf, hu, hso, hoT, hE, h8e, hL, hL2, h7, hln, hlt, h8⟩ := vO_all2 hvB
  obtain ⟨hli, hli2, hwa, hwa2, hb1, hb1a, hb2, hb2a⟩ := vO_all3 hvB
  have h572 := vO_572 hvB
  have e572 : sl M 572 0 = M 572 := rfl
  have hp := p2_all hm.1 hm.2
  obtain ⟨hty, hfv, htx, hrel⟩ := id htxr
  have hff1 : ff (fun z9 => vc (tx z9)) ty (1 + 0) = ff fv ty 1 := (ff_cong hty.1 hrel).symm
  have hff2 : ff (fun z9 => vc (tx z9)) ty (1 + 1) = ff fv ty 2 := (ff_cong hty.1 hrel).symm
  have hfl1 := ff_le (f := fv) (hi := 1) hty
  have hfl2 := ff_le (f := fv) (hi := 2) hty
  have hbA : ¬ (fun q : Nat => s.heap.size ≤ q) b := Nat.not_le.mpr hbl
  have hA : ∀ q : Nat, s.heap.size ≤ q → (fun q : Nat => s.heap.size ≤ q) q := fun _ h => h
  have wd : Wd D (zT cy cs) (fun q : Nat => s.heap.size ≤ q) s.heap s (LW cy cs w0 w1 t0 t1 w2 mm iK n ty fv dz (afF (tg n) (dx 0) (df 0) (dg 0) (de 0)) (d0, M, L, fu, fn) (dk, Mk, Lk, uk, gk) (dx, Mx, Lx, ux, gx) (df, Mf, Lf, uf, gf) (dg, Mg, Lg, ug, gg) (de, Me, Le, ue, ge) M Hs Sh tx hd me wk fr n iK ty) H locs := wd
  obtain ⟨v1, hv1⟩ : ∃ v, (xs (i + 1).toNat).toInt = v := ⟨_, rfl⟩
  have hr1 := iI_rng (xs (i + 1).toNat)
  rw [hv1] at hr1
  unfold lG
  by_cases hz : v1 = 0
  · skip
    by_cases hc : M 11 = 0 ∧ (0 = (1 : Int) → 0 ≤ M 572)
    · skip
      refine lv_aload_n C.1 C.2.1 dL_law_336 rfl (lv_at hl 1 rfl) ?_
      refine lv_aload_n C.1 C.2.1 dL_law_337 rfl (lv_at hl 0 rfl) ?_
      refine lv_iload_n C.1 C.2.1 dL_law_338 rfl (lv_at hl 3 rfl) ?_
      refine z_iconst C dL_law_339 ?_
      refine z_iadd C dL_law_340 ?_
      refine z_sld C wd hX hbl hbA (v := v1) (by omega) hLs hv1 dL_law_341 ?_
      refine z_if_eq C (tgt := 349) dL_law_342 (by decide) (by omega) (fun _ => ?_) (fun c9 => absurd hz c9)
      refine z_iconst C dL_law_349 ?_
      refine z_cvi C wd hA (As := [.int (iI 0)]) (rest := []) (ws2 := (LW cy cs w0 w1 t0 t1 w2 mm iK (pn n) ty fv dz (afF (tg2 n) (dx 0) (df 0) (dg 0) (de 0)) (d0, fnM M 0, L, fu, fn) (dk, Mk, Lk, uk, gk) (dx, M, L, fu, gx) (df, Mf, Lf, uf, gf) (dg, Mg, Lg, ug, gg) (de, Me, Le, ue, ge) M Hs Sh tx hd me wk fr n iK ty)) (c_X5_finishA l D cy cs w0 w1 w2 t0 (dk 0) iK n (d0 0) (d0 1) (d0 2) (d0 3) (d0 4) (d0 5) (d0 6) (d0 7) (d0 8) (d0 9) (d0 10) (d0 11) L M fu fn (dx 0) (dx 1) (dx 2) (dx 3) (dx 4) (dx 5) (dx 6) (dx 7) (dx 8) (dx 9) (dx 10) (dx 11) Lx Mx ux gx (df 0) (df 1) (df 3) (df 7) (dg 0) (dg 1) (dg 3) (dg 7) (de 0) (de 1) (de 3) (de 7) (Mf 5) (Mg 5) (Me 5) 0 (by first | assumption | omega) (by first | assumption | omega) (by first | assumption | omega) (by first | assumption | omega) (by first | assumption | omega) (by first | assumption | omega) (by first | assumption | omega) (by omega) (by first | assumption | omega) hc.2) (cwV 1 C.2.2.2.2 gL_law_X5_finish rfl rfl rfl (by decide +kernel) ⟨Nat.le_of_ble_eq_true rfl, Nat.le_of_ble_eq_true rfl⟩) [0, 1, 2, 3, 4, 5, 6, 7, 8, 9, 10, 11, 12, 13, 26, 27, 28, 29, 30, 31, 32, 33, 34, 35, 36, 37, 38, 50, 62] rfl rfl rfl ⟨rfl, [14, 15, 16, 17, 18, 19, 20, 21, 22, 23, 24, 25, 39, 40, 41, 42, 43, 44, 45, 46, 47, 48, 49, 51, 52, 53, 54, 55, 56, 57, 58, 59, 60, 61, 63, 64, 65, 66, 67, 68, 69, 70, 71, 72, 73, 74, 75, 76, 77, 78, 79, 80, 81, 82, 83, 84, 85], (bkW cy (dk, Mk, Lk, uk, gk) ++ ([zO (df 1) 0 [.int (iI (Mf 0)), .int (iI (Mf 1)), .ref (df 2)], zA cy (df 2) 3 (sl Mf 2), zO (df 3) 2 [.int (iI (Mf 6)), .int (iI (Mf 7)), .ref (df 4), .ref (df 5), .ref (df 6)], zA cy (df 4) 80 (sl Mf 12), zA cy (df 5) 240 (sl Mf 92), zA cy (df 6) 240 (sl Mf 332), zO (df 7) 1 [.int (iI (Mf 9)), .int (iI Lf), .int (iI (Mf 10)), .int (iI (Mf 11)), .ref (df 8), .ref (df 9), .ref (df 10), .ref (df 11)], zA cy (df 8) 80 (sl Mf 604), zA cy (df 9) 32 (sl Mf 572), zA cy (df 10) 32 gf, zA cy (df 11) 80 uf, zO (dg 1) 0 [.int (iI (Mg 0)), .int (iI (Mg 1)), .ref (dg 2)], zA cy (dg 2) 3 (sl Mg 2), zO (dg 3) 2 [.int (iI (Mg 6)), .int (iI (Mg 7)), .ref (dg 4), .ref (dg 5), .ref (dg 6)], zA cy (dg 4) 80 (sl Mg 12), zA cy (dg 5) 240 (sl Mg 92), zA cy (dg 6) 240 (sl Mg 332), zO (dg 7) 1 [.int (iI (Mg 9)), .int (iI Lg), .int (iI (Mg 10)), .int (iI (Mg 11)), .ref (dg 8), .ref (dg 9), .ref (dg 10), .ref (dg 11)], zA cy (dg 8) 80 (sl Mg 604), zA cy (dg 9) 32 (sl Mg 572), zA cy (dg 10) 32 gg, zA cy (dg 11) 80 ug, zO (de 1) 0 [.int (iI (Me 0)), .int (iI (Me 1)), .ref (de 2)], zA cy (de 2) 3 (sl Me 2), zO (de 3) 2 [.int (iI (Me 6)), .int (iI (Me 7)), .ref (de 4), .ref (de 5), .ref (de 6)], zA cy (de 4) 80 (sl Me 12), zA cy (de 5) 240 (sl Me 92), zA cy (de 6) 240 (sl Me 332), zO (de 7) 1 [.int (iI (Me 9)), .int (iI Le), .int (iI (Me 10)), .int (iI (Me 11)), .ref (de 8), .ref (de 9), .ref (de 10), .ref (de 11)], zA cy (de 8) 80 (sl Me 604), zA cy (de 9) 32 (sl Me 572), zA cy (de 10) 32 ge, zA cy (de 11) 80 ue, zO t0 4 [.int (iI ty), .ref t1], zA cy t1 60 fv, zA cy w2 32 dz, zO (mm 0) 6 [.ref (mm 1), .ref (mm 2), .int (iI n), .ref (mm 3), .int (iI iK), .ref (mm 4), .int (iI ty), .ref (mm 5), .ref (mm 6), .ref (mm 7), .ref (mm 8)], zA cy (mm 1) 780 M, zA cy (mm 2) 3120 Hs, zA cy (mm 3) 780 Sh, zA cy (mm 4) 60 tx, zA cy (mm 5) 3 hd, zA cy (mm 6) 32 me, zA cy (mm 7) 96 wk, zA cy (mm 8) 32 fr])), 86, rfl, rfl, rfl, by decide +kernel⟩ rfl rfl rfl rfl (Nat.le_of_ble_eq_true rfl) hl.1 dL_law_350 ⟨Nat.le_of_ble_eq_true rfl, Nat.le_of_ble_eq_true rfl⟩ (fun H locs wd => ?_)
      refine lv_aload_n C.1 C.2.1 dL_law_353 rfl (lv_at hl 2 rfl) ?_
      refine lv_aload_n C.1 C.2.1 dL_law_354 rfl (lv_at hl 0 rfl) ?_
      refine lv_iload_n C.1 C.2.1 dL_law_355 rfl (lv_at hl 3 rfl) ?_
      refine z_iconst C dL_law_356 ?_
      refine z_iadd C dL_law_357 ?_
      refine z_sld C wd hX hbl hbA (v := v1) (by omega) hLs hv1 dL_law_358 ?_
      refine z_if_eq C (tgt := 366) dL_law_359 (by decide) (by omega) (fun _ => ?_) (fun c9 => absurd hz c9)
      refine z_iconst C dL_law_366 ?_
      refine z_cvi C wd hA (As := [.int (iI 0)]) (rest := [.int (iI (M 9))]) (ws2 := (LW cy cs w0 w1 t0 t1 w2 mm iK (pn n) ty fv dz (afF (tg2 n) (dx 0) (df 0) (dg 0) (de 0)) (d0, fnM M 0, L, fu, fn) (dk, Mk, Lk, uk, gk) (dx, M, L, fu, gx) (df, Mf, Lf, uf, gf) (dg, Mg, Lg, ug, gg) (de, Me, Le, ue, ge) (fnM M 0) (recH M Hs n) Sh tx hd me wk fr (pn n) iK ty)) (c_mfinishA l D cy cs (mm 0) (mm 1) (mm 2) (mm 3) (mm 4) (mm 5) (mm 6) (mm 7) (mm 8) n iK ty M Hs 0 (by first | assumption | omega) (by first | assumption | omega) (by omega) (by first | assumption | omega) hc.2) (cwV 1 C.2.2.2.2 gL_law_X6_finish rfl rfl rfl (by decide +kernel) ⟨Nat.le_of_ble_eq_true rfl, Nat.le_of_ble_eq_true rfl⟩) [77, 78, 79] rfl rfl rfl ⟨rfl, [0, 1, 2, 3, 4, 5, 6, 7, 8, 9, 10, 11, 12, 13, 14, 15, 16, 17, 18, 19, 20, 21, 22, 23, 24, 25, 26, 27, 28, 29, 30, 31, 32, 33, 34, 35, 36, 37, 38, 39, 40, 41, 42, 43, 44, 45, 46, 47, 48, 49, 50, 51, 52, 53, 54, 55, 56, 57, 58, 59, 60, 61, 62, 63, 64, 65, 66, 67, 68, 69, 70, 71, 72, 73, 74, 75, 76, 80, 81, 82, 83, 84, 85], ([zO w0 5 [.ref (d0 0), .ref (dk 0), .int (iI iK), .ref w1, .int (iI (pn n)), .ref t0, .ref w2], zR cs w1 4 (afF (tg2 n) (dx 0) (df 0) (dg 0) (de 0))] ++ (bkW cy (d0, fnM M 0, L, fu, fn) ++ (bkW cy (dk, Mk, Lk, uk, gk) ++ (bkW cy (dx, M, L, fu, gx) ++ (bkW cy (df, Mf, Lf, uf, gf) ++ (bkW cy (dg, Mg, Lg, ug, gg) ++ (bkW cy (de, Me, Le, ue, ge) ++ ([zO t0 4 [.int (iI ty), .ref t1], zA cy t1 60 fv, zA cy w2 32 dz, zA cy (mm 3) 780 Sh, zA cy (mm 4) 60 tx, zA cy (mm 5) 3 hd, zA cy (mm 6) 32 me, zA cy (mm 7) 96 wk, zA cy (mm 8) 32 fr])))))))), 86, rfl, rfl, rfl, by decide +kernel⟩ rfl rfl rfl rfl (Nat.le_of_ble_eq_true rfl) hl.1 dL_law_367 ⟨Nat.le_of_ble_eq_true rfl, Nat.le_of_ble_eq_true rfl⟩ (fun H locs wd => ?_)
      refine z_same C (tgt := 718) rfl dL_law_370 (by decide) ?_
      exact lN_rec NX hn hiK htxr hhd (show vB_ (d0, fnM M 0, L, fu, fn) from vO_fn hvB) vK (show vB_ (dx, M, L, fu, gx) from hvB) vF vG vE hh hl wd
    · skip
      refine lv_aload_n C.1 C.2.1 dL_law_336 rfl (lv_at hl 1 rfl) ?_
      refine lv_aload_n C.1 C.2.1 dL_law_337 rfl (lv_at hl 0 rfl) ?_
      refine lv_iload_n C.1 C.2.1 dL_law_338 rfl (lv_at hl 3 rfl) ?_
      refine z_iconst C dL_law_339 ?_
      refine z_iadd C dL_law_340 ?_
      refine z_sld C wd hX hbl hbA (v := v1) (by omega) hLs hv1 dL_law_341 ?_
      refine z_if_eq C (tgt := 349) dL_law_342 (by decide) (by omega) (fun _ => ?_) (fun c9 => absurd hz c9)
      refine z_iconst C dL_law_349 ?_
      refine z_cvi C wd hA (As := [.int (iI 0)]) (rest := []) (ws2 := (LW cy cs w0 w1 t0 t1 w2 mm iK n ty fv dz (afF (tg n) (dx 0) (df 0) (dg 0) (de 0)) (d0, M, L, fu, fn) (dk, Mk, Lk, uk, gk) (dx, Mx, Lx, ux, gx) (df, Mf, Lf, uf, gf) (dg, Mg, Lg, ug, gg) (de, Me, Le, ue, ge) M Hs Sh tx hd me wk fr n iK ty)) (c_X5_finishB l D cy cs w0 w1 w2 t0 (d0 0) (dk 0) (d0 1) 0 (d0 3) 0 0 0 (d0 7) (d0 8) (d0 9) (d0 10) (d0 11) iK n L M 0 (by first | assumption | omega) (by first | assumption | omega) (by first | assumption | omega) (by omega) (by omega)) (cwV 1 C.2.2.2.2 gL_law_X5_finish rfl rfl rfl (by decide +kernel) ⟨Nat.le_of_ble_eq_true rfl, Nat.le_of_ble_eq_true rfl⟩) [0, 2, 9, 11] rfl rfl rfl ⟨rfl, [1, 3, 4, 5, 6, 7, 8, 10, 12, 13, 14, 15, 16, 17, 18, 19, 20, 21, 22, 23, 24, 25, 26, 27, 28, 29, 30, 31, 32, 33, 34, 35, 36, 37, 38, 39, 40, 41, 42, 43, 44, 45, 46, 47, 48, 49, 50, 51, 52, 53, 54, 55, 56, 57, 58, 59, 60, 61, 62, 63, 64, 65, 66, 67, 68, 69, 70, 71, 72, 73, 74, 75, 76, 77, 78, 79, 80, 81, 82, 83, 84, 85], ([zR cs w1 4 (afF (tg n) (dx 0) (df 0) (dg 0) (de 0)), zO (d0 1) 0 [.int (iI (M 0)), .int (iI (M 1)), .ref (d0 2)], zA cy (d0 2) 3 (sl M 2), zO (d0 3) 2 [.int (iI (M 6)), .int (iI (M 7)), .ref (d0 4), .ref (d0 5), .ref (d0 6)], zA cy (d0 4) 80 (sl M 12), zA cy (d0 5) 240 (sl M 92), zA cy (d0 6) 240 (sl M 332), zA cy (d0 8) 80 (sl M 604), zA cy (d0 10) 32 fn, zA cy (d0 11) 80 fu] ++ (bkW cy (dk, Mk, Lk, uk, gk) ++ (bkW cy (dx, Mx, Lx, ux, gx) ++ (bkW cy (df, Mf, Lf, uf, gf) ++ (bkW cy (dg, Mg, Lg, ug, gg) ++ (bkW cy (de, Me, Le, ue, ge) ++ ([zO t0 4 [.int (iI ty), .ref t1], zA cy t1 60 fv, zA cy w2 32 dz, zO (mm 0) 6 [.ref (mm 1), .ref (mm 2), .int (iI n), .ref (mm 3), .int (iI iK), .ref (mm 4), .int (iI ty), .ref (mm 5), .ref (mm 6), .ref (mm 7), .ref (mm 8)], zA cy (mm 1) 780 M, zA cy (mm 2) 3120 Hs, zA cy (mm 3) 780 Sh, zA cy (mm 4) 60 tx, zA cy (mm 5) 3 hd, zA cy (mm 6) 32 me, zA cy (mm 7) 96 wk, zA cy (mm 8) 32 fr]))))))), 86, rfl, rfl, rfl, by decide +kernel⟩ rfl rfl rfl rfl (Nat.le_of_ble_eq_true rfl) hl.1 dL_law_350 ⟨Nat.le_of_ble_eq_true rfl, Nat.le_of_ble_eq_true rfl⟩ (fun H locs wd => ?_)
      refine lv_aload_n C.1 C.2.1 dL_law_353 rfl (lv_at hl 2 rfl) ?_
      refine lv_aload_n C.1 C.2.1 dL_law_354 rfl (lv_at hl 0 rfl) ?_
      refine lv_iload_n C.1 C.2.1 dL_law_355 rfl (lv_at hl 3 rfl) ?_
      refine z_iconst C dL_law_356 ?_
      refine z_iadd C dL_law_357 ?_
      refine z_sld C wd hX hbl hbA (v := v1) (by omega) hLs hv1 dL_law_358 ?_
      refine z_if_eq C (tgt := 366) dL_law_359 (by decide) (by omega) (fun _ => ?_) (fun c9 => absurd hz c9)
      refine z_iconst C dL_law_366 ?_
      refine z_cvi C wd hA (As := [.int (iI 0)]) (rest := [.int (iI (-4))]) (ws2 := (LW cy cs w0 w1 t0 t1 w2 mm iK n ty fv dz (afF (tg n) (dx 0) (df 0) (dg 0) (de 0)) (d0, M, L, fu, fn) (dk, Mk, Lk, uk, gk) (dx, Mx, Lx, ux, gx) (df, Mf, Lf, uf, gf) (dg, Mg, Lg, ug, gg) (de, Me, Le, ue, ge) M Hs Sh tx hd me wk fr n iK ty)) (c_mfinishB l D cy cs (mm 0) (mm 1) (mm 2) (mm 3) (mm 4) (mm 5) (mm 6) (mm 7) (mm 8) n iK ty M 0 (by first | assumption | omega) (by first | assumption | omega) (by omega) (by omega)) (cwV 1 C.2.2.2.2 gL_law_X6_finish rfl rfl rfl (by decide +kernel) ⟨Nat.le_of_ble_eq_true rfl, Nat.le_of_ble_eq_true rfl⟩) [77, 78] rfl rfl rfl ⟨rfl, [0, 1, 2, 3, 4, 5, 6, 7, 8, 9, 10, 11, 12, 13, 14, 15, 16, 17, 18, 19, 20, 21, 22, 23, 24, 25, 26, 27, 28, 29, 30, 31, 32, 33, 34, 35, 36, 37, 38, 39, 40, 41, 42, 43, 44, 45, 46, 47, 48, 49, 50, 51, 52, 53, 54, 55, 56, 57, 58, 59, 60, 61, 62, 63, 64, 65, 66, 67, 68, 69, 70, 71, 72, 73, 74, 75, 76, 79, 80, 81, 82, 83, 84, 85], ([zO w0 5 [.ref (d0 0), .ref (dk 0), .int (iI iK), .ref w1, .int (iI n), .ref t0, .ref w2], zR cs w1 4 (afF (tg n) (dx 0) (df 0) (dg 0) (de 0))] ++ (bkW cy (d0, M, L, fu, fn) ++ (bkW cy (dk, Mk, Lk, uk, gk) ++ (bkW cy (dx, Mx, Lx, ux, gx) ++ (bkW cy (df, Mf, Lf, uf, gf) ++ (bkW cy (dg, Mg, Lg, ug, gg) ++ (bkW cy (de, Me, Le, ue, ge) ++ ([zO t0 4 [.int (iI ty), .ref t1], zA cy t1 60 fv, zA cy w2 32 dz, zA cy (mm 2) 3120 Hs, zA cy (mm 3) 780 Sh, zA cy (mm 4) 60 tx, zA cy (mm 5) 3 hd, zA cy (mm 6) 32 me, zA cy (mm 7) 96 wk, zA cy (mm 8) 32 fr])))))))), 86, rfl, rfl, rfl, by decide +kernel⟩ rfl rfl rfl rfl (Nat.le_of_ble_eq_true rfl) hl.1 dL_law_367 ⟨Nat.le_of_ble_eq_true rfl, Nat.le_of_ble_eq_true rfl⟩ (fun H locs wd => ?_)
      refine z_same C (tgt := 718) rfl dL_law_370 (by decide) ?_
      exact NX iK n ty fv dz Hs Sh tx hd me wk fr (d0, M, L, fu, fn) (dk, Mk, Lk, uk, gk) (dx, Mx, Lx, ux, gx) (df, Mf, Lf, uf, gf) (dg, Mg, Lg, ug, gg) (de, Me, Le, ue, ge) ⟨hn, hiK, htxr, hhd, ⟨vB, vK⟩, ⟨vX, vF, vG, vE⟩, hh⟩ H locs ls hl wd
  · skip
    by_cases hc : M 11 = 0 ∧ (1 = (1 : Int) → 0 ≤ M 572)
    · skip
      refine lv_aload_n C.1 C.2.1 dL_law_336 rfl (lv_at hl 1 rfl) ?_
      refine lv_aload_n C.1 C.2.1 dL_law_337 rfl (lv_at hl 0 rfl) ?_
      refine lv_iload_n C.1 C.2.1 dL_law_338 rfl (lv_at hl 3 rfl) ?_
      refine z_iconst C dL_law_339 ?_
      refine z_iadd C dL_law_340 ?_
      refine z_sld C wd hX hbl hbA (v := v1) (by omega) hLs hv1 dL_law_341 ?_
      refine z_if_eq C (tgt := 349) dL_law_342 (by decide) (by omega) (fun c9 => absurd c9 hz) (fun _ => ?_)
      refine z_iconst C dL_law_345 ?_
      refine z_goto C (tgt := 350) dL_law_346 (by decide) ?_
      refine z_cvi C wd hA (As := [.int (iI 1)]) (rest := []) (ws2 := (LW cy cs w0 w1 t0 t1 w2 mm iK (pn n) ty fv dz (afF (tg2 n) (dx 0) (df 0) (dg 0) (de 0)) (d0, fnM M 1, L, fu, fn) (dk, Mk, Lk, uk, gk) (dx, M, L, fu, gx) (df, Mf, Lf, uf, gf) (dg, Mg, Lg, ug, gg) (de, Me, Le, ue, ge) M Hs Sh tx hd me wk fr n iK ty)) (c_X5_finishA l D cy cs w0 w1 w2 t0 (dk 0) iK n (d0 0) (d0 1) (d0 2) (d0 3) (d0 4) (d0 5) (d0 6) (d0 7) (d0 8) (d0 9) (d0 10) (d0 11) L M fu fn (dx 0) (dx 1) (dx 2) (dx 3) (dx 4) (dx 5) (dx 6) (dx 7) (dx 8) (dx 9) (dx 10) (dx 11) Lx Mx ux gx (df 0) (df 1) (df 3) (df 7) (dg 0) (dg 1) (dg 3) (dg 7) (de 0) (de 1) (de 3) (de 7) (Mf 5) (Mg 5) (Me 5) 1 (by first | assumption | omega) (by first | assumption | omega) (by first | assumption | omega) (by first | assumption | omega) (by first | assumption | omega) (by first | assumption | omega) (by first | assumption | omega) (by omega) (by first | assumption | omega) hc.2) (cwV 1 C.2.2.2.2 gL_law_X5_finish rfl rfl rfl (by decide +kernel) ⟨Nat.le_of_ble_eq_true rfl, Nat.le_of_ble_eq_true rfl⟩) [0, 1, 2, 3, 4, 5, 6, 7, 8, 9, 10, 11, 12, 13, 26, 27, 28, 29, 30, 31, 32, 33, 34, 35, 36, 37, 38, 50, 62] rfl rfl rfl ⟨rfl, [14, 15, 16, 17, 18, 19, 20, 21, 22, 23, 24, 25, 39, 40, 41, 42, 43, 44, 45, 46, 47, 48, 49, 51, 52, 53, 54, 55, 56, 57, 58, 59, 60, 61, 63, 64, 65, 66, 67, 68, 69, 70, 71, 72, 73, 74, 75, 76, 77, 78, 79, 80, 81, 82, 83, 84, 85], (bkW cy (dk, Mk, Lk, uk, gk) ++ ([zO (df 1) 0 [.int (iI (Mf 0)), .int (iI (Mf 1)), .ref (df 2)], zA cy (df 2) 3 (sl Mf 2), zO (df 3) 2 [.int (iI (Mf 6)), .int (iI (Mf 7)), .ref (df 4), .ref (df 5), .ref (df 6)], zA cy (df 4) 80 (sl Mf 12), zA cy (df 5) 240 (sl Mf 92), zA cy (df 6) 240 (sl Mf 332), zO (df 7) 1 [.int (iI (Mf 9)), .int (iI Lf), .int (iI (Mf 10)), .int (iI (Mf 11)), .ref (df 8), .ref (df 9), .ref (df 10), .ref (df 11)], zA cy (df 8) 80 (sl Mf 604), zA cy (df 9) 32 (sl Mf 572), zA cy (df 10) 32 gf, zA cy (df 11) 80 uf, zO (dg 1) 0 [.int (iI (Mg 0)), .int (iI (Mg 1)), .ref (dg 2)], zA cy (dg 2) 3 (sl Mg 2), zO (dg 3) 2 [.int (iI (Mg 6)), .int (iI (Mg 7)), .ref (dg 4), .ref (dg 5), .ref (dg 6)], zA cy (dg 4) 80 (sl Mg 12), zA cy (dg 5) 240 (sl Mg 92), zA cy (dg 6) 240 (sl Mg 332), zO (dg 7) 1 [.int (iI (Mg 9)), .int (iI Lg), .int (iI (Mg 10)), .int (iI (Mg 11)), .ref (dg 8), .ref (dg 9), .ref (dg 10), .ref (dg 11)], zA cy (dg 8) 80 (sl Mg 604), zA cy (dg 9) 32 (sl Mg 572), zA cy (dg 10) 32 gg, zA cy (dg 11) 80 ug, zO (de 1) 0 [.int (iI (Me 0)), .int (iI (Me 1)), .ref (de 2)], zA cy (de 2) 3 (sl Me 2), zO (de 3) 2 [.int (iI (Me 6)), .int (iI (Me 7)), .ref (de 4), .ref (de 5), .ref (de 6)], zA cy (de 4) 80 (sl Me 12), zA cy (de 5) 240 (sl Me 92), zA cy (de 6) 240 (sl Me 332), zO (de 7) 1 [.int (iI (Me 9)), .int (iI Le), .int (iI (Me 10)), .int (iI (Me 11)), .ref (de 8), .ref (de 9), .ref (de 10), .ref (de 11)], zA cy (de 8) 80 (sl Me 604), zA cy (de 9) 32 (sl Me 572), zA cy (de 10) 32 ge, zA cy (de 11) 80 ue, zO t0 4 [.int (iI ty), .ref t1], zA cy t1 60 fv, zA cy w2 32 dz, zO (mm 0) 6 [.ref (mm 1), .ref (mm 2), .int (iI n), .ref (mm 3), .int (iI iK), .ref (mm 4), .int (iI ty), .ref (mm 5), .ref (mm 6), .ref (mm 7), .ref (mm 8)], zA cy (mm 1) 780 M, zA cy (mm 2) 3120 Hs, zA cy (mm 3) 780 Sh, zA cy (mm 4) 60 tx, zA cy (mm 5) 3 hd, zA cy (mm 6) 32 me, zA cy (mm 7) 96 wk, zA cy (mm 8) 32 fr])), 86, rfl, rfl, rfl, by decide +kernel⟩ rfl rfl rfl rfl (Nat.le_of_ble_eq_true rfl) hl.1 dL_law_350 ⟨Nat.le_of_ble_eq_true rfl, Nat.le_of_ble_eq_true rfl⟩ (fun H locs wd => ?_)
      refine lv_aload_n C.1 C.2.1 dL_law_353 rfl (lv_at hl 2 rfl) ?_
      refine lv_aload_n C.1 C.2.1 dL_law_354 rfl (lv_at hl 0 rfl) ?_
      refine lv_iload_n C.1 C.2.1 dL_law_355 rfl (lv_at hl 3 rfl) ?_
      refine z_iconst C dL_law_356 ?_
      refine z_iadd C dL_law_357 ?_
      refine z_sld C wd hX hbl hbA (v := v1) (by omega) hLs hv1 dL_law_358 ?_
      refine z_if_eq C (tgt := 366) dL_law_359 (by decide) (by omega) (fun c9 => absurd c9 hz) (fun _ => ?_)
      refine z_iconst C dL_law_362 ?_
      refine z_goto C (tgt := 367) dL_law_363 (by decide) ?_
      refine z_cvi C wd hA (As := [.int (iI 1)]) (rest := [.int (iI (M 9))]) (ws2 := (LW cy cs w0 w1 t0 t1 w2 mm iK (pn n) ty fv dz (afF (tg2 n) (dx 0) (df 0) (dg 0) (de 0)) (d0, fnM M 1, L, fu, fn) (dk, Mk, Lk, uk, gk) (dx, M, L, fu, gx) (df, Mf, Lf, uf, gf) (dg, Mg, Lg, ug, gg) (de, Me, Le, ue, ge) (fnM M 1) (recH M Hs n) Sh tx hd me wk fr (pn n) iK ty)) (c_mfinishA l D cy cs (mm 0) (mm 1) (mm 2) (mm 3) (mm 4) (mm 5) (mm 6) (mm 7) (mm 8) n iK ty M Hs 1 (by first | assumption | omega) (by first | assumption | omega) (by omega) (by first | assumption | omega) hc.2) (cwV 1 C.2.2.2.2 gL_law_X6_finish rfl rfl rfl (by decide +kernel) ⟨Nat.le_of_ble_eq_true rfl, Nat.le_of_ble_eq_true rfl⟩) [77, 78, 79] rfl rfl rfl ⟨rfl, [0, 1, 2, 3, 4, 5, 6, 7, 8, 9, 10, 11, 12, 13, 14, 15, 16, 17, 18, 19, 20, 21, 22, 23, 24, 25, 26, 27, 28, 29, 30, 31, 32, 33, 34, 35, 36, 37, 38, 39, 40, 41, 42, 43, 44, 45, 46, 47, 48, 49, 50, 51, 52, 53, 54, 55, 56, 57, 58, 59, 60, 61, 62, 63, 64, 65, 66, 67, 68, 69, 70, 71, 72, 73, 74, 75, 76, 80, 81, 82, 83, 84, 85], ([zO w0 5 [.ref (d0 0), .ref (dk 0), .int (iI iK), .ref w1, .int (iI (pn n)), .ref t0, .ref w2], zR cs w1 4 (afF (tg2 n) (dx 0) (df 0) (dg 0) (de 0))] ++ (bkW cy (d0, fnM M 1, L, fu, fn) ++ (bkW cy (dk, Mk, Lk, uk, gk) ++ (bkW cy (dx, M, L, fu, gx) ++ (bkW cy (df, Mf, Lf, uf, gf) ++ (bkW cy (dg, Mg, Lg, ug, gg) ++ (bkW cy (de, Me, Le, ue, ge) ++ ([zO t0 4 [.int (iI ty), .ref t1], zA cy t1 60 fv, zA cy w2 32 dz, zA cy (mm 3) 780 Sh, zA cy (mm 4) 60 tx, zA cy (mm 5) 3 hd, zA cy (mm 6) 32 me, zA cy (mm 7) 96 wk, zA cy (mm 8) 32 fr])))))))), 86, rfl, rfl, rfl, by decide +kernel⟩ rfl rfl rfl rfl (Nat.le_of_ble_eq_true rfl) hl.1 dL_law_367 ⟨Nat.le_of_ble_eq_true rfl, Nat.le_of_ble_eq_true rfl⟩ (fun H locs wd => ?_)
      refine z_same C (tgt := 718) rfl dL_law_370 (by decide) ?_
      exact lN_rec NX hn hiK htxr hhd (show vB_ (d0, fnM M 1, L, fu, fn) from vO_fn hvB) vK (show vB_ (dx, M, L, fu, gx) from hvB) vF vG vE hh hl wd
    · skip
      refine lv_aload_n C.1 C.2.1 dL_law_336 rfl (lv_at hl 1 rfl) ?_
      refine lv_aload_n C.1 C.2.1 dL_law_337 rfl (lv_at hl 0 rfl) ?_
      refine lv_iload_n C.1 C.2.1 dL_law_338 rfl (lv_at hl 3 rfl) ?_
      refine z_iconst C dL_law_339 ?_
      refine z_iadd C dL_law_340 ?_
      refine z_sld C wd hX hbl hbA (v := v1) (by omega) hLs hv1 dL_law_341 ?_
      refine z_if_eq C (tgt := 349) dL_law_342 (by decide) (by omega) (fun c9 => absurd c9 hz) (fun _ => ?_)
      refine z_iconst C dL_law_345 ?_
      refine z_goto C (tgt := 350) dL_law_346 (by decide) ?_
      refine z_cvi C wd hA (As := [.int (iI 1)]) (rest := []) (ws2 := (LW cy cs w0 w1 t0 t1 w2 mm iK n ty fv dz (afF (tg n) (dx 0) (df 0) (dg 0) (de 0)) (d0, M, L, fu, fn) (dk, Mk, Lk, uk, gk) (dx, Mx, Lx, ux, gx) (df, Mf, Lf, uf, gf) (dg, Mg, Lg, ug, gg) (de, Me, Le, ue, ge) M Hs Sh tx hd me wk fr n iK ty)) (c_X5_finishB l D cy cs w0 w1 w2 t0 (d0 0) (dk 0) (d0 1) 0 (d0 3) 0 0 0 (d0 7) (d0 8) (d0 9) (d0 10) (d0 11) iK n L M 1 (by first | assumption | omega) (by first | assumption | omega) (by first | assumption | omega) (by omega) (by omega)) (cwV 1 C.2.2.2.2 gL_law_X5_finish rfl rfl rfl (by decide +kernel) ⟨Nat.le_of_ble_eq_true rfl, Nat.le_of_ble_eq_true rfl⟩) [0, 2, 9, 11] rfl rfl rfl ⟨rfl, [1, 3, 4, 5, 6, 7, 8, 10, 12, 13, 14, 15, 16, 17, 18, 19, 20, 21, 22, 23, 24, 25, 26, 27, 28, 29, 30, 31, 32, 33, 34, 35, 36, 37, 38, 39, 40, 41, 42, 43, 44, 45, 46, 47, 48, 49, 50, 51, 52, 53, 54, 55, 56, 57, 58, 59, 60, 61, 62, 63, 64, 65, 66, 67, 68, 69, 70, 71, 72, 73, 74, 75, 76, 77, 78, 79, 80, 81, 82, 83, 84, 85], ([zR cs w1 4 (afF (tg n) (dx 0) (df 0) (dg 0) (de 0)), zO (d0 1) 0 [.int (iI (M 0)), .int (iI (M 1)), .ref (d0 2)], zA cy (d0 2) 3 (sl M 2), zO (d0 3) 2 [.int (iI (M 6)), .int (iI (M 7)), .ref (d0 4), .ref (d0 5), .ref (d0 6)], zA cy (d0 4) 80 (sl M 12), zA cy (d0 5) 240 (sl M 92), zA cy (d0 6) 240 (sl M 332), zA cy (d0 8) 80 (sl M 604), zA cy (d0 10) 32 fn, zA cy (d0 11) 80 fu] ++ (bkW cy (dk, Mk, Lk, uk, gk) ++ (bkW cy (dx, Mx, Lx, ux, gx) ++ (bkW cy (df, Mf, Lf, uf, gf) ++ (bkW cy (dg, Mg, Lg, ug, gg) ++ (bkW cy (de, Me, Le, ue, ge) ++ ([zO t0 4 [.int (iI ty), .ref t1], zA cy t1 60 fv, zA cy w2 32 dz, zO (mm 0) 6 [.ref (mm 1), .ref (mm 2), .int (iI n), .ref (mm 3), .int (iI iK), .ref (mm 4), .int (iI ty), .ref (mm 5), .ref (mm 6), .ref (mm 7), .ref (mm 8)], zA cy (mm 1) 780 M, zA cy (mm 2) 3120 Hs, zA cy (mm 3) 780 Sh, zA cy (mm 4) 60 tx, zA cy (mm 5) 3 hd, zA cy (mm 6) 32 me, zA cy (mm 7) 96 wk, zA cy (mm 8) 32 fr]))))))), 86, rfl, rfl, rfl, by decide +kernel⟩ rfl rfl rfl rfl (Nat.le_of_ble_eq_true rfl) hl.1 dL_law_350 ⟨Nat.le_of_ble_eq_true rfl, Nat.le_of_ble_eq_true rfl⟩ (fun H locs wd => ?_)
      refine lv_aload_n C.1 C.2.1 dL_law_353 rfl (lv_at hl 2 rfl) ?_
      refine lv_aload_n C.1 C.2.1 dL_law_354 rfl (lv_at hl 0 rfl) ?_
      refine lv_iload_n C.1 C.2.1 dL_law_355 rfl (lv_at hl 3 rfl) ?_
      refine z_iconst C dL_law_356 ?_
      refine z_iadd C dL_law_357 ?_
      refine z_sld C wd hX hbl hbA (v := v1) (by omega) hLs hv1 dL_law_358 ?_
      refine z_if_eq C (tgt := 366) dL_law_359 (by decide) (by omega) (fun c9 => absurd c9 hz) (fun _ => ?_)
      refine z_iconst C dL_law_362 ?_
      refine z_goto C (tgt := 367) dL_law_363 (by decide) ?_
      refine z_cvi C wd hA (As := [.int (iI 1)]) (rest := [.int (iI (-4))]) (ws2 := (LW cy cs w0 w1 t0 t1 w2 mm iK n ty fv dz (afF (tg n) (dx 0) (df 0) (dg 0) (de 0)) (d0, M, L, fu, fn) (dk, Mk, Lk, uk, gk) (dx, Mx, Lx, ux, gx) (df, Mf, Lf, uf, gf) (dg, Mg, Lg, ug, gg) (de, Me, Le, ue, ge) M Hs Sh tx hd me wk fr n iK ty)) (c_mfinishB l D cy cs (mm 0) (mm 1) (mm 2) (mm 3) (mm 4) (mm 5) (mm 6) (mm 7) (mm 8) n iK ty M 1 (by first | assumption | omega) (by first | assumption | omega) (by omega) (by omega)) (cwV 1 C.2.2.2.2 gL_law_X6_finish rfl rfl rfl (by decide +kernel) ⟨Nat.le_of_ble_eq_true rfl, Nat.le_of_ble_eq_true rfl⟩) [77, 78] rfl rfl rfl ⟨rfl, [0, 1, 2, 3, 4, 5, 6, 7, 8, 9, 10, 11, 12, 13, 14, 15, 16, 17, 18, 19, 20, 21, 22, 23, 24, 25, 26, 27, 28, 29, 30, 31, 32, 33, 34, 35, 36, 37, 38, 39, 40, 41, 42, 43, 44, 45, 46, 47, 48, 49, 50, 51, 52, 53, 54, 55, 56, 57, 58, 59, 60, 61, 62, 63, 64, 65, 66, 67, 68, 69, 70, 71, 72, 73, 74, 75, 76, 79, 80, 81, 82, 83, 84, 85], ([zO w0 5 [.ref (d0 0), .ref (dk 0), .int (iI iK), .ref w1, .int (iI n), .ref t0, .ref w2], zR cs w1 4 (afF (tg n) (dx 0) (df 0) (dg 0) (de 0))] ++ (bkW cy (d0, M, L, fu, fn) ++ (bkW cy (dk, Mk, Lk, uk, gk) ++ (bkW cy (dx, Mx, Lx, ux, gx) ++ (bkW cy (df, Mf, Lf, uf, gf) ++ (bkW cy (dg, Mg, Lg, ug, gg) ++ (bkW cy (de, Me, Le, ue, ge) ++ ([zO t0 4 [.int (iI ty), .ref t1], zA cy t1 60 fv, zA cy w2 32 dz, zA cy (mm 2) 3120 Hs, zA cy (mm 3) 780 Sh, zA cy (mm 4) 60 tx, zA cy (mm 5) 3 hd, zA cy (mm 6) 32 me, zA cy (mm 7) 96 wk, zA cy (mm 8) 32 fr])))))))), 86, rfl, rfl, rfl, by decide +kernel⟩ rfl rfl rfl rfl (Nat.le_of_ble_eq_true rfl) hl.1 dL_law_367 ⟨Nat.le_of_ble_eq_true rfl, Nat.le_of_ble_eq_true rfl⟩ (fun H locs wd => ?_)
      refine z_same C (tgt := 718) rfl dL_law_370 (by decide) ?_
      exact NX iK n ty fv dz Hs Sh tx hd me wk fr (d0, M, L, fu, fn) (dk, Mk, Lk, uk, gk) (dx, Mx, Lx, ux, gx) (df, Mf, Lf, uf, gf) (dg, Mg, Lg, ug, gg) (de, Me, Le, ue, ge) ⟨hn, hiK, htxr, hhd, ⟨vB, vK⟩, ⟨vX, vF, vG, vE⟩, hh⟩ H locs ls hl wd
set_option maxRecDepth 100000 in
set_option maxHeartbeats 20000000 in
theorem lf_reset {p : Program} {l : Launch} {e : Env} {s : State} {m : MethodId} {below : List Frame} {meth : Method} {c : Code} {D : va_G} {b Ls : Nat} {xs : Nat → Int32} {cy cs : ClassId} {w0 w1 t0 t1 w2 : Nat} {mm : Nat → Nat} {i : Int} (C : CallFix p m c cL_law 4 s #[Value.ref b] wsL_law RL) (hX : va_X b Ls xs s s.heap) (hbl : b < s.heap.size) (hLs : Ls ≤ 2560) (hi : 0 ≤ i ∧ i + 5 ≤ (Ls : Int)) (NX : lNX p l e s m below meth c b D cy cs w0 w1 t0 t1 w2 mm i 718) : lNX p l e s m below meth c b D cy cs w0 w1 t0 t1 w2 mm i 375 := by
  intro iK n ty fv dz Hs Sh tx hd me wk fr B K X F G E hI H locs ls hl wd
  obtain ⟨d0, M, L, fu, fn⟩ := B
  obtain ⟨dk, Mk, Lk, uk, gk⟩ := K
  obtain ⟨dx, Mx, Lx, ux, gx⟩ := X
  obtain ⟨df, Mf, Lf, uf, gf⟩ := F
  obtain ⟨dg, Mg, Lg, ug, gg⟩ := G
  obtain ⟨de, Me, Le, ue, ge⟩ := E
  obtain ⟨hn, hiK, htxr, hhd, ⟨vB, vK⟩, ⟨vX, vF, vG, vE⟩, hh⟩ := hI
  have hvB : vO M L fu := vB
  obtain ⟨hrk, hm, ho, ht, h5, h9, h10, hme, hme2, hwk, hbs⟩ := vO_all hvB
  obtain ⟨hwr, huf, hu, hso, hoT, hE, h8e, hL, hL2, h7, hln, hlt, h8⟩ := vO_all2 hvB
  obtain ⟨hli, hli2, hwa, hwa2, hb1, hb1a, hb2, hb2a⟩ := vO_all3 hvB
  have h572 := vO_572 hvB
  have e572 : sl M 572 0 = M 572 := rfl
  have hp := p2_all hm.1 hm.2
  obtain ⟨hty, hfv, htx, hrel⟩ := id htxr
  have hff1 : ff (fun z9 => vc (tx z9)) ty (1 + 0) = ff fv ty 1 := (ff_cong hty.1 hrel).symm
  have hff2 : ff (fun z9 => vc (tx z9)) ty (1 + 1) = ff fv ty 2 := (ff_cong hty.1 hrel).symm
  have hfl1 := ff_le (f := fv) (hi := 1) hty
  have hfl2 := ff_le (f := fv) (hi := 2) hty
  have hbA : ¬ (fun q : Nat => s.heap.size ≤ q) b := Nat.not_le.mpr hbl
  have hA : ∀ q : Nat, s.heap.size ≤ q → (fun q : Nat => s.heap.size ≤ q) q := fun _ h => h
  have wd : Wd D (zT cy cs) (fun q : Nat => s.heap.size ≤ q) s.heap s (LW cy cs w0 w1 t0 t1 w2 mm iK n ty fv dz (afF (tg n) (dx 0) (df 0) (dg 0) (de 0)) (d0, M, L, fu, fn) (dk, Mk, Lk, uk, gk) (dx, Mx, Lx, ux, gx) (df, Mf, Lf, uf, gf) (dg, Mg, Lg, ug, gg) (de, Me, Le, ue, ge) M Hs Sh tx hd me wk fr n iK ty) H locs := wd
  unfold lG
  refine lv_aload_n C.1 C.2.1 dL_law_375 rfl (lv_at hl 1 rfl) ?_
  refine z_cvi C wd hA (As := []) (rest := []) (ws2 := (LW cy cs w0 w1 t0 t1 w2 mm iK (pn n) ty fv dz (afF (tg2 n) (dx 0) (df 0) (dg 0) (de 0)) (d0, clR M, 0, fu, fn) (dk, Mk, Lk, uk, gk) (dx, M, L, fu, gx) (df, Mf, Lf, uf, gf) (dg, Mg, Lg, ug, gg) (de, Me, Le, ue, ge) M Hs Sh tx hd me wk fr n iK ty)) (c_X5_resetA l D cy cs w0 w1 w2 t0 (dk 0) iK n (d0 0) (d0 1) (d0 2) (d0 3) (d0 4) (d0 5) (d0 6) (d0 7) (d0 8) (d0 9) (d0 10) (d0 11) L M fu fn (dx 0) (dx 1) (dx 2) (dx 3) (dx 4) (dx 5) (dx 6) (dx 7) (dx 8) (dx 9) (dx 10) (dx 11) Lx Mx ux gx (df 0) (df 1) (df 3) (df 7) (dg 0) (dg 1) (dg 3) (dg 7) (de 0) (de 1) (de 3) (de 7) (Mf 5) (Mg 5) (Me 5) (by first | assumption | omega) (by first | assumption | omega) (by first | assumption | omega) (by first | assumption | omega)) (cwV 0 C.2.2.2.2 gL_law_X5_reset rfl rfl rfl (by decide +kernel) ⟨Nat.le_of_ble_eq_true rfl, Nat.le_of_ble_eq_true rfl⟩) [0, 1, 2, 3, 4, 5, 6, 7, 8, 9, 10, 11, 12, 13, 26, 27, 28, 29, 30, 31, 32, 33, 34, 35, 36, 37, 38, 50, 62] rfl rfl rfl ⟨rfl, [14, 15, 16, 17, 18, 19, 20, 21, 22, 23, 24, 25, 39, 40, 41, 42, 43, 44, 45, 46, 47, 48, 49, 51, 52, 53, 54, 55, 56, 57, 58, 59, 60, 61, 63, 64, 65, 66, 67, 68, 69, 70, 71, 72, 73, 74, 75, 76, 77, 78, 79, 80, 81, 82, 83, 84, 85], (bkW cy (dk, Mk, Lk, uk, gk) ++ ([zO (df 1) 0 [.int (iI (Mf 0)), .int (iI (Mf 1)), .ref (df 2)], zA cy (df 2) 3 (sl Mf 2), zO (df 3) 2 [.int (iI (Mf 6)), .int (iI (Mf 7)), .ref (df 4), .ref (df 5), .ref (df 6)], zA cy (df 4) 80 (sl Mf 12), zA cy (df 5) 240 (sl Mf 92), zA cy (df 6) 240 (sl Mf 332), zO (df 7) 1 [.int (iI (Mf 9)), .int (iI Lf), .int (iI (Mf 10)), .int (iI (Mf 11)), .ref (df 8), .ref (df 9), .ref (df 10), .ref (df 11)], zA cy (df 8) 80 (sl Mf 604), zA cy (df 9) 32 (sl Mf 572), zA cy (df 10) 32 gf, zA cy (df 11) 80 uf, zO (dg 1) 0 [.int (iI (Mg 0)), .int (iI (Mg 1)), .ref (dg 2)], zA cy (dg 2) 3 (sl Mg 2), zO (dg 3) 2 [.int (iI (Mg 6)), .int (iI (Mg 7)), .ref (dg 4), .ref (dg 5), .ref (dg 6)], zA cy (dg 4) 80 (sl Mg 12), zA cy (dg 5) 240 (sl Mg 92), zA cy (dg 6) 240 (sl Mg 332), zO (dg 7) 1 [.int (iI (Mg 9)), .int (iI Lg), .int (iI (Mg 10)), .int (iI (Mg 11)), .ref (dg 8), .ref (dg 9), .ref (dg 10), .ref (dg 11)], zA cy (dg 8) 80 (sl Mg 604), zA cy (dg 9) 32 (sl Mg 572), zA cy (dg 10) 32 gg, zA cy (dg 11) 80 ug, zO (de 1) 0 [.int (iI (Me 0)), .int (iI (Me 1)), .ref (de 2)], zA cy (de 2) 3 (sl Me 2), zO (de 3) 2 [.int (iI (Me 6)), .int (iI (Me 7)), .ref (de 4), .ref (de 5), .ref (de 6)], zA cy (de 4) 80 (sl Me 12), zA cy (de 5) 240 (sl Me 92), zA cy (de 6) 240 (sl Me 332), zO (de 7) 1 [.int (iI (Me 9)), .int (iI Le), .int (iI (Me 10)), .int (iI (Me 11)), .ref (de 8), .ref (de 9), .ref (de 10), .ref (de 11)], zA cy (de 8) 80 (sl Me 604), zA cy (de 9) 32 (sl Me 572), zA cy (de 10) 32 ge, zA cy (de 11) 80 ue, zO t0 4 [.int (iI ty), .ref t1], zA cy t1 60 fv, zA cy w2 32 dz, zO (mm 0) 6 [.ref (mm 1), .ref (mm 2), .int (iI n), .ref (mm 3), .int (iI iK), .ref (mm 4), .int (iI ty), .ref (mm 5), .ref (mm 6), .ref (mm 7), .ref (mm 8)], zA cy (mm 1) 780 M, zA cy (mm 2) 3120 Hs, zA cy (mm 3) 780 Sh, zA cy (mm 4) 60 tx, zA cy (mm 5) 3 hd, zA cy (mm 6) 32 me, zA cy (mm 7) 96 wk, zA cy (mm 8) 32 fr])), 86, rfl, rfl, rfl, by decide +kernel⟩ rfl rfl rfl rfl (Nat.le_of_ble_eq_true rfl) hl.1 dL_law_376 ⟨Nat.le_of_ble_eq_true rfl, Nat.le_of_ble_eq_true rfl⟩ (fun H locs wd => ?_)
  refine lv_aload_n C.1 C.2.1 dL_law_379 rfl (lv_at hl 2 rfl) ?_
  refine z_cvi C wd hA (As := []) (rest := [.int (iI (M 9))]) (ws2 := (LW cy cs w0 w1 t0 t1 w2 mm iK (pn n) ty fv dz (afF (tg2 n) (dx 0) (df 0) (dg 0) (de 0)) (d0, clR M, 0, fu, fn) (dk, Mk, Lk, uk, gk) (dx, M, L, fu, gx) (df, Mf, Lf, uf, gf) (dg, Mg, Lg, ug, gg) (de, Me, Le, ue, ge) (clR M) (recH M Hs n) Sh tx hd me wk fr (pn n) iK ty)) (c_X6_reset l D cy cs (mm 0) (mm 1) (mm 2) (mm 3) (mm 4) (mm 5) (mm 6) (mm 7) (mm 8) n iK ty M Hs (by first | assumption | omega) (by first | assumption | omega)) (cwV 0 C.2.2.2.2 gL_law_X6_reset rfl rfl rfl (by decide +kernel) ⟨Nat.le_of_ble_eq_true rfl, Nat.le_of_ble_eq_true rfl⟩) [77, 78, 79] rfl rfl rfl ⟨rfl, [0, 1, 2, 3, 4, 5, 6, 7, 8, 9, 10, 11, 12, 13, 14, 15, 16, 17, 18, 19, 20, 21, 22, 23, 24, 25, 26, 27, 28, 29, 30, 31, 32, 33, 34, 35, 36, 37, 38, 39, 40, 41, 42, 43, 44, 45, 46, 47, 48, 49, 50, 51, 52, 53, 54, 55, 56, 57, 58, 59, 60, 61, 62, 63, 64, 65, 66, 67, 68, 69, 70, 71, 72, 73, 74, 75, 76, 80, 81, 82, 83, 84, 85], ([zO w0 5 [.ref (d0 0), .ref (dk 0), .int (iI iK), .ref w1, .int (iI (pn n)), .ref t0, .ref w2], zR cs w1 4 (afF (tg2 n) (dx 0) (df 0) (dg 0) (de 0))] ++ (bkW cy (d0, clR M, 0, fu, fn) ++ (bkW cy (dk, Mk, Lk, uk, gk) ++ (bkW cy (dx, M, L, fu, gx) ++ (bkW cy (df, Mf, Lf, uf, gf) ++ (bkW cy (dg, Mg, Lg, ug, gg) ++ (bkW cy (de, Me, Le, ue, ge) ++ ([zO t0 4 [.int (iI ty), .ref t1], zA cy t1 60 fv, zA cy w2 32 dz, zA cy (mm 3) 780 Sh, zA cy (mm 4) 60 tx, zA cy (mm 5) 3 hd, zA cy (mm 6) 32 me, zA cy (mm 7) 96 wk, zA cy (mm 8) 32 fr])))))))), 86, rfl, rfl, rfl, by decide +kernel⟩ rfl rfl rfl rfl (Nat.le_of_ble_eq_true rfl) hl.1 dL_law_380 ⟨Nat.le_of_ble_eq_true rfl, Nat.le_of_ble_eq_true rfl⟩ (fun H locs wd => ?_)
  refine z_same C (tgt := 718) rfl dL_law_383 (by decide) ?_
  exact lN_rec NX hn hiK htxr hhd (show vB_ (d0, clR M, 0, fu, fn) from vO_cl hvB) vK (show vB_ (dx, M, L, fu, gx) from hvB) vF vG vE hh hl wd
set_option maxRecDepth 100000 in
set_option maxHeartbeats 20000000 in
theorem lf_type {p : Program} {l : Launch} {e : Env} {s : State} {m : MethodId} {below : List Frame} {meth : Method} {c : Code} {D : va_G} {b Ls : Nat} {xs : Nat → Int32} {cy cs : ClassId} {w0 w1 t0 t1 w2 : Nat} {mm : Nat → Nat} {i : Int} (C : CallFix p m c cL_law 4 s #[Value.ref b] wsL_law RL) (hX : va_X b Ls xs s s.heap) (hbl : b < s.heap.size) (hLs : Ls ≤ 2560) (hi : 0 ≤ i ∧ i + 5 ≤ (Ls : Int)) (NX : lNX p l e s m below meth c b D cy cs w0 w1 t0 t1 w2 mm i 718) : lNX p l e s m below meth c b D cy cs w0 w1 t0 t1 w2 mm i 388 := by
  intro iK n ty fv dz Hs Sh tx hd me wk fr B K X F G E hI H locs ls hl wd
  obtain ⟨d0, M, L, fu, fn⟩ := B
  obtain ⟨dk, Mk, Lk, uk, gk⟩ := K
  obtain ⟨dx, Mx, Lx, ux, gx⟩ := X
  obtain ⟨df, Mf, Lf, uf, gf⟩ := F
  obtain ⟨dg, Mg, Lg, ug, gg⟩ := G
  obtain ⟨de, Me, Le, ue, ge⟩ := E
  obtain ⟨hn, hiK, htxr, hhd, ⟨vB, vK⟩, ⟨vX, vF, vG, vE⟩, hh⟩ := hI
  have hvB : vO M L fu := vB
  obtain ⟨hrk, hm, ho, ht, h5, h9, h10, hme, hme2, hwk, hbs⟩ := vO_all hvB
  obtain ⟨hwr, huf, hu, hso, hoT, hE, h8e, hL, hL2, h7, hln, hlt, h8⟩ := vO_all2 hvB
  obtain ⟨hli, hli2, hwa, hwa2, hb1, hb1a, hb2, hb2a⟩ := vO_all3 hvB
  have h572 := vO_572 hvB
  have e572 : sl M 572 0 = M 572 := rfl
  have hp := p2_all hm.1 hm.2
  obtain ⟨hty, hfv, htx, hrel⟩ := id htxr
  have hff1 : ff (fun z9 => vc (tx z9)) ty (1 + 0) = ff fv ty 1 := (ff_cong hty.1 hrel).symm
  have hff2 : ff (fun z9 => vc (tx z9)) ty (1 + 1) = ff fv ty 2 := (ff_cong hty.1 hrel).symm
  have hfl1 := ff_le (f := fv) (hi := 1) hty
  have hfl2 := ff_le (f := fv) (hi := 2) hty
  have hbA : ¬ (fun q : Nat => s.heap.size ≤ q) b := Nat.not_le.mpr hbl
  have hA : ∀ q : Nat, s.heap.size ≤ q → (fun q : Nat => s.heap.size ≤ q) q := fun _ h => h
  have wd : Wd D (zT cy cs) (fun q : Nat => s.heap.size ≤ q) s.heap s (LW cy cs w0 w1 t0 t1 w2 mm iK n ty fv dz (afF (tg n) (dx 0) (df 0) (dg 0) (de 0)) (d0, M, L, fu, fn) (dk, Mk, Lk, uk, gk) (dx, Mx, Lx, ux, gx) (df, Mf, Lf, uf, gf) (dg, Mg, Lg, ug, gg) (de, Me, Le, ue, ge) M Hs Sh tx hd me wk fr n iK ty) H locs := wd
  obtain ⟨v1, hv1⟩ : ∃ v, (xs (i + 1).toNat).toInt = v := ⟨_, rfl⟩
  have hr1 := iI_rng (xs (i + 1).toNat)
  rw [hv1] at hr1
  unfold lG
  by_cases hc : ty < 60
  · skip
    have hcx : 0 ≤ v1 % 65536 ∧ v1 % 65536 < 65536 := by omega
    refine lv_aload_n C.1 C.2.1 dL_law_388 rfl (lv_at hl 1 rfl) ?_
    refine lv_aload_n C.1 C.2.1 dL_law_389 rfl (lv_at hl 0 rfl) ?_
    refine lv_iload_n C.1 C.2.1 dL_law_390 rfl (lv_at hl 3 rfl) ?_
    refine z_iconst C dL_law_391 ?_
    refine z_iadd C dL_law_392 ?_
    refine z_sld C wd hX hbl hbA (v := v1) (by omega) hLs hv1 dL_law_393 ?_
    refine lv_i2c (v := iI (v1 % 65536)) C.1 C.2.1 dL_law_394 (iI_c16 v1) ?_
    refine z_cvi C wd hA (As := [.int (iI (v1 % 65536))]) (rest := []) (ws2 := (LW cy cs w0 w1 t0 t1 w2 mm iK n (ty + 1) (uZ fv ty (vc (v1 % 65536))) dz (afF (tg n) (dx 0) (df 0) (dg 0) (de 0)) (d0, M, L, fu, fn) (dk, Mk, Lk, uk, gk) (dx, Mx, Lx, ux, gx) (df, Mf, Lf, uf, gf) (dg, Mg, Lg, ug, gg) (de, Me, Le, ue, ge) M Hs Sh tx hd me wk fr n iK ty)) (c_typeA l D cy cs w0 w1 w2 t0 (d0 0) (dk 0) 0 0 0 0 0 0 0 0 0 0 0 iK n 0 (fun _ => 0) t1 ty (v1 % 65536) fv (by first | assumption | omega) (by first | assumption | omega)) (cwV 1 C.2.2.2.2 gL_law_X5_type rfl rfl rfl (by decide +kernel) ⟨Nat.le_of_ble_eq_true rfl, Nat.le_of_ble_eq_true rfl⟩) [0, 74, 75] rfl rfl rfl ⟨rfl, [1, 2, 3, 4, 5, 6, 7, 8, 9, 10, 11, 12, 13, 14, 15, 16, 17, 18, 19, 20, 21, 22, 23, 24, 25, 26, 27, 28, 29, 30, 31, 32, 33, 34, 35, 36, 37, 38, 39, 40, 41, 42, 43, 44, 45, 46, 47, 48, 49, 50, 51, 52, 53, 54, 55, 56, 57, 58, 59, 60, 61, 62, 63, 64, 65, 66, 67, 68, 69, 70, 71, 72, 73, 76, 77, 78, 79, 80, 81, 82, 83, 84, 85], ([zR cs w1 4 (afF (tg n) (dx 0) (df 0) (dg 0) (de 0))] ++ (bkW cy (d0, M, L, fu, fn) ++ (bkW cy (dk, Mk, Lk, uk, gk) ++ (bkW cy (dx, Mx, Lx, ux, gx) ++ (bkW cy (df, Mf, Lf, uf, gf) ++ (bkW cy (dg, Mg, Lg, ug, gg) ++ (bkW cy (de, Me, Le, ue, ge) ++ ([zA cy w2 32 dz, zO (mm 0) 6 [.ref (mm 1), .ref (mm 2), .int (iI n), .ref (mm 3), .int (iI iK), .ref (mm 4), .int (iI ty), .ref (mm 5), .ref (mm 6), .ref (mm 7), .ref (mm 8)], zA cy (mm 1) 780 M, zA cy (mm 2) 3120 Hs, zA cy (mm 3) 780 Sh, zA cy (mm 4) 60 tx, zA cy (mm 5) 3 hd, zA cy (mm 6) 32 me, zA cy (mm 7) 96 wk, zA cy (mm 8) 32 fr])))))))), 86, rfl, rfl, rfl, by decide +kernel⟩ rfl rfl rfl rfl (Nat.le_of_ble_eq_true rfl) hl.1 dL_law_395 ⟨Nat.le_of_ble_eq_true rfl, Nat.le_of_ble_eq_true rfl⟩ (fun H locs wd => ?_)
    refine lv_aload_n C.1 C.2.1 dL_law_398 rfl (lv_at hl 2 rfl) ?_
    refine lv_aload_n C.1 C.2.1 dL_law_399 rfl (lv_at hl 0 rfl) ?_
    refine lv_iload_n C.1 C.2.1 dL_law_400 rfl (lv_at hl 3 rfl) ?_
    refine z_iconst C dL_law_401 ?_
    refine z_iadd C dL_law_402 ?_
    refine z_sld C wd hX hbl hbA (v := v1) (by omega) hLs hv1 dL_law_403 ?_
    refine lv_i2c (v := iI (v1 % 65536)) C.1 C.2.1 dL_law_404 (iI_c16 v1) ?_
    refine z_cvi C wd hA (As := [.int (iI (v1 % 65536))]) (rest := [.int (iI (ty + 1))]) (ws2 := (LW cy cs w0 w1 t0 t1 w2 mm iK n (ty + 1) (uZ fv ty (vc (v1 % 65536))) dz (afF (tg n) (dx 0) (df 0) (dg 0) (de 0)) (d0, M, L, fu, fn) (dk, Mk, Lk, uk, gk) (dx, Mx, Lx, ux, gx) (df, Mf, Lf, uf, gf) (dg, Mg, Lg, ug, gg) (de, Me, Le, ue, ge) M Hs Sh (uZ tx ty (v1 % 65536)) hd me wk fr n iK (ty + 1))) (c_mtypeA l D cy cs (mm 0) (mm 1) (mm 2) (mm 3) (mm 4) (mm 5) (mm 6) (mm 7) (mm 8) n iK ty (fun _ => 0) (v1 % 65536) tx (by first | assumption | omega) (by first | assumption | omega)) (cwV 1 C.2.2.2.2 gL_law_X6_type rfl rfl rfl (by decide +kernel) ⟨Nat.le_of_ble_eq_true rfl, Nat.le_of_ble_eq_true rfl⟩) [77, 81] rfl rfl rfl ⟨rfl, [0, 1, 2, 3, 4, 5, 6, 7, 8, 9, 10, 11, 12, 13, 14, 15, 16, 17, 18, 19, 20, 21, 22, 23, 24, 25, 26, 27, 28, 29, 30, 31, 32, 33, 34, 35, 36, 37, 38, 39, 40, 41, 42, 43, 44, 45, 46, 47, 48, 49, 50, 51, 52, 53, 54, 55, 56, 57, 58, 59, 60, 61, 62, 63, 64, 65, 66, 67, 68, 69, 70, 71, 72, 73, 74, 75, 76, 78, 79, 80, 82, 83, 84, 85], ([zO w0 5 [.ref (d0 0), .ref (dk 0), .int (iI iK), .ref w1, .int (iI n), .ref t0, .ref w2], zR cs w1 4 (afF (tg n) (dx 0) (df 0) (dg 0) (de 0))] ++ (bkW cy (d0, M, L, fu, fn) ++ (bkW cy (dk, Mk, Lk, uk, gk) ++ (bkW cy (dx, Mx, Lx, ux, gx) ++ (bkW cy (df, Mf, Lf, uf, gf) ++ (bkW cy (dg, Mg, Lg, ug, gg) ++ (bkW cy (de, Me, Le, ue, ge) ++ ([zO t0 4 [.int (iI (ty + 1)), .ref t1], zA cy t1 60 (uZ fv ty (vc (v1 % 65536))), zA cy w2 32 dz, zA cy (mm 1) 780 M, zA cy (mm 2) 3120 Hs, zA cy (mm 3) 780 Sh, zA cy (mm 5) 3 hd, zA cy (mm 6) 32 me, zA cy (mm 7) 96 wk, zA cy (mm 8) 32 fr])))))))), 86, rfl, rfl, rfl, by decide +kernel⟩ rfl rfl rfl rfl (Nat.le_of_ble_eq_true rfl) hl.1 dL_law_405 ⟨Nat.le_of_ble_eq_true rfl, Nat.le_of_ble_eq_true rfl⟩ (fun H locs wd => ?_)
    refine z_same C (tgt := 718) rfl dL_law_408 (by decide) ?_
    exact NX iK n (ty + 1) (uZ fv ty (vc (v1 % 65536))) dz Hs Sh (uZ tx ty (v1 % 65536)) hd me wk fr (d0, M, L, fu, fn) (dk, Mk, Lk, uk, gk) (dx, Mx, Lx, ux, gx) (df, Mf, Lf, uf, gf) (dg, Mg, Lg, ug, gg) (de, Me, Le, ue, ge) ⟨hn, hiK, txR_up htxr hc hcx, hhd, ⟨vB, vK⟩, ⟨vX, vF, vG, vE⟩, hh⟩ H locs ls hl wd
  · skip
    refine lv_aload_n C.1 C.2.1 dL_law_388 rfl (lv_at hl 1 rfl) ?_
    refine lv_aload_n C.1 C.2.1 dL_law_389 rfl (lv_at hl 0 rfl) ?_
    refine lv_iload_n C.1 C.2.1 dL_law_390 rfl (lv_at hl 3 rfl) ?_
    refine z_iconst C dL_law_391 ?_
    refine z_iadd C dL_law_392 ?_
    refine z_sld C wd hX hbl hbA (v := v1) (by omega) hLs hv1 dL_law_393 ?_
    refine lv_i2c (v := iI (v1 % 65536)) C.1 C.2.1 dL_law_394 (iI_c16 v1) ?_
    refine z_cvi C wd hA (As := [.int (iI (v1 % 65536))]) (rest := []) (ws2 := (LW cy cs w0 w1 t0 t1 w2 mm iK n ty fv dz (afF (tg n) (dx 0) (df 0) (dg 0) (de 0)) (d0, M, L, fu, fn) (dk, Mk, Lk, uk, gk) (dx, Mx, Lx, ux, gx) (df, Mf, Lf, uf, gf) (dg, Mg, Lg, ug, gg) (de, Me, Le, ue, ge) M Hs Sh tx hd me wk fr n iK ty)) (c_typeB l D cy cs w0 w1 w2 t0 (d0 0) (dk 0) 0 0 0 0 0 0 0 0 0 0 0 iK n 0 (fun _ => 0) t1 ty (v1 % 65536) (by first | assumption | omega) (by first | assumption | omega)) (cwV 1 C.2.2.2.2 gL_law_X5_type rfl rfl rfl (by decide +kernel) ⟨Nat.le_of_ble_eq_true rfl, Nat.le_of_ble_eq_true rfl⟩) [0, 74] rfl rfl rfl ⟨rfl, [1, 2, 3, 4, 5, 6, 7, 8, 9, 10, 11, 12, 13, 14, 15, 16, 17, 18, 19, 20, 21, 22, 23, 24, 25, 26, 27, 28, 29, 30, 31, 32, 33, 34, 35, 36, 37, 38, 39, 40, 41, 42, 43, 44, 45, 46, 47, 48, 49, 50, 51, 52, 53, 54, 55, 56, 57, 58, 59, 60, 61, 62, 63, 64, 65, 66, 67, 68, 69, 70, 71, 72, 73, 75, 76, 77, 78, 79, 80, 81, 82, 83, 84, 85], ([zR cs w1 4 (afF (tg n) (dx 0) (df 0) (dg 0) (de 0))] ++ (bkW cy (d0, M, L, fu, fn) ++ (bkW cy (dk, Mk, Lk, uk, gk) ++ (bkW cy (dx, Mx, Lx, ux, gx) ++ (bkW cy (df, Mf, Lf, uf, gf) ++ (bkW cy (dg, Mg, Lg, ug, gg) ++ (bkW cy (de, Me, Le, ue, ge) ++ ([zA cy t1 60 fv, zA cy w2 32 dz, zO (mm 0) 6 [.ref (mm 1), .ref (mm 2), .int (iI n), .ref (mm 3), .int (iI iK), .ref (mm 4), .int (iI ty), .ref (mm 5), .ref (mm 6), .ref (mm 7), .ref (mm 8)], zA cy (mm 1) 780 M, zA cy (mm 2) 3120 Hs, zA cy (mm 3) 780 Sh, zA cy (mm 4) 60 tx, zA cy (mm 5) 3 hd, zA cy (mm 6) 32 me, zA cy (mm 7) 96 wk, zA cy (mm 8) 32 fr])))))))), 86, rfl, rfl, rfl, by decide +kernel⟩ rfl rfl rfl rfl (Nat.le_of_ble_eq_true rfl) hl.1 dL_law_395 ⟨Nat.le_of_ble_eq_true rfl, Nat.le_of_ble_eq_true rfl⟩ (fun H locs wd => ?_)
    refine lv_aload_n C.1 C.2.1 dL_law_398 rfl (lv_at hl 2 rfl) ?_
    refine lv_aload_n C.1 C.2.1 dL_law_399 rfl (lv_at hl 0 rfl) ?_
    refine lv_iload_n C.1 C.2.1 dL_law_400 rfl (lv_at hl 3 rfl) ?_
    refine z_iconst C dL_law_401 ?_
    refine z_iadd C dL_law_402 ?_
    refine z_sld C wd hX hbl hbA (v := v1) (by omega) hLs hv1 dL_law_403 ?_
    refine lv_i2c (v := iI (v1 % 65536)) C.1 C.2.1 dL_law_404 (iI_c16 v1) ?_
    refine z_cvi C wd hA (As := [.int (iI (v1 % 65536))]) (rest := [.int (iI (-3))]) (ws2 := (LW cy cs w0 w1 t0 t1 w2 mm iK n ty fv dz (afF (tg n) (dx 0) (df 0) (dg 0) (de 0)) (d0, M, L, fu, fn) (dk, Mk, Lk, uk, gk) (dx, Mx, Lx, ux, gx) (df, Mf, Lf, uf, gf) (dg, Mg, Lg, ug, gg) (de, Me, Le, ue, ge) M Hs Sh tx hd me wk fr n iK ty)) (c_mtypeB l D cy cs (mm 0) (mm 1) (mm 2) (mm 3) (mm 4) (mm 5) (mm 6) (mm 7) (mm 8) n iK ty (fun _ => 0) (v1 % 65536) (by first | assumption | omega) (by first | assumption | omega)) (cwV 1 C.2.2.2.2 gL_law_X6_type rfl rfl rfl (by decide +kernel) ⟨Nat.le_of_ble_eq_true rfl, Nat.le_of_ble_eq_true rfl⟩) [77] rfl rfl rfl ⟨rfl, [0, 1, 2, 3, 4, 5, 6, 7, 8, 9, 10, 11, 12, 13, 14, 15, 16, 17, 18, 19, 20, 21, 22, 23, 24, 25, 26, 27, 28, 29, 30, 31, 32, 33, 34, 35, 36, 37, 38, 39, 40, 41, 42, 43, 44, 45, 46, 47, 48, 49, 50, 51, 52, 53, 54, 55, 56, 57, 58, 59, 60, 61, 62, 63, 64, 65, 66, 67, 68, 69, 70, 71, 72, 73, 74, 75, 76, 78, 79, 80, 81, 82, 83, 84, 85], ([zO w0 5 [.ref (d0 0), .ref (dk 0), .int (iI iK), .ref w1, .int (iI n), .ref t0, .ref w2], zR cs w1 4 (afF (tg n) (dx 0) (df 0) (dg 0) (de 0))] ++ (bkW cy (d0, M, L, fu, fn) ++ (bkW cy (dk, Mk, Lk, uk, gk) ++ (bkW cy (dx, Mx, Lx, ux, gx) ++ (bkW cy (df, Mf, Lf, uf, gf) ++ (bkW cy (dg, Mg, Lg, ug, gg) ++ (bkW cy (de, Me, Le, ue, ge) ++ ([zO t0 4 [.int (iI ty), .ref t1], zA cy t1 60 fv, zA cy w2 32 dz, zA cy (mm 1) 780 M, zA cy (mm 2) 3120 Hs, zA cy (mm 3) 780 Sh, zA cy (mm 4) 60 tx, zA cy (mm 5) 3 hd, zA cy (mm 6) 32 me, zA cy (mm 7) 96 wk, zA cy (mm 8) 32 fr])))))))), 86, rfl, rfl, rfl, by decide +kernel⟩ rfl rfl rfl rfl (Nat.le_of_ble_eq_true rfl) hl.1 dL_law_405 ⟨Nat.le_of_ble_eq_true rfl, Nat.le_of_ble_eq_true rfl⟩ (fun H locs wd => ?_)
    refine z_same C (tgt := 718) rfl dL_law_408 (by decide) ?_
    exact NX iK n ty fv dz Hs Sh tx hd me wk fr (d0, M, L, fu, fn) (dk, Mk, Lk, uk, gk) (dx, Mx, Lx, ux, gx) (df, Mf, Lf, uf, gf) (dg, Mg, Lg, ug, gg) (de, Me, Le, ue, ge) ⟨hn, hiK, htxr, hhd, ⟨vB, vK⟩, ⟨vX, vF, vG, vE⟩, hh⟩ H locs ls hl wd
set_option maxRecDepth 100000 in
set_option maxHeartbeats 20000000 in
theorem lf_clearText {p : Program} {l : Launch} {e : Env} {s : State} {m : MethodId} {below : List Frame} {meth : Method} {c : Code} {D : va_G} {b Ls : Nat} {xs : Nat → Int32} {cy cs : ClassId} {w0 w1 t0 t1 w2 : Nat} {mm : Nat → Nat} {i : Int} (C : CallFix p m c cL_law 4 s #[Value.ref b] wsL_law RL) (hX : va_X b Ls xs s s.heap) (hbl : b < s.heap.size) (hLs : Ls ≤ 2560) (hi : 0 ≤ i ∧ i + 5 ≤ (Ls : Int)) (NX : lNX p l e s m below meth c b D cy cs w0 w1 t0 t1 w2 mm i 718) : lNX p l e s m below meth c b D cy cs w0 w1 t0 t1 w2 mm i 413 := by
  intro iK n ty fv dz Hs Sh tx hd me wk fr B K X F G E hI H locs ls hl wd
  obtain ⟨d0, M, L, fu, fn⟩ := B
  obtain ⟨dk, Mk, Lk, uk, gk⟩ := K
  obtain ⟨dx, Mx, Lx, ux, gx⟩ := X
  obtain ⟨df, Mf, Lf, uf, gf⟩ := F
  obtain ⟨dg, Mg, Lg, ug, gg⟩ := G
  obtain ⟨de, Me, Le, ue, ge⟩ := E
  obtain ⟨hn, hiK, htxr, hhd, ⟨vB, vK⟩, ⟨vX, vF, vG, vE⟩, hh⟩ := hI
  have hvB : vO M L fu := vB
  obtain ⟨hrk, hm, ho, ht, h5, h9, h10, hme, hme2, hwk, hbs⟩ := vO_all hvB
  obtain ⟨hwr, huf, hu, hso, hoT, hE, h8e, hL, hL2, h7, hln, hlt, h8⟩ := vO_all2 hvB
  obtain ⟨hli, hli2, hwa, hwa2, hb1, hb1a, hb2, hb2a⟩ := vO_all3 hvB
  have h572 := vO_572 hvB
  have e572 : sl M 572 0 = M 572 := rfl
  have hp := p2_all hm.1 hm.2
  obtain ⟨hty, hfv, htx, hrel⟩ := id htxr
  have hff1 : ff (fun z9 => vc (tx z9)) ty (1 + 0) = ff fv ty 1 := (ff_cong hty.1 hrel).symm
  have hff2 : ff (fun z9 => vc (tx z9)) ty (1 + 1) = ff fv ty 2 := (ff_cong hty.1 hrel).symm
  have hfl1 := ff_le (f := fv) (hi := 1) hty
  have hfl2 := ff_le (f := fv) (hi := 2) hty
  have hbA : ¬ (fun q : Nat => s.heap.size ≤ q) b := Nat.not_le.mpr hbl
  have hA : ∀ q : Nat, s.heap.size ≤ q → (fun q : Nat => s.heap.size ≤ q) q := fun _ h => h
  have wd : Wd D (zT cy cs) (fun q : Nat => s.heap.size ≤ q) s.heap s (LW cy cs w0 w1 t0 t1 w2 mm iK n ty fv dz (afF (tg n) (dx 0) (df 0) (dg 0) (de 0)) (d0, M, L, fu, fn) (dk, Mk, Lk, uk, gk) (dx, Mx, Lx, ux, gx) (df, Mf, Lf, uf, gf) (dg, Mg, Lg, ug, gg) (de, Me, Le, ue, ge) M Hs Sh tx hd me wk fr n iK ty) H locs := wd
  unfold lG
  refine lv_aload_n C.1 C.2.1 dL_law_413 rfl (lv_at hl 1 rfl) ?_
  refine z_cvi C wd hA (As := []) (rest := []) (ws2 := (LW cy cs w0 w1 t0 t1 w2 mm iK n 0 fv dz (afF (tg n) (dx 0) (df 0) (dg 0) (de 0)) (d0, M, L, fu, fn) (dk, Mk, Lk, uk, gk) (dx, Mx, Lx, ux, gx) (df, Mf, Lf, uf, gf) (dg, Mg, Lg, ug, gg) (de, Me, Le, ue, ge) M Hs Sh tx hd me wk fr n iK ty)) (c_X5_clearText l D cy cs w0 w1 w2 t0 (d0 0) (dk 0) 0 0 0 0 0 0 0 0 0 0 0 iK n 0 (fun _ => 0) t1 ty (by first | assumption | omega)) (cwV 0 C.2.2.2.2 gL_law_X5_clearText rfl rfl rfl (by decide +kernel) ⟨Nat.le_of_ble_eq_true rfl, Nat.le_of_ble_eq_true rfl⟩) [0, 74] rfl rfl rfl ⟨rfl, [1, 2, 3, 4, 5, 6, 7, 8, 9, 10, 11, 12, 13, 14, 15, 16, 17, 18, 19, 20, 21, 22, 23, 24, 25, 26, 27, 28, 29, 30, 31, 32, 33, 34, 35, 36, 37, 38, 39, 40, 41, 42, 43, 44, 45, 46, 47, 48, 49, 50, 51, 52, 53, 54, 55, 56, 57, 58, 59, 60, 61, 62, 63, 64, 65, 66, 67, 68, 69, 70, 71, 72, 73, 75, 76, 77, 78, 79, 80, 81, 82, 83, 84, 85], ([zR cs w1 4 (afF (tg n) (dx 0) (df 0) (dg 0) (de 0))] ++ (bkW cy (d0, M, L, fu, fn) ++ (bkW cy (dk, Mk, Lk, uk, gk) ++ (bkW cy (dx, Mx, Lx, ux, gx) ++ (bkW cy (df, Mf, Lf, uf, gf) ++ (bkW cy (dg, Mg, Lg, ug, gg) ++ (bkW cy (de, Me, Le, ue, ge) ++ ([zA cy t1 60 fv, zA cy w2 32 dz, zO (mm 0) 6 [.ref (mm 1), .ref (mm 2), .int (iI n), .ref (mm 3), .int (iI iK), .ref (mm 4), .int (iI ty), .ref (mm 5), .ref (mm 6), .ref (mm 7), .ref (mm 8)], zA cy (mm 1) 780 M, zA cy (mm 2) 3120 Hs, zA cy (mm 3) 780 Sh, zA cy (mm 4) 60 tx, zA cy (mm 5) 3 hd, zA cy (mm 6) 32 me, zA cy (mm 7) 96 wk, zA cy (mm 8) 32 fr])))))))), 86, rfl, rfl, rfl, by decide +kernel⟩ rfl rfl rfl rfl (Nat.le_of_ble_eq_true rfl) hl.1 dL_law_414 ⟨Nat.le_of_ble_eq_true rfl, Nat.le_of_ble_eq_true rfl⟩ (fun H locs wd => ?_)
  refine lv_aload_n C.1 C.2.1 dL_law_417 rfl (lv_at hl 2 rfl) ?_
  refine z_cvi C wd hA (As := []) (rest := [.int (iI ty)]) (ws2 := (LW cy cs w0 w1 t0 t1 w2 mm iK n 0 fv dz (afF (tg n) (dx 0) (df 0) (dg 0) (de 0)) (d0, M, L, fu, fn) (dk, Mk, Lk, uk, gk) (dx, Mx, Lx, ux, gx) (df, Mf, Lf, uf, gf) (dg, Mg, Lg, ug, gg) (de, Me, Le, ue, ge) M Hs Sh tx hd me wk fr n iK 0)) (c_X6_clearText l D cy cs (mm 0) (mm 1) (mm 2) (mm 3) (mm 4) (mm 5) (mm 6) (mm 7) (mm 8) n iK ty (fun _ => 0) (by first | assumption | omega)) (cwV 0 C.2.2.2.2 gL_law_X6_clearText rfl rfl rfl (by decide +kernel) ⟨Nat.le_of_ble_eq_true rfl, Nat.le_of_ble_eq_true rfl⟩) [77] rfl rfl rfl ⟨rfl, [0, 1, 2, 3, 4, 5, 6, 7, 8, 9, 10, 11, 12, 13, 14, 15, 16, 17, 18, 19, 20, 21, 22, 23, 24, 25, 26, 27, 28, 29, 30, 31, 32, 33, 34, 35, 36, 37, 38, 39, 40, 41, 42, 43, 44, 45, 46, 47, 48, 49, 50, 51, 52, 53, 54, 55, 56, 57, 58, 59, 60, 61, 62, 63, 64, 65, 66, 67, 68, 69, 70, 71, 72, 73, 74, 75, 76, 78, 79, 80, 81, 82, 83, 84, 85], ([zO w0 5 [.ref (d0 0), .ref (dk 0), .int (iI iK), .ref w1, .int (iI n), .ref t0, .ref w2], zR cs w1 4 (afF (tg n) (dx 0) (df 0) (dg 0) (de 0))] ++ (bkW cy (d0, M, L, fu, fn) ++ (bkW cy (dk, Mk, Lk, uk, gk) ++ (bkW cy (dx, Mx, Lx, ux, gx) ++ (bkW cy (df, Mf, Lf, uf, gf) ++ (bkW cy (dg, Mg, Lg, ug, gg) ++ (bkW cy (de, Me, Le, ue, ge) ++ ([zO t0 4 [.int (iI 0), .ref t1], zA cy t1 60 fv, zA cy w2 32 dz, zA cy (mm 1) 780 M, zA cy (mm 2) 3120 Hs, zA cy (mm 3) 780 Sh, zA cy (mm 4) 60 tx, zA cy (mm 5) 3 hd, zA cy (mm 6) 32 me, zA cy (mm 7) 96 wk, zA cy (mm 8) 32 fr])))))))), 86, rfl, rfl, rfl, by decide +kernel⟩ rfl rfl rfl rfl (Nat.le_of_ble_eq_true rfl) hl.1 dL_law_418 ⟨Nat.le_of_ble_eq_true rfl, Nat.le_of_ble_eq_true rfl⟩ (fun H locs wd => ?_)
  refine z_same C (tgt := 718) rfl dL_law_421 (by decide) ?_
  exact NX iK n 0 fv dz Hs Sh tx hd me wk fr (d0, M, L, fu, fn) (dk, Mk, Lk, uk, gk) (dx, Mx, Lx, ux, gx) (df, Mf, Lf, uf, gf) (dg, Mg, Lg, ug, gg) (de, Me, Le, ue, ge) ⟨hn, hiK, txR_0 htxr, hhd, ⟨vB, vK⟩, ⟨vX, vF, vG, vE⟩, hh⟩ H locs ls hl wd
set_option maxRecDepth 100000 in
set_option maxHeartbeats 20000000 in
theorem lf_keep {p : Program} {l : Launch} {e : Env} {s : State} {m : MethodId} {below : List Frame} {meth : Method} {c : Code} {D : va_G} {b Ls : Nat} {xs : Nat → Int32} {cy cs : ClassId} {w0 w1 t0 t1 w2 : Nat} {mm : Nat → Nat} {i : Int} (C : CallFix p m c cL_law 4 s #[Value.ref b] wsL_law RL) (hX : va_X b Ls xs s s.heap) (hbl : b < s.heap.size) (hLs : Ls ≤ 2560) (hi : 0 ≤ i ∧ i + 5 ≤ (Ls : Int)) (NX : lNX p l e s m below meth c b D cy cs w0 w1 t0 t1 w2 mm i 718) : lNX p l e s m below meth c b D cy cs w0 w1 t0 t1 w2 mm i 439 := by
  intro iK n ty fv dz Hs Sh tx hd me wk fr B K X F G E hI H locs ls hl wd
  obtain ⟨d0, M, L, fu, fn⟩ := B
  obtain ⟨dk, Mk, Lk, uk, gk⟩ := K
  obtain ⟨dx, Mx, Lx, ux, gx⟩ := X
  obtain ⟨df, Mf, Lf, uf, gf⟩ := F
  obtain ⟨dg, Mg, Lg, ug, gg⟩ := G
  obtain ⟨de, Me, Le, ue, ge⟩ := E
  obtain ⟨hn, hiK, htxr, hhd, ⟨vB, vK⟩, ⟨vX, vF, vG, vE⟩, hh⟩ := hI
  have hvB : vO M L fu := vB
  obtain ⟨hrk, hm, ho, ht, h5, h9, h10, hme, hme2, hwk, hbs⟩ := vO_all hvB
  obtain ⟨hwr, huf, hu, hso, hoT, hE, h8e, hL, hL2, h7, hln, hlt, h8⟩ := vO_all2 hvB
  obtain ⟨hli, hli2, hwa, hwa2, hb1, hb1a, hb2, hb2a⟩ := vO_all3 hvB
  have h572 := vO_572 hvB
  have e572 : sl M 572 0 = M 572 := rfl
  have hp := p2_all hm.1 hm.2
  obtain ⟨hty, hfv, htx, hrel⟩ := id htxr
  have hff1 : ff (fun z9 => vc (tx z9)) ty (1 + 0) = ff fv ty 1 := (ff_cong hty.1 hrel).symm
  have hff2 : ff (fun z9 => vc (tx z9)) ty (1 + 1) = ff fv ty 2 := (ff_cong hty.1 hrel).symm
  have hfl1 := ff_le (f := fv) (hi := 1) hty
  have hfl2 := ff_le (f := fv) (hi := 2) hty
  have hbA : ¬ (fun q : Nat => s.heap.size ≤ q) b := Nat.not_le.mpr hbl
  have hA : ∀ q : Nat, s.heap.size ≤ q → (fun q : Nat => s.heap.size ≤ q) q := fun _ h => h
  have wd : Wd D (zT cy cs) (fun q : Nat => s.heap.size ≤ q) s.heap s (LW cy cs w0 w1 t0 t1 w2 mm iK n ty fv dz (afF (tg n) (dx 0) (df 0) (dg 0) (de 0)) (d0, M, L, fu, fn) (dk, Mk, Lk, uk, gk) (dx, Mx, Lx, ux, gx) (df, Mf, Lf, uf, gf) (dg, Mg, Lg, ug, gg) (de, Me, Le, ue, ge) M Hs Sh tx hd me wk fr n iK ty) H locs := wd
  unfold lG
  refine lv_aload_n C.1 C.2.1 dL_law_439 rfl (lv_at hl 1 rfl) ?_
  refine z_cvi C wd hA (As := []) (rest := []) (ws2 := (LW cy cs w0 w1 t0 t1 w2 mm 1 n ty fv dz (afF (tg n) (dx 0) (df 0) (dg 0) (de 0)) (d0, M, L, fu, fn) (dk, M, L, fu, gk) (dx, Mx, Lx, ux, gx) (df, Mf, Lf, uf, gf) (dg, Mg, Lg, ug, gg) (de, Me, Le, ue, ge) M Hs Sh tx hd me wk fr n iK ty)) (c_X5_keep l D cy cs w0 w1 w2 t0 iK n (d0 0) (d0 1) (d0 2) (d0 3) (d0 4) (d0 5) (d0 6) (d0 7) (d0 8) (d0 9) (d0 10) (d0 11) L M fu fn (dk 0) (dk 1) (dk 2) (dk 3) (dk 4) (dk 5) (dk 6) (dk 7) (dk 8) (dk 9) (dk 10) (dk 11) Lk Mk uk gk (by first | assumption | omega) (by first | assumption | omega) (by first | assumption | omega)) (cwV 0 C.2.2.2.2 gL_law_X5_keep rfl rfl rfl (by decide +kernel) ⟨Nat.le_of_ble_eq_true rfl, Nat.le_of_ble_eq_true rfl⟩) [0, 2, 3, 4, 5, 6, 7, 8, 9, 10, 11, 12, 13, 14, 15, 16, 17, 18, 19, 20, 21, 22, 23, 24, 25] rfl rfl rfl ⟨rfl, [1, 26, 27, 28, 29, 30, 31, 32, 33, 34, 35, 36, 37, 38, 39, 40, 41, 42, 43, 44, 45, 46, 47, 48, 49, 50, 51, 52, 53, 54, 55, 56, 57, 58, 59, 60, 61, 62, 63, 64, 65, 66, 67, 68, 69, 70, 71, 72, 73, 74, 75, 76, 77, 78, 79, 80, 81, 82, 83, 84, 85], ([zR cs w1 4 (afF (tg n) (dx 0) (df 0) (dg 0) (de 0))] ++ (bkW cy (dx, Mx, Lx, ux, gx) ++ (bkW cy (df, Mf, Lf, uf, gf) ++ (bkW cy (dg, Mg, Lg, ug, gg) ++ (bkW cy (de, Me, Le, ue, ge) ++ ([zO t0 4 [.int (iI ty), .ref t1], zA cy t1 60 fv, zA cy w2 32 dz, zO (mm 0) 6 [.ref (mm 1), .ref (mm 2), .int (iI n), .ref (mm 3), .int (iI iK), .ref (mm 4), .int (iI ty), .ref (mm 5), .ref (mm 6), .ref (mm 7), .ref (mm 8)], zA cy (mm 1) 780 M, zA cy (mm 2) 3120 Hs, zA cy (mm 3) 780 Sh, zA cy (mm 4) 60 tx, zA cy (mm 5) 3 hd, zA cy (mm 6) 32 me, zA cy (mm 7) 96 wk, zA cy (mm 8) 32 fr])))))), 86, rfl, rfl, rfl, by decide +kernel⟩ rfl rfl rfl rfl (Nat.le_of_ble_eq_true rfl) hl.1 dL_law_440 ⟨Nat.le_of_ble_eq_true rfl, Nat.le_of_ble_eq_true rfl⟩ (fun H locs wd => ?_)
  refine lv_aload_n C.1 C.2.1 dL_law_443 rfl (lv_at hl 2 rfl) ?_
  refine z_cvi C wd hA (As := []) (rest := [.int (iI (M 7))]) (ws2 := (LW cy cs w0 w1 t0 t1 w2 mm 1 n ty fv dz (afF (tg n) (dx 0) (df 0) (dg 0) (de 0)) (d0, M, L, fu, fn) (dk, M, L, fu, gk) (dx, Mx, Lx, ux, gx) (df, Mf, Lf, uf, gf) (dg, Mg, Lg, ug, gg) (de, Me, Le, ue, ge) M Hs M tx hd me wk fr n 1 ty)) (c_X6_keep l D cy cs (mm 0) (mm 1) (mm 2) (mm 3) (mm 4) (mm 5) (mm 6) (mm 7) (mm 8) n iK ty M Sh ) (cwV 0 C.2.2.2.2 gL_law_X6_keep rfl rfl rfl (by decide +kernel) ⟨Nat.le_of_ble_eq_true rfl, Nat.le_of_ble_eq_true rfl⟩) [77, 78, 80] rfl rfl rfl ⟨rfl, [0, 1, 2, 3, 4, 5, 6, 7, 8, 9, 10, 11, 12, 13, 14, 15, 16, 17, 18, 19, 20, 21, 22, 23, 24, 25, 26, 27, 28, 29, 30, 31, 32, 33, 34, 35, 36, 37, 38, 39, 40, 41, 42, 43, 44, 45, 46, 47, 48, 49, 50, 51, 52, 53, 54, 55, 56, 57, 58, 59, 60, 61, 62, 63, 64, 65, 66, 67, 68, 69, 70, 71, 72, 73, 74, 75, 76, 79, 81, 82, 83, 84, 85], ([zO w0 5 [.ref (d0 0), .ref (dk 0), .int (iI 1), .ref w1, .int (iI n), .ref t0, .ref w2], zR cs w1 4 (afF (tg n) (dx 0) (df 0) (dg 0) (de 0))] ++ (bkW cy (d0, M, L, fu, fn) ++ (bkW cy (dk, M, L, fu, gk) ++ (bkW cy (dx, Mx, Lx, ux, gx) ++ (bkW cy (df, Mf, Lf, uf, gf) ++ (bkW cy (dg, Mg, Lg, ug, gg) ++ (bkW cy (de, Me, Le, ue, ge) ++ ([zO t0 4 [.int (iI ty), .ref t1], zA cy t1 60 fv, zA cy w2 32 dz, zA cy (mm 2) 3120 Hs, zA cy (mm 4) 60 tx, zA cy (mm 5) 3 hd, zA cy (mm 6) 32 me, zA cy (mm 7) 96 wk, zA cy (mm 8) 32 fr])))))))), 86, rfl, rfl, rfl, by decide +kernel⟩ rfl rfl rfl rfl (Nat.le_of_ble_eq_true rfl) hl.1 dL_law_444 ⟨Nat.le_of_ble_eq_true rfl, Nat.le_of_ble_eq_true rfl⟩ (fun H locs wd => ?_)
  refine z_same C (tgt := 718) rfl dL_law_447 (by decide) ?_
  exact NX 1 n ty fv dz Hs M tx hd me wk fr (d0, M, L, fu, fn) (dk, M, L, fu, gk) (dx, Mx, Lx, ux, gx) (df, Mf, Lf, uf, gf) (dg, Mg, Lg, ug, gg) (de, Me, Le, ue, ge) ⟨hn, Or.inr ⟨rfl, fun _ _ _ => rfl⟩, htxr, hhd, ⟨vB, hvB⟩, ⟨vX, vF, vG, vE⟩, hh⟩ H locs ls hl wd
