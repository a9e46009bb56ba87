set_option maxRecDepth 100000 in
set_option maxHeartbeats 20000000 in
theorem lf_survivor {p : Program} {l : Launch} {e : Env} {s : State} {m : MethodId} {below : List Frame} {meth : Method} {c : Code} {D : va_G} {b Ls : Nat} {xs : Nat → Int32} {cy cs : ClassId} {w0 w1 t0 t1 w2 : Nat} {mm : Nat → Nat} {i : Int} (C : CallFix p m c cL_law 4 s #[Value.ref b] wsL_law RL) (hX : va_X b Ls xs s s.heap) (hbl : b < s.heap.size) (hLs : Ls ≤ 2560) (hi : 0 ≤ i ∧ i + 5 ≤ (Ls : Int)) (NX : lNX p l e s m below meth c b D cy cs w0 w1 t0 t1 w2 mm i 718) : lNX p l e s m below meth c b D cy cs w0 w1 t0 t1 w2 mm i 610 := by
  intro iK n ty fv dz Hs Sh tx hd me wk fr B K X F G E hI H locs ls hl wd
  obtain ⟨d0, M, L, fu, fn⟩ := B
  obtain ⟨dk, Mk, Lk, uk, gk⟩ := K
  obtain ⟨dx, Mx, Lx, ux, gx⟩ := X
  obtain ⟨df, Mf, Lf, uf, gf⟩ := F
  obtain ⟨dg, Mg, Lg, ug, gg⟩ := G
  obtain ⟨de, Me, Le, ue, ge⟩ := E
  obtain ⟨hn, hiK, htxr, hhd, ⟨vB, vK⟩, ⟨vX, vF, vG, vE⟩, hh⟩ := hI
  have hvB : vO M L fu := vB
  obtain ⟨hrk, hm, ho, ht, h5, h9, h10, hme, hme2, hwk, hbs⟩ := vO_all hvB
  obtain ⟨hwr, huf, hu, hso, hoT, hE, h8e, hL, hL2, h7, hln, hlt, h8⟩ := vO_all2 hvB
  obtain ⟨hli, hli2, hwa, hwa2, hb1, hb1a, hb2, hb2a⟩ := vO_all3 hvB
  have h572 := vO_572 hvB
  have e572 : sl M 572 0 = M 572 := rfl
  have hp := p2_all hm.1 hm.2
  obtain ⟨hty, hfv, htx, hrel⟩ := id htxr
  have hff1 : ff (fun z9 => vc (tx z9)) ty (1 + 0) = ff fv ty 1 := (ff_cong hty.1 hrel).symm
  have hff2 : ff (fun z9 => vc (tx z9)) ty (1 + 1) = ff fv ty 2 := (ff_cong hty.1 hrel).symm
  have hfl1 := ff_le (f := fv) (hi := 1) hty
  have hfl2 := ff_le (f := fv) (hi := 2) hty
  have hbA : ¬ (fun q : Nat => s.heap.size ≤ q) b := Nat.not_le.mpr hbl
  have hA : ∀ q : Nat, s.heap.size ≤ q → (fun q : Nat => s.heap.size ≤ q) q := fun _ h => h
  have wd : Wd D (zT cy cs) (fun q : Nat => s.heap.size ≤ q) s.heap s (LW cy cs w0 w1 t0 t1 w2 mm iK n ty fv dz (afF (tg n) (dx 0) (df 0) (dg 0) (de 0)) (d0, M, L, fu, fn) (dk, Mk, Lk, uk, gk) (dx, Mx, Lx, ux, gx) (df, Mf, Lf, uf, gf) (dg, Mg, Lg, ug, gg) (de, Me, Le, ue, ge) M Hs Sh tx hd me wk fr n iK ty) H locs := wd
  obtain ⟨v1, hv1⟩ : ∃ v, (xs (i + 1).toNat).toInt = v := ⟨_, rfl⟩
  have hr1 := iI_rng (xs (i + 1).toNat)
  rw [hv1] at hr1
  obtain ⟨v2, hv2⟩ : ∃ v, (xs (i + 2).toNat).toInt = v := ⟨_, rfl⟩
  have hr2 := iI_rng (xs (i + 2).toNat)
  rw [hv2] at hr2
  unfold lG
  refine lv_aload_n C.1 C.2.1 dL_law_610 rfl (lv_at hl 1 rfl) ?_
  refine lv_aload_n C.1 C.2.1 dL_law_611 rfl (lv_at hl 0 rfl) ?_
  refine lv_iload_n C.1 C.2.1 dL_law_612 rfl (lv_at hl 3 rfl) ?_
  refine z_iconst C dL_law_613 ?_
  refine z_iadd C dL_law_614 ?_
  refine z_sld C wd hX hbl hbA (v := v1) (by omega) hLs hv1 dL_law_615 ?_
  refine lv_aload_n C.1 C.2.1 dL_law_616 rfl (lv_at hl 0 rfl) ?_
  refine lv_iload_n C.1 C.2.1 dL_law_617 rfl (lv_at hl 3 rfl) ?_
  refine z_iconst C dL_law_618 ?_
  refine z_iadd C dL_law_619 ?_
  refine z_sld C wd hX hbl hbA (v := v2) (by omega) hLs hv2 dL_law_620 ?_
  refine z_cvi C wd hA (As := [.int (iI v1), .int (iI v2)]) (rest := []) (ws2 := (LW cy cs w0 w1 t0 t1 w2 mm iK n ty fv dz (afF (tg n) (dx 0) (df 0) (dg 0) (de 0)) (d0, M, L, fu, fn) (dk, Mk, Lk, uk, gk) (dx, Mx, Lx, ux, gx) (df, Mf, Lf, uf, gf) (dg, Mg, Lg, ug, gg) (de, Me, Le, ue, ge) M Hs Sh tx hd me wk fr n iK ty)) (c_X5_survivor l D cy cs w0 w1 w2 t0 (d0 0) (dk 0) (d0 1) (d0 2) (d0 3) 0 0 0 (d0 7) (d0 8) (d0 9) (d0 10) (d0 11) iK n L M fu v1 v2 (by first | assumption | omega) (by first | assumption | omega) (by first | assumption | omega) (by first | assumption | omega) (by first | assumption | omega) (by first | assumption | omega)) (cwV 2 C.2.2.2.2 gL_law_X5_survivor rfl rfl rfl (by decide +kernel) ⟨Nat.le_of_ble_eq_true rfl, Nat.le_of_ble_eq_true rfl⟩) [0, 2, 3, 9, 11, 13] rfl rfl rfl ⟨rfl, [1, 4, 5, 6, 7, 8, 10, 12, 14, 15, 16, 17, 18, 19, 20, 21, 22, 23, 24, 25, 26, 27, 28, 29, 30, 31, 32, 33, 34, 35, 36, 37, 38, 39, 40, 41, 42, 43, 44, 45, 46, 47, 48, 49, 50, 51, 52, 53, 54, 55, 56, 57, 58, 59, 60, 61, 62, 63, 64, 65, 66, 67, 68, 69, 70, 71, 72, 73, 74, 75, 76, 77, 78, 79, 80, 81, 82, 83, 84, 85], ([zR cs w1 4 (afF (tg n) (dx 0) (df 0) (dg 0) (de 0)), zA cy (d0 2) 3 (sl M 2), zO (d0 3) 2 [.int (iI (M 6)), .int (iI (M 7)), .ref (d0 4), .ref (d0 5), .ref (d0 6)], zA cy (d0 4) 80 (sl M 12), zA cy (d0 5) 240 (sl M 92), zA cy (d0 6) 240 (sl M 332), zA cy (d0 8) 80 (sl M 604), zA cy (d0 10) 32 fn] ++ (bkW cy (dk, Mk, Lk, uk, gk) ++ (bkW cy (dx, Mx, Lx, ux, gx) ++ (bkW cy (df, Mf, Lf, uf, gf) ++ (bkW cy (dg, Mg, Lg, ug, gg) ++ (bkW cy (de, Me, Le, ue, ge) ++ ([zO t0 4 [.int (iI ty), .ref t1], zA cy t1 60 fv, zA cy w2 32 dz, zO (mm 0) 6 [.ref (mm 1), .ref (mm 2), .int (iI n), .ref (mm 3), .int (iI iK), .ref (mm 4), .int (iI ty), .ref (mm 5), .ref (mm 6), .ref (mm 7), .ref (mm 8)], zA cy (mm 1) 780 M, zA cy (mm 2) 3120 Hs, zA cy (mm 3) 780 Sh, zA cy (mm 4) 60 tx, zA cy (mm 5) 3 hd, zA cy (mm 6) 32 me, zA cy (mm 7) 96 wk, zA cy (mm 8) 32 fr]))))))), 86, rfl, rfl, rfl, by decide +kernel⟩ rfl rfl rfl rfl (Nat.le_of_ble_eq_true rfl) hl.1 dL_law_621 ⟨Nat.le_of_ble_eq_true rfl, Nat.le_of_ble_eq_true rfl⟩ (fun H locs wd => ?_)
  refine lv_aload_n C.1 C.2.1 dL_law_624 rfl (lv_at hl 2 rfl) ?_
  refine lv_aload_n C.1 C.2.1 dL_law_625 rfl (lv_at hl 0 rfl) ?_
  refine lv_iload_n C.1 C.2.1 dL_law_626 rfl (lv_at hl 3 rfl) ?_
  refine z_iconst C dL_law_627 ?_
  refine z_iadd C dL_law_628 ?_
  refine z_sld C wd hX hbl hbA (v := v1) (by omega) hLs hv1 dL_law_629 ?_
  refine lv_aload_n C.1 C.2.1 dL_law_630 rfl (lv_at hl 0 rfl) ?_
  refine lv_iload_n C.1 C.2.1 dL_law_631 rfl (lv_at hl 3 rfl) ?_
  refine z_iconst C dL_law_632 ?_
  refine z_iadd C dL_law_633 ?_
  refine z_sld C wd hX hbl hbA (v := v2) (by omega) hLs hv2 dL_law_634 ?_
  refine z_cvi C wd hA (As := [.int (iI v1), .int (iI v2)]) (rest := [.int (iI (rdSur M fu v1 v2))]) (ws2 := (LW cy cs w0 w1 t0 t1 w2 mm iK n ty fv dz (afF (tg n) (dx 0) (df 0) (dg 0) (de 0)) (d0, M, L, fu, fn) (dk, Mk, Lk, uk, gk) (dx, Mx, Lx, ux, gx) (df, Mf, Lf, uf, gf) (dg, Mg, Lg, ug, gg) (de, Me, Le, ue, ge) M Hs Sh tx hd me wk fr n iK ty)) (c_X6_survivor l D cy cs (mm 0) (mm 1) (mm 2) (mm 3) (mm 4) (mm 5) (mm 6) (mm 7) (mm 8) n iK ty M v1 v2 (by first | assumption | omega) (by first | assumption | omega) (by first | assumption | omega) (by first | assumption | omega) (by first | assumption | omega) (by first | assumption | omega)) (cwV 2 C.2.2.2.2 gL_law_X6_survivor rfl rfl rfl (by decide +kernel) ⟨Nat.le_of_ble_eq_true rfl, Nat.le_of_ble_eq_true rfl⟩) [77, 78] rfl rfl rfl ⟨rfl, [0, 1, 2, 3, 4, 5, 6, 7, 8, 9, 10, 11, 12, 13, 14, 15, 16, 17, 18, 19, 20, 21, 22, 23, 24, 25, 26, 27, 28, 29, 30, 31, 32, 33, 34, 35, 36, 37, 38, 39, 40, 41, 42, 43, 44, 45, 46, 47, 48, 49, 50, 51, 52, 53, 54, 55, 56, 57, 58, 59, 60, 61, 62, 63, 64, 65, 66, 67, 68, 69, 70, 71, 72, 73, 74, 75, 76, 79, 80, 81, 82, 83, 84, 85], ([zO w0 5 [.ref (d0 0), .ref (dk 0), .int (iI iK), .ref w1, .int (iI n), .ref t0, .ref w2], zR cs w1 4 (afF (tg n) (dx 0) (df 0) (dg 0) (de 0))] ++ (bkW cy (d0, M, L, fu, fn) ++ (bkW cy (dk, Mk, Lk, uk, gk) ++ (bkW cy (dx, Mx, Lx, ux, gx) ++ (bkW cy (df, Mf, Lf, uf, gf) ++ (bkW cy (dg, Mg, Lg, ug, gg) ++ (bkW cy (de, Me, Le, ue, ge) ++ ([zO t0 4 [.int (iI ty), .ref t1], zA cy t1 60 fv, zA cy w2 32 dz, zA cy (mm 2) 3120 Hs, zA cy (mm 3) 780 Sh, zA cy (mm 4) 60 tx, zA cy (mm 5) 3 hd, zA cy (mm 6) 32 me, zA cy (mm 7) 96 wk, zA cy (mm 8) 32 fr])))))))), 86, rfl, rfl, rfl, by decide +kernel⟩ rfl rfl rfl rfl (Nat.le_of_ble_eq_true rfl) hl.1 dL_law_635 ⟨Nat.le_of_ble_eq_true rfl, Nat.le_of_ble_eq_true rfl⟩ (fun H locs wd => ?_)
  refine z_same C (tgt := 718) (sur_eq hwr) dL_law_638 (by decide) ?_
  exact NX iK n ty fv dz Hs Sh tx hd me wk fr (d0, M, L, fu, fn) (dk, Mk, Lk, uk, gk) (dx, Mx, Lx, ux, gx) (df, Mf, Lf, uf, gf) (dg, Mg, Lg, ug, gg) (de, Me, Le, ue, ge) ⟨hn, hiK, htxr, hhd, ⟨vB, vK⟩, ⟨vX, vF, vG, vE⟩, hh⟩ H locs ls hl wd
set_option maxRecDepth 100000 in
set_option maxHeartbeats 20000000 in
theorem lf_agreed {p : Program} {l : Launch} {e : Env} {s : State} {m : MethodId} {below : List Frame} {meth : Method} {c : Code} {D : va_G} {b Ls : Nat} {xs : Nat → Int32} {cy cs : ClassId} {w0 w1 t0 t1 w2 : Nat} {mm : Nat → Nat} {i : Int} (C : CallFix p m c cL_law 4 s #[Value.ref b] wsL_law RL) (hX : va_X b Ls xs s s.heap) (hbl : b < s.heap.size) (hLs : Ls ≤ 2560) (hi : 0 ≤ i ∧ i + 5 ≤ (Ls : Int)) (NX : lNX p l e s m below meth c b D cy cs w0 w1 t0 t1 w2 mm i 718) : lNX p l e s m below meth c b D cy cs w0 w1 t0 t1 w2 mm i 643 := by
  intro iK n ty fv dz Hs Sh tx hd me wk fr B K X F G E hI H locs ls hl wd
  obtain ⟨d0, M, L, fu, fn⟩ := B
  obtain ⟨dk, Mk, Lk, uk, gk⟩ := K
  obtain ⟨dx, Mx, Lx, ux, gx⟩ := X
  obtain ⟨df, Mf, Lf, uf, gf⟩ := F
  obtain ⟨dg, Mg, Lg, ug, gg⟩ := G
  obtain ⟨de, Me, Le, ue, ge⟩ := E
  obtain ⟨hn, hiK, htxr, hhd, ⟨vB, vK⟩, ⟨vX, vF, vG, vE⟩, hh⟩ := hI
  have hvB : vO M L fu := vB
  obtain ⟨hrk, hm, ho, ht, h5, h9, h10, hme, hme2, hwk, hbs⟩ := vO_all hvB
  obtain ⟨hwr, huf, hu, hso, hoT, hE, h8e, hL, hL2, h7, hln, hlt, h8⟩ := vO_all2 hvB
  obtain ⟨hli, hli2, hwa, hwa2, hb1, hb1a, hb2, hb2a⟩ := vO_all3 hvB
  have h572 := vO_572 hvB
  have e572 : sl M 572 0 = M 572 := rfl
  have hp := p2_all hm.1 hm.2
  obtain ⟨hty, hfv, htx, hrel⟩ := id htxr
  have hff1 : ff (fun z9 => vc (tx z9)) ty (1 + 0) = ff fv ty 1 := (ff_cong hty.1 hrel).symm
  have hff2 : ff (fun z9 => vc (tx z9)) ty (1 + 1) = ff fv ty 2 := (ff_cong hty.1 hrel).symm
  have hfl1 := ff_le (f := fv) (hi := 1) hty
  have hfl2 := ff_le (f := fv) (hi := 2) hty
  have hbA : ¬ (fun q : Nat => s.heap.size ≤ q) b := Nat.not_le.mpr hbl
  have hA : ∀ q : Nat, s.heap.size ≤ q → (fun q : Nat => s.heap.size ≤ q) q := fun _ h => h
  have wd : Wd D (zT cy cs) (fun q : Nat => s.heap.size ≤ q) s.heap s (LW cy cs w0 w1 t0 t1 w2 mm iK n ty fv dz (afF (tg n) (dx 0) (df 0) (dg 0) (de 0)) (d0, M, L, fu, fn) (dk, Mk, Lk, uk, gk) (dx, Mx, Lx, ux, gx) (df, Mf, Lf, uf, gf) (dg, Mg, Lg, ug, gg) (de, Me, Le, ue, ge) M Hs Sh tx hd me wk fr n iK ty) H locs := wd
  unfold lG
  refine lv_aload_n C.1 C.2.1 dL_law_643 rfl (lv_at hl 1 rfl) ?_
  refine z_cvi C wd hA (As := []) (rest := []) (ws2 := (LW cy cs w0 w1 t0 t1 w2 mm iK n ty fv dz (afF (tg n) (dx 0) (df 0) (dg 0) (de 0)) (d0, M, L, fu, fn) (dk, Mk, Lk, uk, gk) (dx, Mx, Lx, ux, gx) (df, Mf, Lf, uf, gf) (dg, Mg, Lg, ug, gg) (de, Me, Le, ue, ge) M Hs Sh tx hd me wk fr n iK ty)) (c_X5_agreed l D cy cs w0 w1 w2 t0 (d0 0) (dk 0) (d0 1) (d0 2) (d0 3) 0 0 0 (d0 7) (d0 8) (d0 9) (d0 10) (d0 11) iK n L M fu (by first | assumption | omega) (by first | assumption | omega) (by first | assumption | omega) (by first | assumption | omega) (by first | assumption | omega)) (cwV 0 C.2.2.2.2 gL_law_X5_agreed rfl rfl rfl (by decide +kernel) ⟨Nat.le_of_ble_eq_true rfl, Nat.le_of_ble_eq_true rfl⟩) [0, 2, 3, 9, 11, 13] rfl rfl rfl ⟨rfl, [1, 4, 5, 6, 7, 8, 10, 12, 14, 15, 16, 17, 18, 19, 20, 21, 22, 23, 24, 25, 26, 27, 28, 29, 30, 31, 32, 33, 34, 35, 36, 37, 38, 39, 40, 41, 42, 43, 44, 45, 46, 47, 48, 49, 50, 51, 52, 53, 54, 55, 56, 57, 58, 59, 60, 61, 62, 63, 64, 65, 66, 67, 68, 69, 70, 71, 72, 73, 74, 75, 76, 77, 78, 79, 80, 81, 82, 83, 84, 85], ([zR cs w1 4 (afF (tg n) (dx 0) (df 0) (dg 0) (de 0)), zA cy (d0 2) 3 (sl M 2), zO (d0 3) 2 [.int (iI (M 6)), .int (iI (M 7)), .ref (d0 4), .ref (d0 5), .ref (d0 6)], zA cy (d0 4) 80 (sl M 12), zA cy (d0 5) 240 (sl M 92), zA cy (d0 6) 240 (sl M 332), zA cy (d0 8) 80 (sl M 604), zA cy (d0 10) 32 fn] ++ (bkW cy (dk, Mk, Lk, uk, gk) ++ (bkW cy (dx, Mx, Lx, ux, gx) ++ (bkW cy (df, Mf, Lf, uf, gf) ++ (bkW cy (dg, Mg, Lg, ug, gg) ++ (bkW cy (de, Me, Le, ue, ge) ++ ([zO t0 4 [.int (iI ty), .ref t1], zA cy t1 60 fv, zA cy w2 32 dz, zO (mm 0) 6 [.ref (mm 1), .ref (mm 2), .int (iI n), .ref (mm 3), .int (iI iK), .ref (mm 4), .int (iI ty), .ref (mm 5), .ref (mm 6), .ref (mm 7), .ref (mm 8)], zA cy (mm 1) 780 M, zA cy (mm 2) 3120 Hs, zA cy (mm 3) 780 Sh, zA cy (mm 4) 60 tx, zA cy (mm 5) 3 hd, zA cy (mm 6) 32 me, zA cy (mm 7) 96 wk, zA cy (mm 8) 32 fr]))))))), 86, rfl, rfl, rfl, by decide +kernel⟩ rfl rfl rfl rfl (Nat.le_of_ble_eq_true rfl) hl.1 dL_law_644 ⟨Nat.le_of_ble_eq_true rfl, Nat.le_of_ble_eq_true rfl⟩ (fun H locs wd => ?_)
  refine lv_aload_n C.1 C.2.1 dL_law_647 rfl (lv_at hl 2 rfl) ?_
  refine z_cvi C wd hA (As := []) (rest := [.int (iI (agC (M 0) (M 9) (sl M 572) fu))]) (ws2 := (LW cy cs w0 w1 t0 t1 w2 mm iK n ty fv dz (afF (tg n) (dx 0) (df 0) (dg 0) (de 0)) (d0, M, L, fu, fn) (dk, Mk, Lk, uk, gk) (dx, Mx, Lx, ux, gx) (df, Mf, Lf, uf, gf) (dg, Mg, Lg, ug, gg) (de, Me, Le, ue, ge) M Hs Sh tx hd me wk fr n iK ty)) (c_X6_agreed l D cy cs (mm 0) (mm 1) (mm 2) (mm 3) (mm 4) (mm 5) (mm 6) (mm 7) (mm 8) n iK ty M (by first | assumption | omega) (by first | assumption | omega) (by first | assumption | omega) (by first | assumption | omega) (by first | assumption | omega)) (cwV 0 C.2.2.2.2 gL_law_X6_agreed rfl rfl rfl (by decide +kernel) ⟨Nat.le_of_ble_eq_true rfl, Nat.le_of_ble_eq_true rfl⟩) [77, 78] rfl rfl rfl ⟨rfl, [0, 1, 2, 3, 4, 5, 6, 7, 8, 9, 10, 11, 12, 13, 14, 15, 16, 17, 18, 19, 20, 21, 22, 23, 24, 25, 26, 27, 28, 29, 30, 31, 32, 33, 34, 35, 36, 37, 38, 39, 40, 41, 42, 43, 44, 45, 46, 47, 48, 49, 50, 51, 52, 53, 54, 55, 56, 57, 58, 59, 60, 61, 62, 63, 64, 65, 66, 67, 68, 69, 70, 71, 72, 73, 74, 75, 76, 79, 80, 81, 82, 83, 84, 85], ([zO w0 5 [.ref (d0 0), .ref (dk 0), .int (iI iK), .ref w1, .int (iI n), .ref t0, .ref w2], zR cs w1 4 (afF (tg n) (dx 0) (df 0) (dg 0) (de 0))] ++ (bkW cy (d0, M, L, fu, fn) ++ (bkW cy (dk, Mk, Lk, uk, gk) ++ (bkW cy (dx, Mx, Lx, ux, gx) ++ (bkW cy (df, Mf, Lf, uf, gf) ++ (bkW cy (dg, Mg, Lg, ug, gg) ++ (bkW cy (de, Me, Le, ue, ge) ++ ([zO t0 4 [.int (iI ty), .ref t1], zA cy t1 60 fv, zA cy w2 32 dz, zA cy (mm 2) 3120 Hs, zA cy (mm 3) 780 Sh, zA cy (mm 4) 60 tx, zA cy (mm 5) 3 hd, zA cy (mm 6) 32 me, zA cy (mm 7) 96 wk, zA cy (mm 8) 32 fr])))))))), 86, rfl, rfl, rfl, by decide +kernel⟩ rfl rfl rfl rfl (Nat.le_of_ble_eq_true rfl) hl.1 dL_law_648 ⟨Nat.le_of_ble_eq_true rfl, Nat.le_of_ble_eq_true rfl⟩ (fun H locs wd => ?_)
  refine z_same C (tgt := 718) (agM_agC hrk hwr) dL_law_651 (by decide) ?_
  exact NX iK n ty fv dz Hs Sh tx hd me wk fr (d0, M, L, fu, fn) (dk, Mk, Lk, uk, gk) (dx, Mx, Lx, ux, gx) (df, Mf, Lf, uf, gf) (dg, Mg, Lg, ug, gg) (de, Me, Le, ue, ge) ⟨hn, hiK, htxr, hhd, ⟨vB, vK⟩, ⟨vX, vF, vG, vE⟩, hh⟩ H locs ls hl wd
set_option maxRecDepth 100000 in
set_option maxHeartbeats 20000000 in
theorem lf_freeDistance {p : Program} {l : Launch} {e : Env} {s : State} {m : MethodId} {below : List Frame} {meth : Method} {c : Code} {D : va_G} {b Ls : Nat} {xs : Nat → Int32} {cy cs : ClassId} {w0 w1 t0 t1 w2 : Nat} {mm : Nat → Nat} {i : Int} (C : CallFix p m c cL_law 4 s #[Value.ref b] wsL_law RL) (hX : va_X b Ls xs s s.heap) (hbl : b < s.heap.size) (hLs : Ls ≤ 2560) (hi : 0 ≤ i ∧ i + 5 ≤ (Ls : Int)) (NX : lNX p l e s m below meth c b D cy cs w0 w1 t0 t1 w2 mm i 718) : lNX p l e s m below meth c b D cy cs w0 w1 t0 t1 w2 mm i 656 := by
  intro iK n ty fv dz Hs Sh tx hd me wk fr B K X F G E hI H locs ls hl wd
  obtain ⟨d0, M, L, fu, fn⟩ := B
  obtain ⟨dk, Mk, Lk, uk, gk⟩ := K
  obtain ⟨dx, Mx, Lx, ux, gx⟩ := X
  obtain ⟨df, Mf, Lf, uf, gf⟩ := F
  obtain ⟨dg, Mg, Lg, ug, gg⟩ := G
  obtain ⟨de, Me, Le, ue, ge⟩ := E
  obtain ⟨hn, hiK, htxr, hhd, ⟨vB, vK⟩, ⟨vX, vF, vG, vE⟩, hh⟩ := hI
  have hvB : vO M L fu := vB
  obtain ⟨hrk, hm, ho, ht, h5, h9, h10, hme, hme2, hwk, hbs⟩ := vO_all hvB
  obtain ⟨hwr, huf, hu, hso, hoT, hE, h8e, hL, hL2, h7, hln, hlt, h8⟩ := vO_all2 hvB
  obtain ⟨hli, hli2, hwa, hwa2, hb1, hb1a, hb2, hb2a⟩ := vO_all3 hvB
  have h572 := vO_572 hvB
  have e572 : sl M 572 0 = M 572 := rfl
  have hp := p2_all hm.1 hm.2
  obtain ⟨hty, hfv, htx, hrel⟩ := id htxr
  have hff1 : ff (fun z9 => vc (tx z9)) ty (1 + 0) = ff fv ty 1 := (ff_cong hty.1 hrel).symm
  have hff2 : ff (fun z9 => vc (tx z9)) ty (1 + 1) = ff fv ty 2 := (ff_cong hty.1 hrel).symm
  have hfl1 := ff_le (f := fv) (hi := 1) hty
  have hfl2 := ff_le (f := fv) (hi := 2) hty
  have hbA : ¬ (fun q : Nat => s.heap.size ≤ q) b := Nat.not_le.mpr hbl
  have hA : ∀ q : Nat, s.heap.size ≤ q → (fun q : Nat => s.heap.size ≤ q) q := fun _ h => h
  have wd : Wd D (zT cy cs) (fun q : Nat => s.heap.size ≤ q) s.heap s (LW cy cs w0 w1 t0 t1 w2 mm iK n ty fv dz (afF (tg n) (dx 0) (df 0) (dg 0) (de 0)) (d0, M, L, fu, fn) (dk, Mk, Lk, uk, gk) (dx, Mx, Lx, ux, gx) (df, Mf, Lf, uf, gf) (dg, Mg, Lg, ug, gg) (de, Me, Le, ue, ge) M Hs Sh tx hd me wk fr n iK ty) H locs := wd
  unfold lG
  refine lv_aload_n C.1 C.2.1 dL_law_656 rfl (lv_at hl 1 rfl) ?_
  refine z_cvi C wd hA (As := []) (rest := []) (ws2 := (LW cy cs w0 w1 t0 t1 w2 mm iK n ty fv (lvN (M 0) (M 1) (sl M 2) (p2 (M 0)).toNat) (afF (tg n) (dx 0) (df 0) (dg 0) (de 0)) (d0, M, L, fu, fn) (dk, Mk, Lk, uk, gk) (dx, Mx, Lx, ux, gx) (df, Mf, Lf, uf, gf) (dg, Mg, Lg, ug, gg) (de, Me, Le, ue, ge) M Hs Sh tx hd me wk fr n iK ty)) (c_X5_freeDistance l D cy cs w0 w1 w2 t0 (d0 0) (dk 0) (d0 1) (d0 2) (d0 3) 0 0 0 (d0 7) 0 0 0 0 iK n 0 M dz (by first | assumption | omega) (by first | assumption | omega) (by first | assumption | omega)) (cwV 0 C.2.2.2.2 gL_law_X5_freeDistance rfl rfl rfl (by decide +kernel) ⟨Nat.le_of_ble_eq_true rfl, Nat.le_of_ble_eq_true rfl⟩) [0, 2, 3, 4, 76] rfl rfl rfl ⟨rfl, [1, 5, 6, 7, 8, 9, 10, 11, 12, 13, 14, 15, 16, 17, 18, 19, 20, 21, 22, 23, 24, 25, 26, 27, 28, 29, 30, 31, 32, 33, 34, 35, 36, 37, 38, 39, 40, 41, 42, 43, 44, 45, 46, 47, 48, 49, 50, 51, 52, 53, 54, 55, 56, 57, 58, 59, 60, 61, 62, 63, 64, 65, 66, 67, 68, 69, 70, 71, 72, 73, 74, 75, 77, 78, 79, 80, 81, 82, 83, 84, 85], ([zR cs w1 4 (afF (tg n) (dx 0) (df 0) (dg 0) (de 0)), zO (d0 3) 2 [.int (iI (M 6)), .int (iI (M 7)), .ref (d0 4), .ref (d0 5), .ref (d0 6)], zA cy (d0 4) 80 (sl M 12), zA cy (d0 5) 240 (sl M 92), zA cy (d0 6) 240 (sl M 332), zO (d0 7) 1 [.int (iI (M 9)), .int (iI L), .int (iI (M 10)), .int (iI (M 11)), .ref (d0 8), .ref (d0 9), .ref (d0 10), .ref (d0 11)], zA cy (d0 8) 80 (sl M 604), zA cy (d0 9) 32 (sl M 572), zA cy (d0 10) 32 fn, zA cy (d0 11) 80 fu] ++ (bkW cy (dk, Mk, Lk, uk, gk) ++ (bkW cy (dx, Mx, Lx, ux, gx) ++ (bkW cy (df, Mf, Lf, uf, gf) ++ (bkW cy (dg, Mg, Lg, ug, gg) ++ (bkW cy (de, Me, Le, ue, ge) ++ ([zO t0 4 [.int (iI ty), .ref t1], zA cy t1 60 fv, zO (mm 0) 6 [.ref (mm 1), .ref (mm 2), .int (iI n), .ref (mm 3), .int (iI iK), .ref (mm 4), .int (iI ty), .ref (mm 5), .ref (mm 6), .ref (mm 7), .ref (mm 8)], zA cy (mm 1) 780 M, zA cy (mm 2) 3120 Hs, zA cy (mm 3) 780 Sh, zA cy (mm 4) 60 tx, zA cy (mm 5) 3 hd, zA cy (mm 6) 32 me, zA cy (mm 7) 96 wk, zA cy (mm 8) 32 fr]))))))), 86, rfl, rfl, rfl, by decide +kernel⟩ rfl rfl rfl rfl (Nat.le_of_ble_eq_true rfl) hl.1 dL_law_657 ⟨Nat.le_of_ble_eq_true rfl, Nat.le_of_ble_eq_true rfl⟩ (fun H locs wd => ?_)
  refine lv_aload_n C.1 C.2.1 dL_law_660 rfl (lv_at hl 2 rfl) ?_
  refine z_cviX C wd hA (σ := (Int → Int)) (As := []) (rest := [.int (iI (fdA (lvN (M 0) (M 1) (sl M 2) (p2 (M 0)).toNat 0)))]) (ws2 := fun u9 => (LW cy cs w0 w1 t0 t1 w2 mm iK n ty fv (lvN (M 0) (M 1) (sl M 2) (p2 (M 0)).toNat) (afF (tg n) (dx 0) (df 0) (dg 0) (de 0)) (d0, M, L, fu, fn) (dk, Mk, Lk, uk, gk) (dx, Mx, Lx, ux, gx) (df, Mf, Lf, uf, gf) (dg, Mg, Lg, ug, gg) (de, Me, Le, ue, ge) M Hs Sh tx hd me wk u9 n iK ty)) (c_X6_freeDistance l D cy cs (mm 0) (mm 1) (mm 2) (mm 3) (mm 4) (mm 5) (mm 6) (mm 7) (mm 8) n iK ty M fr (by first | assumption | omega) (by first | assumption | omega) (by first | assumption | omega)) (cwV 0 C.2.2.2.2 gL_law_X6_freeDistance rfl rfl rfl (by decide +kernel) ⟨Nat.le_of_ble_eq_true rfl, Nat.le_of_ble_eq_true rfl⟩) [77, 78, 85] rfl rfl (fun _ => rfl) (fun _ => ⟨rfl, [0, 1, 2, 3, 4, 5, 6, 7, 8, 9, 10, 11, 12, 13, 14, 15, 16, 17, 18, 19, 20, 21, 22, 23, 24, 25, 26, 27, 28, 29, 30, 31, 32, 33, 34, 35, 36, 37, 38, 39, 40, 41, 42, 43, 44, 45, 46, 47, 48, 49, 50, 51, 52, 53, 54, 55, 56, 57, 58, 59, 60, 61, 62, 63, 64, 65, 66, 67, 68, 69, 70, 71, 72, 73, 74, 75, 76, 79, 80, 81, 82, 83, 84], ([zO w0 5 [.ref (d0 0), .ref (dk 0), .int (iI iK), .ref w1, .int (iI n), .ref t0, .ref w2], zR cs w1 4 (afF (tg n) (dx 0) (df 0) (dg 0) (de 0))] ++ (bkW cy (d0, M, L, fu, fn) ++ (bkW cy (dk, Mk, Lk, uk, gk) ++ (bkW cy (dx, Mx, Lx, ux, gx) ++ (bkW cy (df, Mf, Lf, uf, gf) ++ (bkW cy (dg, Mg, Lg, ug, gg) ++ (bkW cy (de, Me, Le, ue, ge) ++ ([zO t0 4 [.int (iI ty), .ref t1], zA cy t1 60 fv, zA cy w2 32 (lvN (M 0) (M 1) (sl M 2) (p2 (M 0)).toNat), zA cy (mm 2) 3120 Hs, zA cy (mm 3) 780 Sh, zA cy (mm 4) 60 tx, zA cy (mm 5) 3 hd, zA cy (mm 6) 32 me, zA cy (mm 7) 96 wk])))))))), 86, rfl, rfl, rfl, by decide +kernel⟩) rfl rfl rfl rfl (Nat.le_of_ble_eq_true rfl) hl.1 dL_law_661 ⟨Nat.le_of_ble_eq_true rfl, Nat.le_of_ble_eq_true rfl⟩ (fun u9 hu9 H locs wd => ?_)
  obtain ⟨gf_1, rfl⟩ : ∃ z, z = u9 := ⟨_, rfl⟩
  have wd : Wd D (zT cy cs) _ s.heap s (LW cy cs w0 w1 t0 t1 w2 mm iK n ty fv (lvN (M 0) (M 1) (sl M 2) (p2 (M 0)).toNat) (afF (tg n) (dx 0) (df 0) (dg 0) (de 0)) (d0, M, L, fu, fn) (dk, Mk, Lk, uk, gk) (dx, Mx, Lx, ux, gx) (df, Mf, Lf, uf, gf) (dg, Mg, Lg, ug, gg) (de, Me, Le, ue, ge) M Hs Sh tx hd me wk gf_1 n iK ty) H locs := wd
  have hu_661 : True := hu9
  refine z_same C (tgt := 718) rfl dL_law_664 (by decide) ?_
  exact NX iK n ty fv (lvN (M 0) (M 1) (sl M 2) (p2 (M 0)).toNat) Hs Sh tx hd me wk gf_1 (d0, M, L, fu, fn) (dk, Mk, Lk, uk, gk) (dx, Mx, Lx, ux, gx) (df, Mf, Lf, uf, gf) (dg, Mg, Lg, ug, gg) (de, Me, Le, ue, ge) ⟨hn, hiK, htxr, hhd, ⟨vB, vK⟩, ⟨vX, vF, vG, vE⟩, hh⟩ H locs ls hl wd
set_option maxRecDepth 100000 in
set_option maxHeartbeats 20000000 in
theorem lf_hasIdleRing {p : Program} {l : Launch} {e : Env} {s : State} {m : MethodId} {below : List Frame} {meth : Method} {c : Code} {D : va_G} {b Ls : Nat} {xs : Nat → Int32} {cy cs : ClassId} {w0 w1 t0 t1 w2 : Nat} {mm : Nat → Nat} {i : Int} (C : CallFix p m c cL_law 4 s #[Value.ref b] wsL_law RL) (hX : va_X b Ls xs s s.heap) (hbl : b < s.heap.size) (hLs : Ls ≤ 2560) (hi : 0 ≤ i ∧ i + 5 ≤ (Ls : Int)) (NX : lNX p l e s m below meth c b D cy cs w0 w1 t0 t1 w2 mm i 718) : lNX p l e s m below meth c b D cy cs w0 w1 t0 t1 w2 mm i 669 := by
  intro iK n ty fv dz Hs Sh tx hd me wk fr B K X F G E hI H locs ls hl wd
  obtain ⟨d0, M, L, fu, fn⟩ := B
  obtain ⟨dk, Mk, Lk, uk, gk⟩ := K
  obtain ⟨dx, Mx, Lx, ux, gx⟩ := X
  obtain ⟨df, Mf, Lf, uf, gf⟩ := F
  obtain ⟨dg, Mg, Lg, ug, gg⟩ := G
  obtain ⟨de, Me, Le, ue, ge⟩ := E
  obtain ⟨hn, hiK, htxr, hhd, ⟨vB, vK⟩, ⟨vX, vF, vG, vE⟩, hh⟩ := hI
  have hvB : vO M L fu := vB
  obtain ⟨hrk, hm, ho, ht, h5, h9, h10, hme, hme2, hwk, hbs⟩ := vO_all hvB
  obtain ⟨hwr, huf, hu, hso, hoT, hE, h8e, hL, hL2, h7, hln, hlt, h8⟩ := vO_all2 hvB
  obtain ⟨hli, hli2, hwa, hwa2, hb1, hb1a, hb2, hb2a⟩ := vO_all3 hvB
  have h572 := vO_572 hvB
  have e572 : sl M 572 0 = M 572 := rfl
  have hp := p2_all hm.1 hm.2
  obtain ⟨hty, hfv, htx, hrel⟩ := id htxr
  have hff1 : ff (fun z9 => vc (tx z9)) ty (1 + 0) = ff fv ty 1 := (ff_cong hty.1 hrel).symm
  have hff2 : ff (fun z9 => vc (tx z9)) ty (1 + 1) = ff fv ty 2 := (ff_cong hty.1 hrel).symm
  have hfl1 := ff_le (f := fv) (hi := 1) hty
  have hfl2 := ff_le (f := fv) (hi := 2) hty
  have hbA : ¬ (fun q : Nat => s.heap.size ≤ q) b := Nat.not_le.mpr hbl
  have hA : ∀ q : Nat, s.heap.size ≤ q → (fun q : Nat => s.heap.size ≤ q) q := fun _ h => h
  have wd : Wd D (zT cy cs) (fun q : Nat => s.heap.size ≤ q) s.heap s (LW cy cs w0 w1 t0 t1 w2 mm iK n ty fv dz (afF (tg n) (dx 0) (df 0) (dg 0) (de 0)) (d0, M, L, fu, fn) (dk, Mk, Lk, uk, gk) (dx, Mx, Lx, ux, gx) (df, Mf, Lf, uf, gf) (dg, Mg, Lg, ug, gg) (de, Me, Le, ue, ge) M Hs Sh tx hd me wk fr n iK ty) H locs := wd
  unfold lG
  refine lv_aload_n C.1 C.2.1 dL_law_669 rfl (lv_at hl 1 rfl) ?_
  refine z_cvi C wd hA (As := []) (rest := []) (ws2 := (LW cy cs w0 w1 t0 t1 w2 mm iK n ty fv dz (afF (tg n) (dx 0) (df 0) (dg 0) (de 0)) (d0, M, L, fu, fn) (dk, Mk, Lk, uk, gk) (dx, Mx, Lx, ux, gx) (df, Mf, Lf, uf, gf) (dg, Mg, Lg, ug, gg) (de, Me, Le, ue, ge) M Hs Sh tx hd me wk fr n iK ty)) (c_X5_hasIdleRing l D cy cs w0 w1 w2 t0 (d0 0) (dk 0) (d0 1) (d0 2) (d0 3) 0 0 0 (d0 7) 0 0 0 0 iK n 0 M (by first | assumption | omega) (by first | assumption | omega) (by first | assumption | omega)) (cwV 0 C.2.2.2.2 gL_law_X5_hasIdleRing rfl rfl rfl (by decide +kernel) ⟨Nat.le_of_ble_eq_true rfl, Nat.le_of_ble_eq_true rfl⟩) [0, 2, 3, 4] rfl rfl rfl ⟨rfl, [1, 5, 6, 7, 8, 9, 10, 11, 12, 13, 14, 15, 16, 17, 18, 19, 20, 21, 22, 23, 24, 25, 26, 27, 28, 29, 30, 31, 32, 33, 34, 35, 36, 37, 38, 39, 40, 41, 42, 43, 44, 45, 46, 47, 48, 49, 50, 51, 52, 53, 54, 55, 56, 57, 58, 59, 60, 61, 62, 63, 64, 65, 66, 67, 68, 69, 70, 71, 72, 73, 74, 75, 76, 77, 78, 79, 80, 81, 82, 83, 84, 85], ([zR cs w1 4 (afF (tg n) (dx 0) (df 0) (dg 0) (de 0)), zO (d0 3) 2 [.int (iI (M 6)), .int (iI (M 7)), .ref (d0 4), .ref (d0 5), .ref (d0 6)], zA cy (d0 4) 80 (sl M 12), zA cy (d0 5) 240 (sl M 92), zA cy (d0 6) 240 (sl M 332), zO (d0 7) 1 [.int (iI (M 9)), .int (iI L), .int (iI (M 10)), .int (iI (M 11)), .ref (d0 8), .ref (d0 9), .ref (d0 10), .ref (d0 11)], zA cy (d0 8) 80 (sl M 604), zA cy (d0 9) 32 (sl M 572), zA cy (d0 10) 32 fn, zA cy (d0 11) 80 fu] ++ (bkW cy (dk, Mk, Lk, uk, gk) ++ (bkW cy (dx, Mx, Lx, ux, gx) ++ (bkW cy (df, Mf, Lf, uf, gf) ++ (bkW cy (dg, Mg, Lg, ug, gg) ++ (bkW cy (de, Me, Le, ue, ge) ++ ([zO t0 4 [.int (iI ty), .ref t1], zA cy t1 60 fv, zA cy w2 32 dz, zO (mm 0) 6 [.ref (mm 1), .ref (mm 2), .int (iI n), .ref (mm 3), .int (iI iK), .ref (mm 4), .int (iI ty), .ref (mm 5), .ref (mm 6), .ref (mm 7), .ref (mm 8)], zA cy (mm 1) 780 M, zA cy (mm 2) 3120 Hs, zA cy (mm 3) 780 Sh, zA cy (mm 4) 60 tx, zA cy (mm 5) 3 hd, zA cy (mm 6) 32 me, zA cy (mm 7) 96 wk, zA cy (mm 8) 32 fr]))))))), 86, rfl, rfl, rfl, by decide +kernel⟩ rfl rfl rfl rfl (Nat.le_of_ble_eq_true rfl) hl.1 dL_law_670 ⟨Nat.le_of_ble_eq_true rfl, Nat.le_of_ble_eq_true rfl⟩ (fun H locs wd => ?_)
  refine lv_aload_n C.1 C.2.1 dL_law_673 rfl (lv_at hl 2 rfl) ?_
  refine z_cvi C wd hA (As := []) (rest := [.int (iI (bI (rgN (M 0) (M 1) (sl M 2) (p2 (M 0)).toNat ≠ 0)))]) (ws2 := (LW cy cs w0 w1 t0 t1 w2 mm iK n ty fv dz (afF (tg n) (dx 0) (df 0) (dg 0) (de 0)) (d0, M, L, fu, fn) (dk, Mk, Lk, uk, gk) (dx, Mx, Lx, ux, gx) (df, Mf, Lf, uf, gf) (dg, Mg, Lg, ug, gg) (de, Me, Le, ue, ge) M Hs Sh tx hd me wk fr n iK ty)) (c_X6_hasIdleRing l D cy cs (mm 0) (mm 1) (mm 2) (mm 3) (mm 4) (mm 5) (mm 6) (mm 7) (mm 8) n iK ty M (by first | assumption | omega) (by first | assumption | omega) (by first | assumption | omega)) (cwV 0 C.2.2.2.2 gL_law_X6_hasIdleRing rfl rfl rfl (by decide +kernel) ⟨Nat.le_of_ble_eq_true rfl, Nat.le_of_ble_eq_true rfl⟩) [77, 78] rfl rfl rfl ⟨rfl, [0, 1, 2, 3, 4, 5, 6, 7, 8, 9, 10, 11, 12, 13, 14, 15, 16, 17, 18, 19, 20, 21, 22, 23, 24, 25, 26, 27, 28, 29, 30, 31, 32, 33, 34, 35, 36, 37, 38, 39, 40, 41, 42, 43, 44, 45, 46, 47, 48, 49, 50, 51, 52, 53, 54, 55, 56, 57, 58, 59, 60, 61, 62, 63, 64, 65, 66, 67, 68, 69, 70, 71, 72, 73, 74, 75, 76, 79, 80, 81, 82, 83, 84, 85], ([zO w0 5 [.ref (d0 0), .ref (dk 0), .int (iI iK), .ref w1, .int (iI n), .ref t0, .ref w2], zR cs w1 4 (afF (tg n) (dx 0) (df 0) (dg 0) (de 0))] ++ (bkW cy (d0, M, L, fu, fn) ++ (bkW cy (dk, Mk, Lk, uk, gk) ++ (bkW cy (dx, Mx, Lx, ux, gx) ++ (bkW cy (df, Mf, Lf, uf, gf) ++ (bkW cy (dg, Mg, Lg, ug, gg) ++ (bkW cy (de, Me, Le, ue, ge) ++ ([zO t0 4 [.int (iI ty), .ref t1], zA cy t1 60 fv, zA cy w2 32 dz, zA cy (mm 2) 3120 Hs, zA cy (mm 3) 780 Sh, zA cy (mm 4) 60 tx, zA cy (mm 5) 3 hd, zA cy (mm 6) 32 me, zA cy (mm 7) 96 wk, zA cy (mm 8) 32 fr])))))))), 86, rfl, rfl, rfl, by decide +kernel⟩ rfl rfl rfl rfl (Nat.le_of_ble_eq_true rfl) hl.1 dL_law_674 ⟨Nat.le_of_ble_eq_true rfl, Nat.le_of_ble_eq_true rfl⟩ (fun H locs wd => ?_)
  refine z_same C (tgt := 718) rfl dL_law_677 (by decide) ?_
  exact NX iK n ty fv dz Hs Sh tx hd me wk fr (d0, M, L, fu, fn) (dk, Mk, Lk, uk, gk) (dx, Mx, Lx, ux, gx) (df, Mf, Lf, uf, gf) (dg, Mg, Lg, ug, gg) (de, Me, Le, ue, ge) ⟨hn, hiK, htxr, hhd, ⟨vB, vK⟩, ⟨vX, vF, vG, vE⟩, hh⟩ H locs ls hl wd
set_option maxRecDepth 100000 in
set_option maxHeartbeats 20000000 in
theorem lf_wrongBits {p : Program} {l : Launch} {e : Env} {s : State} {m : MethodId} {below : List Frame} {meth : Method} {c : Code} {D : va_G} {b Ls : Nat} {xs : Nat → Int32} {cy cs : ClassId} {w0 w1 t0 t1 w2 : Nat} {mm : Nat → Nat} {i : Int} (C : CallFix p m c cL_law 4 s #[Value.ref b] wsL_law RL) (hX : va_X b Ls xs s s.heap) (hbl : b < s.heap.size) (hLs : Ls ≤ 2560) (hi : 0 ≤ i ∧ i + 5 ≤ (Ls : Int)) (NX : lNX p l e s m below meth c b D cy cs w0 w1 t0 t1 w2 mm i 718) : lNX p l e s m below meth c b D cy cs w0 w1 t0 t1 w2 mm i 682 := by
  intro iK n ty fv dz Hs Sh tx hd me wk fr B K X F G E hI H locs ls hl wd
  obtain ⟨d0, M, L, fu, fn⟩ := B
  obtain ⟨dk, Mk, Lk, uk, gk⟩ := K
  obtain ⟨dx, Mx, Lx, ux, gx⟩ := X
  obtain ⟨df, Mf, Lf, uf, gf⟩ := F
  obtain ⟨dg, Mg, Lg, ug, gg⟩ := G
  obtain ⟨de, Me, Le, ue, ge⟩ := E
  obtain ⟨hn, hiK, htxr, hhd, ⟨vB, vK⟩, ⟨vX, vF, vG, vE⟩, hh⟩ := hI
  have hvB : vO M L fu := vB
  obtain ⟨hrk, hm, ho, ht, h5, h9, h10, hme, hme2, hwk, hbs⟩ := vO_all hvB
  obtain ⟨hwr, huf, hu, hso, hoT, hE, h8e, hL, hL2, h7, hln, hlt, h8⟩ := vO_all2 hvB
  obtain ⟨hli, hli2, hwa, hwa2, hb1, hb1a, hb2, hb2a⟩ := vO_all3 hvB
  have h572 := vO_572 hvB
  have e572 : sl M 572 0 = M 572 := rfl
  have hp := p2_all hm.1 hm.2
  obtain ⟨hty, hfv, htx, hrel⟩ := id htxr
  have hff1 : ff (fun z9 => vc (tx z9)) ty (1 + 0) = ff fv ty 1 := (ff_cong hty.1 hrel).symm
  have hff2 : ff (fun z9 => vc (tx z9)) ty (1 + 1) = ff fv ty 2 := (ff_cong hty.1 hrel).symm
  have hfl1 := ff_le (f := fv) (hi := 1) hty
  have hfl2 := ff_le (f := fv) (hi := 2) hty
  have hbA : ¬ (fun q : Nat => s.heap.size ≤ q) b := Nat.not_le.mpr hbl
  have hA : ∀ q : Nat, s.heap.size ≤ q → (fun q : Nat => s.heap.size ≤ q) q := fun _ h => h
  have wd : Wd D (zT cy cs) (fun q : Nat => s.heap.size ≤ q) s.heap s (LW cy cs w0 w1 t0 t1 w2 mm iK n ty fv dz (afF (tg n) (dx 0) (df 0) (dg 0) (de 0)) (d0, M, L, fu, fn) (dk, Mk, Lk, uk, gk) (dx, Mx, Lx, ux, gx) (df, Mf, Lf, uf, gf) (dg, Mg, Lg, ug, gg) (de, Me, Le, ue, ge) M Hs Sh tx hd me wk fr n iK ty) H locs := wd
  unfold lG
  refine lv_aload_n C.1 C.2.1 dL_law_682 rfl (lv_at hl 1 rfl) ?_
  refine z_cvi C wd hA (As := []) (rest := []) (ws2 := (LW cy cs w0 w1 t0 t1 w2 mm iK n ty fv dz (afF (tg n) (dx 0) (df 0) (dg 0) (de 0)) (d0, M, L, fu, fn) (dk, Mk, Lk, uk, gk) (dx, Mx, Lx, ux, gx) (df, Mf, Lf, uf, gf) (dg, Mg, Lg, ug, gg) (de, Me, Le, ue, ge) M Hs Sh tx hd me wk fr n iK ty)) (c_X5_wrongBits l D cy cs w0 w1 w2 t0 (d0 0) (dk 0) (d0 1) 0 (d0 3) (d0 4) (d0 5) (d0 6) (d0 7) (d0 8) (d0 9) (d0 10) (d0 11) iK n L M (by first | assumption | omega) (by first | assumption | omega) (by first | assumption | omega) (by first | assumption | omega)) (cwV 0 C.2.2.2.2 gL_law_X5_wrongBits rfl rfl rfl (by decide +kernel) ⟨Nat.le_of_ble_eq_true rfl, Nat.le_of_ble_eq_true rfl⟩) [0, 2, 5, 6, 9, 10] rfl rfl rfl ⟨rfl, [1, 3, 4, 7, 8, 11, 12, 13, 14, 15, 16, 17, 18, 19, 20, 21, 22, 23, 24, 25, 26, 27, 28, 29, 30, 31, 32, 33, 34, 35, 36, 37, 38, 39, 40, 41, 42, 43, 44, 45, 46, 47, 48, 49, 50, 51, 52, 53, 54, 55, 56, 57, 58, 59, 60, 61, 62, 63, 64, 65, 66, 67, 68, 69, 70, 71, 72, 73, 74, 75, 76, 77, 78, 79, 80, 81, 82, 83, 84, 85], ([zR cs w1 4 (afF (tg n) (dx 0) (df 0) (dg 0) (de 0)), zO (d0 1) 0 [.int (iI (M 0)), .int (iI (M 1)), .ref (d0 2)], zA cy (d0 2) 3 (sl M 2), zA cy (d0 5) 240 (sl M 92), zA cy (d0 6) 240 (sl M 332), zA cy (d0 9) 32 (sl M 572), zA cy (d0 10) 32 fn, zA cy (d0 11) 80 fu] ++ (bkW cy (dk, Mk, Lk, uk, gk) ++ (bkW cy (dx, Mx, Lx, ux, gx) ++ (bkW cy (df, Mf, Lf, uf, gf) ++ (bkW cy (dg, Mg, Lg, ug, gg) ++ (bkW cy (de, Me, Le, ue, ge) ++ ([zO t0 4 [.int (iI ty), .ref t1], zA cy t1 60 fv, zA cy w2 32 dz, zO (mm 0) 6 [.ref (mm 1), .ref (mm 2), .int (iI n), .ref (mm 3), .int (iI iK), .ref (mm 4), .int (iI ty), .ref (mm 5), .ref (mm 6), .ref (mm 7), .ref (mm 8)], zA cy (mm 1) 780 M, zA cy (mm 2) 3120 Hs, zA cy (mm 3) 780 Sh, zA cy (mm 4) 60 tx, zA cy (mm 5) 3 hd, zA cy (mm 6) 32 me, zA cy (mm 7) 96 wk, zA cy (mm 8) 32 fr]))))))), 86, rfl, rfl, rfl, by decide +kernel⟩ rfl rfl rfl rfl (Nat.le_of_ble_eq_true rfl) hl.1 dL_law_683 ⟨Nat.le_of_ble_eq_true rfl, Nat.le_of_ble_eq_true rfl⟩ (fun H locs wd => ?_)
  refine lv_aload_n C.1 C.2.1 dL_law_686 rfl (lv_at hl 2 rfl) ?_
  refine z_cvi C wd hA (As := []) (rest := [.int (iI (rdWrong M))]) (ws2 := (LW cy cs w0 w1 t0 t1 w2 mm iK n ty fv dz (afF (tg n) (dx 0) (df 0) (dg 0) (de 0)) (d0, M, L, fu, fn) (dk, Mk, Lk, uk, gk) (dx, Mx, Lx, ux, gx) (df, Mf, Lf, uf, gf) (dg, Mg, Lg, ug, gg) (de, Me, Le, ue, ge) M Hs Sh tx hd me wk fr n iK ty)) (c_X6_wrongBits l D cy cs (mm 0) (mm 1) (mm 2) (mm 3) (mm 4) (mm 5) (mm 6) (mm 7) (mm 8) n iK ty M (by first | assumption | omega) (by first | assumption | omega) (by first | assumption | omega) (by first | assumption | omega)) (cwV 0 C.2.2.2.2 gL_law_X6_wrongBits rfl rfl rfl (by decide +kernel) ⟨Nat.le_of_ble_eq_true rfl, Nat.le_of_ble_eq_true rfl⟩) [77, 78] rfl rfl rfl ⟨rfl, [0, 1, 2, 3, 4, 5, 6, 7, 8, 9, 10, 11, 12, 13, 14, 15, 16, 17, 18, 19, 20, 21, 22, 23, 24, 25, 26, 27, 28, 29, 30, 31, 32, 33, 34, 35, 36, 37, 38, 39, 40, 41, 42, 43, 44, 45, 46, 47, 48, 49, 50, 51, 52, 53, 54, 55, 56, 57, 58, 59, 60, 61, 62, 63, 64, 65, 66, 67, 68, 69, 70, 71, 72, 73, 74, 75, 76, 79, 80, 81, 82, 83, 84, 85], ([zO w0 5 [.ref (d0 0), .ref (dk 0), .int (iI iK), .ref w1, .int (iI n), .ref t0, .ref w2], zR cs w1 4 (afF (tg n) (dx 0) (df 0) (dg 0) (de 0))] ++ (bkW cy (d0, M, L, fu, fn) ++ (bkW cy (dk, Mk, Lk, uk, gk) ++ (bkW cy (dx, Mx, Lx, ux, gx) ++ (bkW cy (df, Mf, Lf, uf, gf) ++ (bkW cy (dg, Mg, Lg, ug, gg) ++ (bkW cy (de, Me, Le, ue, ge) ++ ([zO t0 4 [.int (iI ty), .ref t1], zA cy t1 60 fv, zA cy w2 32 dz, zA cy (mm 2) 3120 Hs, zA cy (mm 3) 780 Sh, zA cy (mm 4) 60 tx, zA cy (mm 5) 3 hd, zA cy (mm 6) 32 me, zA cy (mm 7) 96 wk, zA cy (mm 8) 32 fr])))))))), 86, rfl, rfl, rfl, by decide +kernel⟩ rfl rfl rfl rfl (Nat.le_of_ble_eq_true rfl) hl.1 dL_law_687 ⟨Nat.le_of_ble_eq_true rfl, Nat.le_of_ble_eq_true rfl⟩ (fun H locs wd => ?_)
  refine z_same C (tgt := 718) rfl dL_law_690 (by decide) ?_
  exact NX iK n ty fv dz Hs Sh tx hd me wk fr (d0, M, L, fu, fn) (dk, Mk, Lk, uk, gk) (dx, Mx, Lx, ux, gx) (df, Mf, Lf, uf, gf) (dg, Mg, Lg, ug, gg) (de, Me, Le, ue, ge) ⟨hn, hiK, htxr, hhd, ⟨vB, vK⟩, ⟨vX, vF, vG, vE⟩, hh⟩ H locs ls hl wd
set_option maxRecDepth 100000 in
set_option maxHeartbeats 20000000 in
theorem lf_count {p : Program} {l : Launch} {e : Env} {s : State} {m : MethodId} {below : List Frame} {meth : Method} {c : Code} {D : va_G} {b Ls : Nat} {xs : Nat → Int32} {cy cs : ClassId} {w0 w1 t0 t1 w2 : Nat} {mm : Nat → Nat} {i : Int} (C : CallFix p m c cL_law 4 s #[Value.ref b] wsL_law RL) (hX : va_X b Ls xs s s.heap) (hbl : b < s.heap.size) (hLs : Ls ≤ 2560) (hi : 0 ≤ i ∧ i + 5 ≤ (Ls : Int)) (NX : lNX p l e s m below meth c b D cy cs w0 w1 t0 t1 w2 mm i 718) : lNX p l e s m below meth c b D cy cs w0 w1 t0 t1 w2 mm i 695 := by
  intro iK n ty fv dz Hs Sh tx hd me wk fr B K X F G E hI H locs ls hl wd
  obtain ⟨d0, M, L, fu, fn⟩ := B
  obtain ⟨dk, Mk, Lk, uk, gk⟩ := K
  obtain ⟨dx, Mx, Lx, ux, gx⟩ := X
  obtain ⟨df, Mf, Lf, uf, gf⟩ := F
  obtain ⟨dg, Mg, Lg, ug, gg⟩ := G
  obtain ⟨de, Me, Le, ue, ge⟩ := E
  obtain ⟨hn, hiK, htxr, hhd, ⟨vB, vK⟩, ⟨vX, vF, vG, vE⟩, hh⟩ := hI
  have hvB : vO M L fu := vB
  obtain ⟨hrk, hm, ho, ht, h5, h9, h10, hme, hme2, hwk, hbs⟩ := vO_all hvB
  obtain ⟨hwr, huf, hu, hso, hoT, hE, h8e, hL, hL2, h7, hln, hlt, h8⟩ := vO_all2 hvB
  obtain ⟨hli, hli2, hwa, hwa2, hb1, hb1a, hb2, hb2a⟩ := vO_all3 hvB
  have h572 := vO_572 hvB
  have e572 : sl M 572 0 = M 572 := rfl
  have hp := p2_all hm.1 hm.2
  obtain ⟨hty, hfv, htx, hrel⟩ := id htxr
  have hff1 : ff (fun z9 => vc (tx z9)) ty (1 + 0) = ff fv ty 1 := (ff_cong hty.1 hrel).symm
  have hff2 : ff (fun z9 => vc (tx z9)) ty (1 + 1) = ff fv ty 2 := (ff_cong hty.1 hrel).symm
  have hfl1 := ff_le (f := fv) (hi := 1) hty
  have hfl2 := ff_le (f := fv) (hi := 2) hty
  have hbA : ¬ (fun q : Nat => s.heap.size ≤ q) b := Nat.not_le.mpr hbl
  have hA : ∀ q : Nat, s.heap.size ≤ q → (fun q : Nat => s.heap.size ≤ q) q := fun _ h => h
  have wd : Wd D (zT cy cs) (fun q : Nat => s.heap.size ≤ q) s.heap s (LW cy cs w0 w1 t0 t1 w2 mm iK n ty fv dz (afF (tg n) (dx 0) (df 0) (dg 0) (de 0)) (d0, M, L, fu, fn) (dk, Mk, Lk, uk, gk) (dx, Mx, Lx, ux, gx) (df, Mf, Lf, uf, gf) (dg, Mg, Lg, ug, gg) (de, Me, Le, ue, ge) M Hs Sh tx hd me wk fr n iK ty) H locs := wd
  obtain ⟨v1, hv1⟩ : ∃ v, (xs (i + 1).toNat).toInt = v := ⟨_, rfl⟩
  have hr1 := iI_rng (xs (i + 1).toNat)
  rw [hv1] at hr1
  unfold lG
  refine lv_aload_n C.1 C.2.1 dL_law_695 rfl (lv_at hl 1 rfl) ?_
  refine lv_aload_n C.1 C.2.1 dL_law_696 rfl (lv_at hl 0 rfl) ?_
  refine lv_iload_n C.1 C.2.1 dL_law_697 rfl (lv_at hl 3 rfl) ?_
  refine z_iconst C dL_law_698 ?_
  refine z_iadd C dL_law_699 ?_
  refine z_sld C wd hX hbl hbA (v := v1) (by omega) hLs hv1 dL_law_700 ?_
  refine z_cvi C wd hA (As := [.int (iI v1)]) (rest := []) (ws2 := (LW cy cs w0 w1 t0 t1 w2 mm iK n ty fv dz (afF (tg n) (dx 0) (df 0) (dg 0) (de 0)) (d0, M, L, fu, fn) (dk, Mk, Lk, uk, gk) (dx, Mx, Lx, ux, gx) (df, Mf, Lf, uf, gf) (dg, Mg, Lg, ug, gg) (de, Me, Le, ue, ge) M Hs Sh tx hd me wk fr n iK ty)) (c_X5_count l D cy cs w0 w1 w2 t0 (d0 0) (dk 0) (d0 1) (d0 2) (d0 3) (d0 4) (d0 5) (d0 6) (d0 7) (d0 8) (d0 9) (d0 10) (d0 11) iK n L M t1 ty v1 (by first | assumption | omega) (by first | assumption | omega) (by first | assumption | omega) (by first | assumption | omega) (by first | assumption | omega) (by first | assumption | omega) (by first | assumption | omega) (by first | assumption | omega) (by first | assumption | omega)) (cwV 1 C.2.2.2.2 gL_law_X5_count rfl rfl rfl (by decide +kernel) ⟨Nat.le_of_ble_eq_true rfl, Nat.le_of_ble_eq_true rfl⟩) [0, 2, 3, 4, 5, 7, 8, 9, 11, 74] rfl rfl rfl ⟨rfl, [1, 6, 10, 12, 13, 14, 15, 16, 17, 18, 19, 20, 21, 22, 23, 24, 25, 26, 27, 28, 29, 30, 31, 32, 33, 34, 35, 36, 37, 38, 39, 40, 41, 42, 43, 44, 45, 46, 47, 48, 49, 50, 51, 52, 53, 54, 55, 56, 57, 58, 59, 60, 61, 62, 63, 64, 65, 66, 67, 68, 69, 70, 71, 72, 73, 75, 76, 77, 78, 79, 80, 81, 82, 83, 84, 85], ([zR cs w1 4 (afF (tg n) (dx 0) (df 0) (dg 0) (de 0)), zA cy (d0 4) 80 (sl M 12), zA cy (d0 8) 80 (sl M 604), zA cy (d0 10) 32 fn, zA cy (d0 11) 80 fu] ++ (bkW cy (dk, Mk, Lk, uk, gk) ++ (bkW cy (dx, Mx, Lx, ux, gx) ++ (bkW cy (df, Mf, Lf, uf, gf) ++ (bkW cy (dg, Mg, Lg, ug, gg) ++ (bkW cy (de, Me, Le, ue, ge) ++ ([zA cy t1 60 fv, zA cy w2 32 dz, zO (mm 0) 6 [.ref (mm 1), .ref (mm 2), .int (iI n), .ref (mm 3), .int (iI iK), .ref (mm 4), .int (iI ty), .ref (mm 5), .ref (mm 6), .ref (mm 7), .ref (mm 8)], zA cy (mm 1) 780 M, zA cy (mm 2) 3120 Hs, zA cy (mm 3) 780 Sh, zA cy (mm 4) 60 tx, zA cy (mm 5) 3 hd, zA cy (mm 6) 32 me, zA cy (mm 7) 96 wk, zA cy (mm 8) 32 fr]))))))), 86, rfl, rfl, rfl, by decide +kernel⟩ rfl rfl rfl rfl (Nat.le_of_ble_eq_true rfl) hl.1 dL_law_701 ⟨Nat.le_of_ble_eq_true rfl, Nat.le_of_ble_eq_true rfl⟩ (fun H locs wd => ?_)
  refine lv_aload_n C.1 C.2.1 dL_law_704 rfl (lv_at hl 2 rfl) ?_
  refine lv_aload_n C.1 C.2.1 dL_law_705 rfl (lv_at hl 0 rfl) ?_
  refine lv_iload_n C.1 C.2.1 dL_law_706 rfl (lv_at hl 3 rfl) ?_
  refine z_iconst C dL_law_707 ?_
  refine z_iadd C dL_law_708 ?_
  refine z_sld C wd hX hbl hbA (v := v1) (by omega) hLs hv1 dL_law_709 ?_
  refine z_cvi C wd hA (As := [.int (iI v1)]) (rest := [.int (iI (rdCount M n ty v1))]) (ws2 := (LW cy cs w0 w1 t0 t1 w2 mm iK n ty fv dz (afF (tg n) (dx 0) (df 0) (dg 0) (de 0)) (d0, M, L, fu, fn) (dk, Mk, Lk, uk, gk) (dx, Mx, Lx, ux, gx) (df, Mf, Lf, uf, gf) (dg, Mg, Lg, ug, gg) (de, Me, Le, ue, ge) M Hs Sh tx hd me wk fr n iK ty)) (c_X6_count l D cy cs (mm 0) (mm 1) (mm 2) (mm 3) (mm 4) (mm 5) (mm 6) (mm 7) (mm 8) n iK ty M v1 (by first | assumption | omega) (by first | assumption | omega) (by first | assumption | omega) (by first | assumption | omega) (by first | assumption | omega) (by first | assumption | omega) (by first | assumption | omega) (by first | assumption | omega)) (cwV 1 C.2.2.2.2 gL_law_X6_count rfl rfl rfl (by decide +kernel) ⟨Nat.le_of_ble_eq_true rfl, Nat.le_of_ble_eq_true rfl⟩) [77, 78] rfl rfl rfl ⟨rfl, [0, 1, 2, 3, 4, 5, 6, 7, 8, 9, 10, 11, 12, 13, 14, 15, 16, 17, 18, 19, 20, 21, 22, 23, 24, 25, 26, 27, 28, 29, 30, 31, 32, 33, 34, 35, 36, 37, 38, 39, 40, 41, 42, 43, 44, 45, 46, 47, 48, 49, 50, 51, 52, 53, 54, 55, 56, 57, 58, 59, 60, 61, 62, 63, 64, 65, 66, 67, 68, 69, 70, 71, 72, 73, 74, 75, 76, 79, 80, 81, 82, 83, 84, 85], ([zO w0 5 [.ref (d0 0), .ref (dk 0), .int (iI iK), .ref w1, .int (iI n), .ref t0, .ref w2], zR cs w1 4 (afF (tg n) (dx 0) (df 0) (dg 0) (de 0))] ++ (bkW cy (d0, M, L, fu, fn) ++ (bkW cy (dk, Mk, Lk, uk, gk) ++ (bkW cy (dx, Mx, Lx, ux, gx) ++ (bkW cy (df, Mf, Lf, uf, gf) ++ (bkW cy (dg, Mg, Lg, ug, gg) ++ (bkW cy (de, Me, Le, ue, ge) ++ ([zO t0 4 [.int (iI ty), .ref t1], zA cy t1 60 fv, zA cy w2 32 dz, zA cy (mm 2) 3120 Hs, zA cy (mm 3) 780 Sh, zA cy (mm 4) 60 tx, zA cy (mm 5) 3 hd, zA cy (mm 6) 32 me, zA cy (mm 7) 96 wk, zA cy (mm 8) 32 fr])))))))), 86, rfl, rfl, rfl, by decide +kernel⟩ rfl rfl rfl rfl (Nat.le_of_ble_eq_true rfl) hl.1 dL_law_710 ⟨Nat.le_of_ble_eq_true rfl, Nat.le_of_ble_eq_true rfl⟩ (fun H locs wd => ?_)
  refine z_same C (tgt := 718) rfl dL_law_713 (by decide) ?_
  exact NX iK n ty fv dz Hs Sh tx hd me wk fr (d0, M, L, fu, fn) (dk, Mk, Lk, uk, gk) (dx, Mx, Lx, ux, gx) (df, Mf, Lf, uf, gf) (dg, Mg, Lg, ug, gg) (de, Me, Le, ue, ge) ⟨hn, hiK, htxr, hhd, ⟨vB, vK⟩, ⟨vX, vF, vG, vE⟩, hh⟩ H locs ls hl wd
