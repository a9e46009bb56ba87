set_option maxRecDepth 100000 in
set_option maxHeartbeats 20000000 in
theorem lf_setCode {p : Program} {l : Launch} {e : Env} {s : State} {m : MethodId} {below : List Frame} {meth : Method} {c : Code} {D : va_G} {b Ls : Nat} {xs : Nat → Int32} {cy cs : ClassId} {w0 w1 t0 t1 w2 : Nat} {mm : Nat → Nat} {i : Int} (C : CallFix p m c cL_law 4 s #[Value.ref b] wsL_law RL) (hX : va_X b Ls xs s s.heap) (hbl : b < s.heap.size) (hLs : Ls ≤ 2560) (hi : 0 ≤ i ∧ i + 5 ≤ (Ls : Int)) (NX : lNX p l e s m below meth c b D cy cs w0 w1 t0 t1 w2 mm i 718) : lNX p l e s m below meth c b D cy cs w0 w1 t0 t1 w2 mm i 152 := by
  intro iK n ty fv dz Hs Sh tx hd me wk fr B K X F G E hI H locs ls hl wd
  obtain ⟨d0, M, L, fu, fn⟩ := B
  obtain ⟨dk, Mk, Lk, uk, gk⟩ := K
  obtain ⟨dx, Mx, Lx, ux, gx⟩ := X
  obtain ⟨df, Mf, Lf, uf, gf⟩ := F
  obtain ⟨dg, Mg, Lg, ug, gg⟩ := G
  obtain ⟨de, Me, Le, ue, ge⟩ := E
  obtain ⟨hn, hiK, htxr, hhd, ⟨vB, vK⟩, ⟨vX, vF, vG, vE⟩, hh⟩ := hI
  have hvB : vO M L fu := vB
  obtain ⟨hrk, hm, ho, ht, h5, h9, h10, hme, hme2, hwk, hbs⟩ := vO_all hvB
  obtain ⟨hwr, huf, hu, hso, hoT, hE, h8e, hL, hL2, h7, hln, hlt, h8⟩ := vO_all2 hvB
  obtain ⟨hli, hli2, hwa, hwa2, hb1, hb1a, hb2, hb2a⟩ := vO_all3 hvB
  have h572 := vO_572 hvB
  have e572 : sl M 572 0 = M 572 := rfl
  have hp := p2_all hm.1 hm.2
  obtain ⟨hty, hfv, htx, hrel⟩ := id htxr
  have hff1 : ff (fun z9 => vc (tx z9)) ty (1 + 0) = ff fv ty 1 := (ff_cong hty.1 hrel).symm
  have hff2 : ff (fun z9 => vc (tx z9)) ty (1 + 1) = ff fv ty 2 := (ff_cong hty.1 hrel).symm
  have hfl1 := ff_le (f := fv) (hi := 1) hty
  have hfl2 := ff_le (f := fv) (hi := 2) hty
  have hbA : ¬ (fun q : Nat => s.heap.size ≤ q) b := Nat.not_le.mpr hbl
  have hA : ∀ q : Nat, s.heap.size ≤ q → (fun q : Nat => s.heap.size ≤ q) q := fun _ h => h
  have wd : Wd D (zT cy cs) (fun q : Nat => s.heap.size ≤ q) s.heap s (LW cy cs w0 w1 t0 t1 w2 mm iK n ty fv dz (afF (tg n) (dx 0) (df 0) (dg 0) (de 0)) (d0, M, L, fu, fn) (dk, Mk, Lk, uk, gk) (dx, Mx, Lx, ux, gx) (df, Mf, Lf, uf, gf) (dg, Mg, Lg, ug, gg) (de, Me, Le, ue, ge) M Hs Sh tx hd me wk fr n iK ty) H locs := wd
  obtain ⟨v1, hv1⟩ : ∃ v, (xs (i + 1).toNat).toInt = v := ⟨_, rfl⟩
  have hr1 := iI_rng (xs (i + 1).toNat)
  rw [hv1] at hr1
  obtain ⟨v2, hv2⟩ : ∃ v, (xs (i + 2).toNat).toInt = v := ⟨_, rfl⟩
  have hr2 := iI_rng (xs (i + 2).toNat)
  rw [hv2] at hr2
  obtain ⟨v3, hv3⟩ : ∃ v, (xs (i + 3).toNat).toInt = v := ⟨_, rfl⟩
  have hr3 := iI_rng (xs (i + 3).toNat)
  rw [hv3] at hr3
  obtain ⟨v4, hv4⟩ : ∃ v, (xs (i + 4).toNat).toInt = v := ⟨_, rfl⟩
  have hr4 := iI_rng (xs (i + 4).toNat)
  rw [hv4] at hr4
  unfold lG
  by_cases hc : (1 ≤ v1 ∧ v1 ≤ 5) ∧ (1 ≤ v2 ∧ v2 ≤ 2 * p2 v1 - 1) ∧ (1 ≤ v3 ∧ v3 ≤ 2 * p2 v1 - 1) ∧ (0 ≤ v4 ∧ v4 ≤ 2 * p2 v1 - 1)
  · skip
    obtain ⟨hc1, hc2, hc3, hc4⟩ := hc
    refine lv_aload_n C.1 C.2.1 dL_law_152 rfl (lv_at hl 1 rfl) ?_
    refine lv_aload_n C.1 C.2.1 dL_law_153 rfl (lv_at hl 0 rfl) ?_
    refine lv_iload_n C.1 C.2.1 dL_law_154 rfl (lv_at hl 3 rfl) ?_
    refine z_iconst C dL_law_155 ?_
    refine z_iadd C dL_law_156 ?_
    refine z_sld C wd hX hbl hbA (v := v1) (by omega) hLs hv1 dL_law_157 ?_
    refine lv_aload_n C.1 C.2.1 dL_law_158 rfl (lv_at hl 0 rfl) ?_
    refine lv_iload_n C.1 C.2.1 dL_law_159 rfl (lv_at hl 3 rfl) ?_
    refine z_iconst C dL_law_160 ?_
    refine z_iadd C dL_law_161 ?_
    refine z_sld C wd hX hbl hbA (v := v2) (by omega) hLs hv2 dL_law_162 ?_
    refine lv_aload_n C.1 C.2.1 dL_law_163 rfl (lv_at hl 0 rfl) ?_
    refine lv_iload_n C.1 C.2.1 dL_law_164 rfl (lv_at hl 3 rfl) ?_
    refine z_iconst C dL_law_165 ?_
    refine z_iadd C dL_law_166 ?_
    refine z_sld C wd hX hbl hbA (v := v3) (by omega) hLs hv3 dL_law_167 ?_
    refine lv_aload_n C.1 C.2.1 dL_law_168 rfl (lv_at hl 0 rfl) ?_
    refine lv_iload_n C.1 C.2.1 dL_law_169 rfl (lv_at hl 3 rfl) ?_
    refine z_iconst C dL_law_170 ?_
    refine z_iadd C dL_law_171 ?_
    refine z_sld C wd hX hbl hbA (v := v4) (by omega) hLs hv4 dL_law_172 ?_
    refine z_cvi C wd hA (As := [.int (iI v1), .int (iI v2), .int (iI v3), .int (iI v4)]) (rest := []) (ws2 := (LW cy cs w0 w1 t0 t1 w2 mm iK (pn n) ty fv dz (afF (tg2 n) (dx 0) (df 0) (dg 0) (de 0)) (d0, scM M v1 v2 v3 v4, 0, fu, fn) (dk, Mk, Lk, uk, gk) (dx, M, L, fu, gx) (df, Mf, Lf, uf, gf) (dg, Mg, Lg, ug, gg) (de, Me, Le, ue, ge) M Hs Sh tx hd me wk fr n iK ty)) (c_X5_setCodeA l D cy cs w0 w1 w2 t0 (dk 0) iK n (d0 0) (d0 1) (d0 2) (d0 3) (d0 4) (d0 5) (d0 6) (d0 7) (d0 8) (d0 9) (d0 10) (d0 11) L M fu fn (dx 0) (dx 1) (dx 2) (dx 3) (dx 4) (dx 5) (dx 6) (dx 7) (dx 8) (dx 9) (dx 10) (dx 11) Lx Mx ux gx (df 0) (df 1) (df 3) (df 7) (dg 0) (dg 1) (dg 3) (dg 7) (de 0) (de 1) (de 3) (de 7) (Mf 5) (Mg 5) (Me 5) v1 v2 v3 v4 (by first | assumption | omega) (by first | assumption | omega) (by first | assumption | omega) (by first | assumption | omega) (by first | assumption | omega) (by first | assumption | omega) (by first | assumption | omega) (by first | assumption | omega)) (cwV 4 C.2.2.2.2 gL_law_X5_setCode rfl rfl rfl (by decide +kernel) ⟨Nat.le_of_ble_eq_true rfl, Nat.le_of_ble_eq_true rfl⟩) [0, 1, 2, 3, 4, 5, 6, 7, 8, 9, 10, 11, 12, 13, 26, 27, 28, 29, 30, 31, 32, 33, 34, 35, 36, 37, 38, 50, 62] rfl rfl rfl ⟨rfl, [14, 15, 16, 17, 18, 19, 20, 21, 22, 23, 24, 25, 39, 40, 41, 42, 43, 44, 45, 46, 47, 48, 49, 51, 52, 53, 54, 55, 56, 57, 58, 59, 60, 61, 63, 64, 65, 66, 67, 68, 69, 70, 71, 72, 73, 74, 75, 76, 77, 78, 79, 80, 81, 82, 83, 84, 85], (bkW cy (dk, Mk, Lk, uk, gk) ++ ([zO (df 1) 0 [.int (iI (Mf 0)), .int (iI (Mf 1)), .ref (df 2)], zA cy (df 2) 3 (sl Mf 2), zO (df 3) 2 [.int (iI (Mf 6)), .int (iI (Mf 7)), .ref (df 4), .ref (df 5), .ref (df 6)], zA cy (df 4) 80 (sl Mf 12), zA cy (df 5) 240 (sl Mf 92), zA cy (df 6) 240 (sl Mf 332), zO (df 7) 1 [.int (iI (Mf 9)), .int (iI Lf), .int (iI (Mf 10)), .int (iI (Mf 11)), .ref (df 8), .ref (df 9), .ref (df 10), .ref (df 11)], zA cy (df 8) 80 (sl Mf 604), zA cy (df 9) 32 (sl Mf 572), zA cy (df 10) 32 gf, zA cy (df 11) 80 uf, zO (dg 1) 0 [.int (iI (Mg 0)), .int (iI (Mg 1)), .ref (dg 2)], zA cy (dg 2) 3 (sl Mg 2), zO (dg 3) 2 [.int (iI (Mg 6)), .int (iI (Mg 7)), .ref (dg 4), .ref (dg 5), .ref (dg 6)], zA cy (dg 4) 80 (sl Mg 12), zA cy (dg 5) 240 (sl Mg 92), zA cy (dg 6) 240 (sl Mg 332), zO (dg 7) 1 [.int (iI (Mg 9)), .int (iI Lg), .int (iI (Mg 10)), .int (iI (Mg 11)), .ref (dg 8), .ref (dg 9), .ref (dg 10), .ref (dg 11)], zA cy (dg 8) 80 (sl Mg 604), zA cy (dg 9) 32 (sl Mg 572), zA cy (dg 10) 32 gg, zA cy (dg 11) 80 ug, zO (de 1) 0 [.int (iI (Me 0)), .int (iI (Me 1)), .ref (de 2)], zA cy (de 2) 3 (sl Me 2), zO (de 3) 2 [.int (iI (Me 6)), .int (iI (Me 7)), .ref (de 4), .ref (de 5), .ref (de 6)], zA cy (de 4) 80 (sl Me 12), zA cy (de 5) 240 (sl Me 92), zA cy (de 6) 240 (sl Me 332), zO (de 7) 1 [.int (iI (Me 9)), .int (iI Le), .int (iI (Me 10)), .int (iI (Me 11)), .ref (de 8), .ref (de 9), .ref (de 10), .ref (de 11)], zA cy (de 8) 80 (sl Me 604), zA cy (de 9) 32 (sl Me 572), zA cy (de 10) 32 ge, zA cy (de 11) 80 ue, zO t0 4 [.int (iI ty), .ref t1], zA cy t1 60 fv, zA cy w2 32 dz, zO (mm 0) 6 [.ref (mm 1), .ref (mm 2), .int (iI n), .ref (mm 3), .int (iI iK), .ref (mm 4), .int (iI ty), .ref (mm 5), .ref (mm 6), .ref (mm 7), .ref (mm 8)], zA cy (mm 1) 780 M, zA cy (mm 2) 3120 Hs, zA cy (mm 3) 780 Sh, zA cy (mm 4) 60 tx, zA cy (mm 5) 3 hd, zA cy (mm 6) 32 me, zA cy (mm 7) 96 wk, zA cy (mm 8) 32 fr])), 86, rfl, rfl, rfl, by decide +kernel⟩ rfl rfl rfl rfl (Nat.le_of_ble_eq_true rfl) hl.1 dL_law_173 ⟨Nat.le_of_ble_eq_true rfl, Nat.le_of_ble_eq_true rfl⟩ (fun H locs wd => ?_)
    refine lv_aload_n C.1 C.2.1 dL_law_176 rfl (lv_at hl 2 rfl) ?_
    refine lv_aload_n C.1 C.2.1 dL_law_177 rfl (lv_at hl 0 rfl) ?_
    refine lv_iload_n C.1 C.2.1 dL_law_178 rfl (lv_at hl 3 rfl) ?_
    refine z_iconst C dL_law_179 ?_
    refine z_iadd C dL_law_180 ?_
    refine z_sld C wd hX hbl hbA (v := v1) (by omega) hLs hv1 dL_law_181 ?_
    refine lv_aload_n C.1 C.2.1 dL_law_182 rfl (lv_at hl 0 rfl) ?_
    refine lv_iload_n C.1 C.2.1 dL_law_183 rfl (lv_at hl 3 rfl) ?_
    refine z_iconst C dL_law_184 ?_
    refine z_iadd C dL_law_185 ?_
    refine z_sld C wd hX hbl hbA (v := v2) (by omega) hLs hv2 dL_law_186 ?_
    refine lv_aload_n C.1 C.2.1 dL_law_187 rfl (lv_at hl 0 rfl) ?_
    refine lv_iload_n C.1 C.2.1 dL_law_188 rfl (lv_at hl 3 rfl) ?_
    refine z_iconst C dL_law_189 ?_
    refine z_iadd C dL_law_190 ?_
    refine z_sld C wd hX hbl hbA (v := v3) (by omega) hLs hv3 dL_law_191 ?_
    refine lv_aload_n C.1 C.2.1 dL_law_192 rfl (lv_at hl 0 rfl) ?_
    refine lv_iload_n C.1 C.2.1 dL_law_193 rfl (lv_at hl 3 rfl) ?_
    refine z_iconst C dL_law_194 ?_
    refine z_iadd C dL_law_195 ?_
    refine z_sld C wd hX hbl hbA (v := v4) (by omega) hLs hv4 dL_law_196 ?_
    refine z_cvi C wd hA (As := [.int (iI v1), .int (iI v2), .int (iI v3), .int (iI v4)]) (rest := [.int (iI (oT v4))]) (ws2 := (LW cy cs w0 w1 t0 t1 w2 mm iK (pn n) ty fv dz (afF (tg2 n) (dx 0) (df 0) (dg 0) (de 0)) (d0, scM M v1 v2 v3 v4, 0, fu, fn) (dk, Mk, Lk, uk, gk) (dx, M, L, fu, gx) (df, Mf, Lf, uf, gf) (dg, Mg, Lg, ug, gg) (de, Me, Le, ue, ge) (scM M v1 v2 v3 v4) (recH M Hs n) Sh tx hd me wk fr (pn n) iK ty)) (c_msetCodeA l D cy cs (mm 0) (mm 1) (mm 2) (mm 3) (mm 4) (mm 5) (mm 6) (mm 7) (mm 8) n iK ty M Hs v1 v2 v3 v4 (by first | assumption | omega) (by first | assumption | omega) (by first | assumption | omega) (by first | assumption | omega) (by first | assumption | omega)) (cwV 4 C.2.2.2.2 gL_law_X6_setCode rfl rfl rfl (by decide +kernel) ⟨Nat.le_of_ble_eq_true rfl, Nat.le_of_ble_eq_true rfl⟩) [77, 78, 79] rfl rfl rfl ⟨rfl, [0, 1, 2, 3, 4, 5, 6, 7, 8, 9, 10, 11, 12, 13, 14, 15, 16, 17, 18, 19, 20, 21, 22, 23, 24, 25, 26, 27, 28, 29, 30, 31, 32, 33, 34, 35, 36, 37, 38, 39, 40, 41, 42, 43, 44, 45, 46, 47, 48, 49, 50, 51, 52, 53, 54, 55, 56, 57, 58, 59, 60, 61, 62, 63, 64, 65, 66, 67, 68, 69, 70, 71, 72, 73, 74, 75, 76, 80, 81, 82, 83, 84, 85], ([zO w0 5 [.ref (d0 0), .ref (dk 0), .int (iI iK), .ref w1, .int (iI (pn n)), .ref t0, .ref w2], zR cs w1 4 (afF (tg2 n) (dx 0) (df 0) (dg 0) (de 0))] ++ (bkW cy (d0, scM M v1 v2 v3 v4, 0, fu, fn) ++ (bkW cy (dk, Mk, Lk, uk, gk) ++ (bkW cy (dx, M, L, fu, gx) ++ (bkW cy (df, Mf, Lf, uf, gf) ++ (bkW cy (dg, Mg, Lg, ug, gg) ++ (bkW cy (de, Me, Le, ue, ge) ++ ([zO t0 4 [.int (iI ty), .ref t1], zA cy t1 60 fv, zA cy w2 32 dz, zA cy (mm 3) 780 Sh, zA cy (mm 4) 60 tx, zA cy (mm 5) 3 hd, zA cy (mm 6) 32 me, zA cy (mm 7) 96 wk, zA cy (mm 8) 32 fr])))))))), 86, rfl, rfl, rfl, by decide +kernel⟩ rfl rfl rfl rfl (Nat.le_of_ble_eq_true rfl) hl.1 dL_law_197 ⟨Nat.le_of_ble_eq_true rfl, Nat.le_of_ble_eq_true rfl⟩ (fun H locs wd => ?_)
    refine z_same C (tgt := 718) rfl dL_law_200 (by decide) ?_
    exact lN_rec NX hn hiK htxr hhd (show vB_ (d0, scM M v1 v2 v3 v4, 0, fu, fn) from vO_sc hvB hc1 hc2 hc3 hc4) vK (show vB_ (dx, M, L, fu, gx) from hvB) vF vG vE hh hl wd
  · skip
    refine lv_aload_n C.1 C.2.1 dL_law_152 rfl (lv_at hl 1 rfl) ?_
    refine lv_aload_n C.1 C.2.1 dL_law_153 rfl (lv_at hl 0 rfl) ?_
    refine lv_iload_n C.1 C.2.1 dL_law_154 rfl (lv_at hl 3 rfl) ?_
    refine z_iconst C dL_law_155 ?_
    refine z_iadd C dL_law_156 ?_
    refine z_sld C wd hX hbl hbA (v := v1) (by omega) hLs hv1 dL_law_157 ?_
    refine lv_aload_n C.1 C.2.1 dL_law_158 rfl (lv_at hl 0 rfl) ?_
    refine lv_iload_n C.1 C.2.1 dL_law_159 rfl (lv_at hl 3 rfl) ?_
    refine z_iconst C dL_law_160 ?_
    refine z_iadd C dL_law_161 ?_
    refine z_sld C wd hX hbl hbA (v := v2) (by omega) hLs hv2 dL_law_162 ?_
    refine lv_aload_n C.1 C.2.1 dL_law_163 rfl (lv_at hl 0 rfl) ?_
    refine lv_iload_n C.1 C.2.1 dL_law_164 rfl (lv_at hl 3 rfl) ?_
    refine z_iconst C dL_law_165 ?_
    refine z_iadd C dL_law_166 ?_
    refine z_sld C wd hX hbl hbA (v := v3) (by omega) hLs hv3 dL_law_167 ?_
    refine lv_aload_n C.1 C.2.1 dL_law_168 rfl (lv_at hl 0 rfl) ?_
    refine lv_iload_n C.1 C.2.1 dL_law_169 rfl (lv_at hl 3 rfl) ?_
    refine z_iconst C dL_law_170 ?_
    refine z_iadd C dL_law_171 ?_
    refine z_sld C wd hX hbl hbA (v := v4) (by omega) hLs hv4 dL_law_172 ?_
    refine z_cvi C wd hA (As := [.int (iI v1), .int (iI v2), .int (iI v3), .int (iI v4)]) (rest := []) (ws2 := (LW cy cs w0 w1 t0 t1 w2 mm iK n ty fv dz (afF (tg n) (dx 0) (df 0) (dg 0) (de 0)) (d0, M, L, fu, fn) (dk, Mk, Lk, uk, gk) (dx, Mx, Lx, ux, gx) (df, Mf, Lf, uf, gf) (dg, Mg, Lg, ug, gg) (de, Me, Le, ue, ge) M Hs Sh tx hd me wk fr n iK ty)) (c_X5_setCodeB l D cy cs w0 w1 w2 t0 (d0 0) (dk 0) 0 0 0 0 0 0 0 0 0 0 0 iK n 0 (fun _ => 0) v1 v2 v3 v4 (by first | assumption | omega) (by first | assumption | omega) (by first | assumption | omega) (by first | assumption | omega) (by first | assumption | omega)) (cwV 4 C.2.2.2.2 gL_law_X5_setCode rfl rfl rfl (by decide +kernel) ⟨Nat.le_of_ble_eq_true rfl, Nat.le_of_ble_eq_true rfl⟩) [0] rfl rfl rfl ⟨rfl, [1, 2, 3, 4, 5, 6, 7, 8, 9, 10, 11, 12, 13, 14, 15, 16, 17, 18, 19, 20, 21, 22, 23, 24, 25, 26, 27, 28, 29, 30, 31, 32, 33, 34, 35, 36, 37, 38, 39, 40, 41, 42, 43, 44, 45, 46, 47, 48, 49, 50, 51, 52, 53, 54, 55, 56, 57, 58, 59, 60, 61, 62, 63, 64, 65, 66, 67, 68, 69, 70, 71, 72, 73, 74, 75, 76, 77, 78, 79, 80, 81, 82, 83, 84, 85], ([zR cs w1 4 (afF (tg n) (dx 0) (df 0) (dg 0) (de 0))] ++ (bkW cy (d0, M, L, fu, fn) ++ (bkW cy (dk, Mk, Lk, uk, gk) ++ (bkW cy (dx, Mx, Lx, ux, gx) ++ (bkW cy (df, Mf, Lf, uf, gf) ++ (bkW cy (dg, Mg, Lg, ug, gg) ++ (bkW cy (de, Me, Le, ue, ge) ++ ([zO t0 4 [.int (iI ty), .ref t1], zA cy t1 60 fv, zA cy w2 32 dz, zO (mm 0) 6 [.ref (mm 1), .ref (mm 2), .int (iI n), .ref (mm 3), .int (iI iK), .ref (mm 4), .int (iI ty), .ref (mm 5), .ref (mm 6), .ref (mm 7), .ref (mm 8)], zA cy (mm 1) 780 M, zA cy (mm 2) 3120 Hs, zA cy (mm 3) 780 Sh, zA cy (mm 4) 60 tx, zA cy (mm 5) 3 hd, zA cy (mm 6) 32 me, zA cy (mm 7) 96 wk, zA cy (mm 8) 32 fr])))))))), 86, rfl, rfl, rfl, by decide +kernel⟩ rfl rfl rfl rfl (Nat.le_of_ble_eq_true rfl) hl.1 dL_law_173 ⟨Nat.le_of_ble_eq_true rfl, Nat.le_of_ble_eq_true rfl⟩ (fun H locs wd => ?_)
    refine lv_aload_n C.1 C.2.1 dL_law_176 rfl (lv_at hl 2 rfl) ?_
    refine lv_aload_n C.1 C.2.1 dL_law_177 rfl (lv_at hl 0 rfl) ?_
    refine lv_iload_n C.1 C.2.1 dL_law_178 rfl (lv_at hl 3 rfl) ?_
    refine z_iconst C dL_law_179 ?_
    refine z_iadd C dL_law_180 ?_
    refine z_sld C wd hX hbl hbA (v := v1) (by omega) hLs hv1 dL_law_181 ?_
    refine lv_aload_n C.1 C.2.1 dL_law_182 rfl (lv_at hl 0 rfl) ?_
    refine lv_iload_n C.1 C.2.1 dL_law_183 rfl (lv_at hl 3 rfl) ?_
    refine z_iconst C dL_law_184 ?_
    refine z_iadd C dL_law_185 ?_
    refine z_sld C wd hX hbl hbA (v := v2) (by omega) hLs hv2 dL_law_186 ?_
    refine lv_aload_n C.1 C.2.1 dL_law_187 rfl (lv_at hl 0 rfl) ?_
    refine lv_iload_n C.1 C.2.1 dL_law_188 rfl (lv_at hl 3 rfl) ?_
    refine z_iconst C dL_law_189 ?_
    refine z_iadd C dL_law_190 ?_
    refine z_sld C wd hX hbl hbA (v := v3) (by omega) hLs hv3 dL_law_191 ?_
    refine lv_aload_n C.1 C.2.1 dL_law_192 rfl (lv_at hl 0 rfl) ?_
    refine lv_iload_n C.1 C.2.1 dL_law_193 rfl (lv_at hl 3 rfl) ?_
    refine z_iconst C dL_law_194 ?_
    refine z_iadd C dL_law_195 ?_
    refine z_sld C wd hX hbl hbA (v := v4) (by omega) hLs hv4 dL_law_196 ?_
    refine z_cvi C wd hA (As := [.int (iI v1), .int (iI v2), .int (iI v3), .int (iI v4)]) (rest := [.int (iI (-2))]) (ws2 := (LW cy cs w0 w1 t0 t1 w2 mm iK n ty fv dz (afF (tg n) (dx 0) (df 0) (dg 0) (de 0)) (d0, M, L, fu, fn) (dk, Mk, Lk, uk, gk) (dx, Mx, Lx, ux, gx) (df, Mf, Lf, uf, gf) (dg, Mg, Lg, ug, gg) (de, Me, Le, ue, ge) M Hs Sh tx hd me wk fr n iK ty)) (c_msetCodeB l D cy cs (mm 0) (mm 1) (mm 2) (mm 3) (mm 4) (mm 5) (mm 6) (mm 7) (mm 8) n iK ty (fun _ => 0) v1 v2 v3 v4 (by first | assumption | omega) (by first | assumption | omega) (by first | assumption | omega) (by first | assumption | omega) (by first | assumption | omega)) (cwV 4 C.2.2.2.2 gL_law_X6_setCode rfl rfl rfl (by decide +kernel) ⟨Nat.le_of_ble_eq_true rfl, Nat.le_of_ble_eq_true rfl⟩) [77] rfl rfl rfl ⟨rfl, [0, 1, 2, 3, 4, 5, 6, 7, 8, 9, 10, 11, 12, 13, 14, 15, 16, 17, 18, 19, 20, 21, 22, 23, 24, 25, 26, 27, 28, 29, 30, 31, 32, 33, 34, 35, 36, 37, 38, 39, 40, 41, 42, 43, 44, 45, 46, 47, 48, 49, 50, 51, 52, 53, 54, 55, 56, 57, 58, 59, 60, 61, 62, 63, 64, 65, 66, 67, 68, 69, 70, 71, 72, 73, 74, 75, 76, 78, 79, 80, 81, 82, 83, 84, 85], ([zO w0 5 [.ref (d0 0), .ref (dk 0), .int (iI iK), .ref w1, .int (iI n), .ref t0, .ref w2], zR cs w1 4 (afF (tg n) (dx 0) (df 0) (dg 0) (de 0))] ++ (bkW cy (d0, M, L, fu, fn) ++ (bkW cy (dk, Mk, Lk, uk, gk) ++ (bkW cy (dx, Mx, Lx, ux, gx) ++ (bkW cy (df, Mf, Lf, uf, gf) ++ (bkW cy (dg, Mg, Lg, ug, gg) ++ (bkW cy (de, Me, Le, ue, ge) ++ ([zO t0 4 [.int (iI ty), .ref t1], zA cy t1 60 fv, zA cy w2 32 dz, zA cy (mm 1) 780 M, zA cy (mm 2) 3120 Hs, zA cy (mm 3) 780 Sh, zA cy (mm 4) 60 tx, zA cy (mm 5) 3 hd, zA cy (mm 6) 32 me, zA cy (mm 7) 96 wk, zA cy (mm 8) 32 fr])))))))), 86, rfl, rfl, rfl, by decide +kernel⟩ rfl rfl rfl rfl (Nat.le_of_ble_eq_true rfl) hl.1 dL_law_197 ⟨Nat.le_of_ble_eq_true rfl, Nat.le_of_ble_eq_true rfl⟩ (fun H locs wd => ?_)
    refine z_same C (tgt := 718) rfl dL_law_200 (by decide) ?_
    exact NX iK n ty fv dz Hs Sh tx hd me wk fr (d0, M, L, fu, fn) (dk, Mk, Lk, uk, gk) (dx, Mx, Lx, ux, gx) (df, Mf, Lf, uf, gf) (dg, Mg, Lg, ug, gg) (de, Me, Le, ue, ge) ⟨hn, hiK, htxr, hhd, ⟨vB, vK⟩, ⟨vX, vF, vG, vE⟩, hh⟩ H locs ls hl wd
set_option maxRecDepth 100000 in
set_option maxHeartbeats 20000000 in
theorem lf_setDepth {p : Program} {l : Launch} {e : Env} {s : State} {m : MethodId} {below : List Frame} {meth : Method} {c : Code} {D : va_G} {b Ls : Nat} {xs : Nat → Int32} {cy cs : ClassId} {w0 w1 t0 t1 w2 : Nat} {mm : Nat → Nat} {i : Int} (C : CallFix p m c cL_law 4 s #[Value.ref b] wsL_law RL) (hX : va_X b Ls xs s s.heap) (hbl : b < s.heap.size) (hLs : Ls ≤ 2560) (hi : 0 ≤ i ∧ i + 5 ≤ (Ls : Int)) (NX : lNX p l e s m below meth c b D cy cs w0 w1 t0 t1 w2 mm i 718) : lNX p l e s m below meth c b D cy cs w0 w1 t0 t1 w2 mm i 205 := by
  intro iK n ty fv dz Hs Sh tx hd me wk fr B K X F G E hI H locs ls hl wd
  obtain ⟨d0, M, L, fu, fn⟩ := B
  obtain ⟨dk, Mk, Lk, uk, gk⟩ := K
  obtain ⟨dx, Mx, Lx, ux, gx⟩ := X
  obtain ⟨df, Mf, Lf, uf, gf⟩ := F
  obtain ⟨dg, Mg, Lg, ug, gg⟩ := G
  obtain ⟨de, Me, Le, ue, ge⟩ := E
  obtain ⟨hn, hiK, htxr, hhd, ⟨vB, vK⟩, ⟨vX, vF, vG, vE⟩, hh⟩ := hI
  have hvB : vO M L fu := vB
  obtain ⟨hrk, hm, ho, ht, h5, h9, h10, hme, hme2, hwk, hbs⟩ := vO_all hvB
  obtain ⟨hwr, huf, hu, hso, hoT, hE, h8e, hL, hL2, h7, hln, hlt, h8⟩ := vO_all2 hvB
  obtain ⟨hli, hli2, hwa, hwa2, hb1, hb1a, hb2, hb2a⟩ := vO_all3 hvB
  have h572 := vO_572 hvB
  have e572 : sl M 572 0 = M 572 := rfl
  have hp := p2_all hm.1 hm.2
  obtain ⟨hty, hfv, htx, hrel⟩ := id htxr
  have hff1 : ff (fun z9 => vc (tx z9)) ty (1 + 0) = ff fv ty 1 := (ff_cong hty.1 hrel).symm
  have hff2 : ff (fun z9 => vc (tx z9)) ty (1 + 1) = ff fv ty 2 := (ff_cong hty.1 hrel).symm
  have hfl1 := ff_le (f := fv) (hi := 1) hty
  have hfl2 := ff_le (f := fv) (hi := 2) hty
  have hbA : ¬ (fun q : Nat => s.heap.size ≤ q) b := Nat.not_le.mpr hbl
  have hA : ∀ q : Nat, s.heap.size ≤ q → (fun q : Nat => s.heap.size ≤ q) q := fun _ h => h
  have wd : Wd D (zT cy cs) (fun q : Nat => s.heap.size ≤ q) s.heap s (LW cy cs w0 w1 t0 t1 w2 mm iK n ty fv dz (afF (tg n) (dx 0) (df 0) (dg 0) (de 0)) (d0, M, L, fu, fn) (dk, Mk, Lk, uk, gk) (dx, Mx, Lx, ux, gx) (df, Mf, Lf, uf, gf) (dg, Mg, Lg, ug, gg) (de, Me, Le, ue, ge) M Hs Sh tx hd me wk fr n iK ty) H locs := wd
  obtain ⟨v1, hv1⟩ : ∃ v, (xs (i + 1).toNat).toInt = v := ⟨_, rfl⟩
  have hr1 := iI_rng (xs (i + 1).toNat)
  rw [hv1] at hr1
  unfold lG
  by_cases hc : (2 ≤ v1 ∧ v1 ≤ 40) ∧ M 9 = 0 ∧ M 5 ≠ v1
  · skip
    obtain ⟨hc1, hc2, hc3⟩ := hc
    refine lv_aload_n C.1 C.2.1 dL_law_205 rfl (lv_at hl 1 rfl) ?_
    refine lv_aload_n C.1 C.2.1 dL_law_206 rfl (lv_at hl 0 rfl) ?_
    refine lv_iload_n C.1 C.2.1 dL_law_207 rfl (lv_at hl 3 rfl) ?_
    refine z_iconst C dL_law_208 ?_
    refine z_iadd C dL_law_209 ?_
    refine z_sld C wd hX hbl hbA (v := v1) (by omega) hLs hv1 dL_law_210 ?_
    refine z_cvi C wd hA (As := [.int (iI v1)]) (rest := []) (ws2 := (LW cy cs w0 w1 t0 t1 w2 mm iK (pn n) ty fv dz (afF (tg2 n) (dx 0) (df 0) (dg 0) (de 0)) (d0, sdM M v1, L, fu, fn) (dk, Mk, Lk, uk, gk) (dx, M, L, fu, gx) (df, Mf, Lf, uf, gf) (dg, Mg, Lg, ug, gg) (de, Me, Le, ue, ge) M Hs Sh tx hd me wk fr n iK ty)) (c_X5_setDepthA l D cy cs w0 w1 w2 t0 (dk 0) iK n (d0 0) (d0 1) (d0 2) (d0 3) (d0 4) (d0 5) (d0 6) (d0 7) (d0 8) (d0 9) (d0 10) (d0 11) L M fu fn (dx 0) (dx 1) (dx 2) (dx 3) (dx 4) (dx 5) (dx 6) (dx 7) (dx 8) (dx 9) (dx 10) (dx 11) Lx Mx ux gx (df 0) (df 1) (df 3) (df 7) (dg 0) (dg 1) (dg 3) (dg 7) (de 0) (de 1) (de 3) (de 7) (Mf 5) (Mg 5) (Me 5) v1 (by first | assumption | omega) (by first | assumption | omega) (by first | assumption | omega) (by first | assumption | omega) (by first | assumption | omega) (by first | assumption | omega) (by first | assumption | omega)) (cwV 1 C.2.2.2.2 gL_law_X5_setDepth rfl rfl rfl (by decide +kernel) ⟨Nat.le_of_ble_eq_true rfl, Nat.le_of_ble_eq_true rfl⟩) [0, 1, 2, 3, 4, 5, 6, 7, 8, 9, 10, 11, 12, 13, 26, 27, 28, 29, 30, 31, 32, 33, 34, 35, 36, 37, 38, 50, 62] rfl rfl rfl ⟨rfl, [14, 15, 16, 17, 18, 19, 20, 21, 22, 23, 24, 25, 39, 40, 41, 42, 43, 44, 45, 46, 47, 48, 49, 51, 52, 53, 54, 55, 56, 57, 58, 59, 60, 61, 63, 64, 65, 66, 67, 68, 69, 70, 71, 72, 73, 74, 75, 76, 77, 78, 79, 80, 81, 82, 83, 84, 85], (bkW cy (dk, Mk, Lk, uk, gk) ++ ([zO (df 1) 0 [.int (iI (Mf 0)), .int (iI (Mf 1)), .ref (df 2)], zA cy (df 2) 3 (sl Mf 2), zO (df 3) 2 [.int (iI (Mf 6)), .int (iI (Mf 7)), .ref (df 4), .ref (df 5), .ref (df 6)], zA cy (df 4) 80 (sl Mf 12), zA cy (df 5) 240 (sl Mf 92), zA cy (df 6) 240 (sl Mf 332), zO (df 7) 1 [.int (iI (Mf 9)), .int (iI Lf), .int (iI (Mf 10)), .int (iI (Mf 11)), .ref (df 8), .ref (df 9), .ref (df 10), .ref (df 11)], zA cy (df 8) 80 (sl Mf 604), zA cy (df 9) 32 (sl Mf 572), zA cy (df 10) 32 gf, zA cy (df 11) 80 uf, zO (dg 1) 0 [.int (iI (Mg 0)), .int (iI (Mg 1)), .ref (dg 2)], zA cy (dg 2) 3 (sl Mg 2), zO (dg 3) 2 [.int (iI (Mg 6)), .int (iI (Mg 7)), .ref (dg 4), .ref (dg 5), .ref (dg 6)], zA cy (dg 4) 80 (sl Mg 12), zA cy (dg 5) 240 (sl Mg 92), zA cy (dg 6) 240 (sl Mg 332), zO (dg 7) 1 [.int (iI (Mg 9)), .int (iI Lg), .int (iI (Mg 10)), .int (iI (Mg 11)), .ref (dg 8), .ref (dg 9), .ref (dg 10), .ref (dg 11)], zA cy (dg 8) 80 (sl Mg 604), zA cy (dg 9) 32 (sl Mg 572), zA cy (dg 10) 32 gg, zA cy (dg 11) 80 ug, zO (de 1) 0 [.int (iI (Me 0)), .int (iI (Me 1)), .ref (de 2)], zA cy (de 2) 3 (sl Me 2), zO (de 3) 2 [.int (iI (Me 6)), .int (iI (Me 7)), .ref (de 4), .ref (de 5), .ref (de 6)], zA cy (de 4) 80 (sl Me 12), zA cy (de 5) 240 (sl Me 92), zA cy (de 6) 240 (sl Me 332), zO (de 7) 1 [.int (iI (Me 9)), .int (iI Le), .int (iI (Me 10)), .int (iI (Me 11)), .ref (de 8), .ref (de 9), .ref (de 10), .ref (de 11)], zA cy (de 8) 80 (sl Me 604), zA cy (de 9) 32 (sl Me 572), zA cy (de 10) 32 ge, zA cy (de 11) 80 ue, zO t0 4 [.int (iI ty), .ref t1], zA cy t1 60 fv, zA cy w2 32 dz, zO (mm 0) 6 [.ref (mm 1), .ref (mm 2), .int (iI n), .ref (mm 3), .int (iI iK), .ref (mm 4), .int (iI ty), .ref (mm 5), .ref (mm 6), .ref (mm 7), .ref (mm 8)], zA cy (mm 1) 780 M, zA cy (mm 2) 3120 Hs, zA cy (mm 3) 780 Sh, zA cy (mm 4) 60 tx, zA cy (mm 5) 3 hd, zA cy (mm 6) 32 me, zA cy (mm 7) 96 wk, zA cy (mm 8) 32 fr])), 86, rfl, rfl, rfl, by decide +kernel⟩ rfl rfl rfl rfl (Nat.le_of_ble_eq_true rfl) hl.1 dL_law_211 ⟨Nat.le_of_ble_eq_true rfl, Nat.le_of_ble_eq_true rfl⟩ (fun H locs wd => ?_)
    refine lv_aload_n C.1 C.2.1 dL_law_214 rfl (lv_at hl 2 rfl) ?_
    refine lv_aload_n C.1 C.2.1 dL_law_215 rfl (lv_at hl 0 rfl) ?_
    refine lv_iload_n C.1 C.2.1 dL_law_216 rfl (lv_at hl 3 rfl) ?_
    refine z_iconst C dL_law_217 ?_
    refine z_iadd C dL_law_218 ?_
    refine z_sld C wd hX hbl hbA (v := v1) (by omega) hLs hv1 dL_law_219 ?_
    refine z_cvi C wd hA (As := [.int (iI v1)]) (rest := [.int (iI (M 5))]) (ws2 := (LW cy cs w0 w1 t0 t1 w2 mm iK (pn n) ty fv dz (afF (tg2 n) (dx 0) (df 0) (dg 0) (de 0)) (d0, sdM M v1, L, fu, fn) (dk, Mk, Lk, uk, gk) (dx, M, L, fu, gx) (df, Mf, Lf, uf, gf) (dg, Mg, Lg, ug, gg) (de, Me, Le, ue, ge) (sdM M v1) (recH M Hs n) Sh tx hd me wk fr (pn n) iK ty)) (c_msetDepthA l D cy cs (mm 0) (mm 1) (mm 2) (mm 3) (mm 4) (mm 5) (mm 6) (mm 7) (mm 8) n iK ty M Hs v1 (by first | assumption | omega) (by first | assumption | omega) (by first | assumption | omega) (by first | assumption | omega)) (cwV 1 C.2.2.2.2 gL_law_X6_setDepth rfl rfl rfl (by decide +kernel) ⟨Nat.le_of_ble_eq_true rfl, Nat.le_of_ble_eq_true rfl⟩) [77, 78, 79] rfl rfl rfl ⟨rfl, [0, 1, 2, 3, 4, 5, 6, 7, 8, 9, 10, 11, 12, 13, 14, 15, 16, 17, 18, 19, 20, 21, 22, 23, 24, 25, 26, 27, 28, 29, 30, 31, 32, 33, 34, 35, 36, 37, 38, 39, 40, 41, 42, 43, 44, 45, 46, 47, 48, 49, 50, 51, 52, 53, 54, 55, 56, 57, 58, 59, 60, 61, 62, 63, 64, 65, 66, 67, 68, 69, 70, 71, 72, 73, 74, 75, 76, 80, 81, 82, 83, 84, 85], ([zO w0 5 [.ref (d0 0), .ref (dk 0), .int (iI iK), .ref w1, .int (iI (pn n)), .ref t0, .ref w2], zR cs w1 4 (afF (tg2 n) (dx 0) (df 0) (dg 0) (de 0))] ++ (bkW cy (d0, sdM M v1, L, fu, fn) ++ (bkW cy (dk, Mk, Lk, uk, gk) ++ (bkW cy (dx, M, L, fu, gx) ++ (bkW cy (df, Mf, Lf, uf, gf) ++ (bkW cy (dg, Mg, Lg, ug, gg) ++ (bkW cy (de, Me, Le, ue, ge) ++ ([zO t0 4 [.int (iI ty), .ref t1], zA cy t1 60 fv, zA cy w2 32 dz, zA cy (mm 3) 780 Sh, zA cy (mm 4) 60 tx, zA cy (mm 5) 3 hd, zA cy (mm 6) 32 me, zA cy (mm 7) 96 wk, zA cy (mm 8) 32 fr])))))))), 86, rfl, rfl, rfl, by decide +kernel⟩ rfl rfl rfl rfl (Nat.le_of_ble_eq_true rfl) hl.1 dL_law_220 ⟨Nat.le_of_ble_eq_true rfl, Nat.le_of_ble_eq_true rfl⟩ (fun H locs wd => ?_)
    refine z_same C (tgt := 718) rfl dL_law_223 (by decide) ?_
    exact lN_rec NX hn hiK htxr hhd (show vB_ (d0, sdM M v1, L, fu, fn) from vO_sd hvB hc1) vK (show vB_ (dx, M, L, fu, gx) from hvB) vF vG vE hh hl wd
  · skip
    refine lv_aload_n C.1 C.2.1 dL_law_205 rfl (lv_at hl 1 rfl) ?_
    refine lv_aload_n C.1 C.2.1 dL_law_206 rfl (lv_at hl 0 rfl) ?_
    refine lv_iload_n C.1 C.2.1 dL_law_207 rfl (lv_at hl 3 rfl) ?_
    refine z_iconst C dL_law_208 ?_
    refine z_iadd C dL_law_209 ?_
    refine z_sld C wd hX hbl hbA (v := v1) (by omega) hLs hv1 dL_law_210 ?_
    refine z_cvi C wd hA (As := [.int (iI v1)]) (rest := []) (ws2 := (LW cy cs w0 w1 t0 t1 w2 mm iK n ty fv dz (afF (tg n) (dx 0) (df 0) (dg 0) (de 0)) (d0, M, L, fu, fn) (dk, Mk, Lk, uk, gk) (dx, Mx, Lx, ux, gx) (df, Mf, Lf, uf, gf) (dg, Mg, Lg, ug, gg) (de, Me, Le, ue, ge) M Hs Sh tx hd me wk fr n iK ty)) (c_X5_setDepthB l D cy cs w0 w1 w2 t0 (d0 0) (dk 0) (d0 1) 0 (d0 3) 0 0 0 (d0 7) (d0 8) (d0 9) (d0 10) (d0 11) iK n L M v1 (by first | assumption | omega) (by first | assumption | omega) (by first | assumption | omega) (by first | assumption | omega)) (cwV 1 C.2.2.2.2 gL_law_X5_setDepth rfl rfl rfl (by decide +kernel) ⟨Nat.le_of_ble_eq_true rfl, Nat.le_of_ble_eq_true rfl⟩) [0, 2, 9] rfl rfl rfl ⟨rfl, [1, 3, 4, 5, 6, 7, 8, 10, 11, 12, 13, 14, 15, 16, 17, 18, 19, 20, 21, 22, 23, 24, 25, 26, 27, 28, 29, 30, 31, 32, 33, 34, 35, 36, 37, 38, 39, 40, 41, 42, 43, 44, 45, 46, 47, 48, 49, 50, 51, 52, 53, 54, 55, 56, 57, 58, 59, 60, 61, 62, 63, 64, 65, 66, 67, 68, 69, 70, 71, 72, 73, 74, 75, 76, 77, 78, 79, 80, 81, 82, 83, 84, 85], ([zR cs w1 4 (afF (tg n) (dx 0) (df 0) (dg 0) (de 0)), zO (d0 1) 0 [.int (iI (M 0)), .int (iI (M 1)), .ref (d0 2)], zA cy (d0 2) 3 (sl M 2), zO (d0 3) 2 [.int (iI (M 6)), .int (iI (M 7)), .ref (d0 4), .ref (d0 5), .ref (d0 6)], zA cy (d0 4) 80 (sl M 12), zA cy (d0 5) 240 (sl M 92), zA cy (d0 6) 240 (sl M 332), zA cy (d0 8) 80 (sl M 604), zA cy (d0 9) 32 (sl M 572), zA cy (d0 10) 32 fn, zA cy (d0 11) 80 fu] ++ (bkW cy (dk, Mk, Lk, uk, gk) ++ (bkW cy (dx, Mx, Lx, ux, gx) ++ (bkW cy (df, Mf, Lf, uf, gf) ++ (bkW cy (dg, Mg, Lg, ug, gg) ++ (bkW cy (de, Me, Le, ue, ge) ++ ([zO t0 4 [.int (iI ty), .ref t1], zA cy t1 60 fv, zA cy w2 32 dz, zO (mm 0) 6 [.ref (mm 1), .ref (mm 2), .int (iI n), .ref (mm 3), .int (iI iK), .ref (mm 4), .int (iI ty), .ref (mm 5), .ref (mm 6), .ref (mm 7), .ref (mm 8)], zA cy (mm 1) 780 M, zA cy (mm 2) 3120 Hs, zA cy (mm 3) 780 Sh, zA cy (mm 4) 60 tx, zA cy (mm 5) 3 hd, zA cy (mm 6) 32 me, zA cy (mm 7) 96 wk, zA cy (mm 8) 32 fr]))))))), 86, rfl, rfl, rfl, by decide +kernel⟩ rfl rfl rfl rfl (Nat.le_of_ble_eq_true rfl) hl.1 dL_law_211 ⟨Nat.le_of_ble_eq_true rfl, Nat.le_of_ble_eq_true rfl⟩ (fun H locs wd => ?_)
    refine lv_aload_n C.1 C.2.1 dL_law_214 rfl (lv_at hl 2 rfl) ?_
    refine lv_aload_n C.1 C.2.1 dL_law_215 rfl (lv_at hl 0 rfl) ?_
    refine lv_iload_n C.1 C.2.1 dL_law_216 rfl (lv_at hl 3 rfl) ?_
    refine z_iconst C dL_law_217 ?_
    refine z_iadd C dL_law_218 ?_
    refine z_sld C wd hX hbl hbA (v := v1) (by omega) hLs hv1 dL_law_219 ?_
    refine z_cvi C wd hA (As := [.int (iI v1)]) (rest := [.int (iI (sdNo M v1))]) (ws2 := (LW cy cs w0 w1 t0 t1 w2 mm iK n ty fv dz (afF (tg n) (dx 0) (df 0) (dg 0) (de 0)) (d0, M, L, fu, fn) (dk, Mk, Lk, uk, gk) (dx, Mx, Lx, ux, gx) (df, Mf, Lf, uf, gf) (dg, Mg, Lg, ug, gg) (de, Me, Le, ue, ge) M Hs Sh tx hd me wk fr n iK ty)) (c_msetDepthB l D cy cs (mm 0) (mm 1) (mm 2) (mm 3) (mm 4) (mm 5) (mm 6) (mm 7) (mm 8) n iK ty M v1 (by first | assumption | omega) (by first | assumption | omega) (by first | assumption | omega) (by first | assumption | omega)) (cwV 1 C.2.2.2.2 gL_law_X6_setDepth rfl rfl rfl (by decide +kernel) ⟨Nat.le_of_ble_eq_true rfl, Nat.le_of_ble_eq_true rfl⟩) [77, 78] rfl rfl rfl ⟨rfl, [0, 1, 2, 3, 4, 5, 6, 7, 8, 9, 10, 11, 12, 13, 14, 15, 16, 17, 18, 19, 20, 21, 22, 23, 24, 25, 26, 27, 28, 29, 30, 31, 32, 33, 34, 35, 36, 37, 38, 39, 40, 41, 42, 43, 44, 45, 46, 47, 48, 49, 50, 51, 52, 53, 54, 55, 56, 57, 58, 59, 60, 61, 62, 63, 64, 65, 66, 67, 68, 69, 70, 71, 72, 73, 74, 75, 76, 79, 80, 81, 82, 83, 84, 85], ([zO w0 5 [.ref (d0 0), .ref (dk 0), .int (iI iK), .ref w1, .int (iI n), .ref t0, .ref w2], zR cs w1 4 (afF (tg n) (dx 0) (df 0) (dg 0) (de 0))] ++ (bkW cy (d0, M, L, fu, fn) ++ (bkW cy (dk, Mk, Lk, uk, gk) ++ (bkW cy (dx, Mx, Lx, ux, gx) ++ (bkW cy (df, Mf, Lf, uf, gf) ++ (bkW cy (dg, Mg, Lg, ug, gg) ++ (bkW cy (de, Me, Le, ue, ge) ++ ([zO t0 4 [.int (iI ty), .ref t1], zA cy t1 60 fv, zA cy w2 32 dz, zA cy (mm 2) 3120 Hs, zA cy (mm 3) 780 Sh, zA cy (mm 4) 60 tx, zA cy (mm 5) 3 hd, zA cy (mm 6) 32 me, zA cy (mm 7) 96 wk, zA cy (mm 8) 32 fr])))))))), 86, rfl, rfl, rfl, by decide +kernel⟩ rfl rfl rfl rfl (Nat.le_of_ble_eq_true rfl) hl.1 dL_law_220 ⟨Nat.le_of_ble_eq_true rfl, Nat.le_of_ble_eq_true rfl⟩ (fun H locs wd => ?_)
    refine z_same C (tgt := 718) rfl dL_law_223 (by decide) ?_
    exact NX iK n ty fv dz Hs Sh tx hd me wk fr (d0, M, L, fu, fn) (dk, Mk, Lk, uk, gk) (dx, Mx, Lx, ux, gx) (df, Mf, Lf, uf, gf) (dg, Mg, Lg, ug, gg) (de, Me, Le, ue, ge) ⟨hn, hiK, htxr, hhd, ⟨vB, vK⟩, ⟨vX, vF, vG, vE⟩, hh⟩ H locs ls hl wd
set_option maxRecDepth 100000 in
set_option maxHeartbeats 20000000 in
theorem lf_sendTail {p : Program} {l : Launch} {e : Env} {s : State} {m : MethodId} {below : List Frame} {meth : Method} {c : Code} {D : va_G} {b Ls : Nat} {xs : Nat → Int32} {cy cs : ClassId} {w0 w1 t0 t1 w2 : Nat} {mm : Nat → Nat} {i : Int} (C : CallFix p m c cL_law 4 s #[Value.ref b] wsL_law RL) (hX : va_X b Ls xs s s.heap) (hbl : b < s.heap.size) (hLs : Ls ≤ 2560) (hi : 0 ≤ i ∧ i + 5 ≤ (Ls : Int)) (NX : lNX p l e s m below meth c b D cy cs w0 w1 t0 t1 w2 mm i 718) : lNX p l e s m below meth c b D cy cs w0 w1 t0 t1 w2 mm i 241 := by
  intro iK n ty fv dz Hs Sh tx hd me wk fr B K X F G E hI H locs ls hl wd
  obtain ⟨d0, M, L, fu, fn⟩ := B
  obtain ⟨dk, Mk, Lk, uk, gk⟩ := K
  obtain ⟨dx, Mx, Lx, ux, gx⟩ := X
  obtain ⟨df, Mf, Lf, uf, gf⟩ := F
  obtain ⟨dg, Mg, Lg, ug, gg⟩ := G
  obtain ⟨de, Me, Le, ue, ge⟩ := E
  obtain ⟨hn, hiK, htxr, hhd, ⟨vB, vK⟩, ⟨vX, vF, vG, vE⟩, hh⟩ := hI
  have hvB : vO M L fu := vB
  obtain ⟨hrk, hm, ho, ht, h5, h9, h10, hme, hme2, hwk, hbs⟩ := vO_all hvB
  obtain ⟨hwr, huf, hu, hso, hoT, hE, h8e, hL, hL2, h7, hln, hlt, h8⟩ := vO_all2 hvB
  obtain ⟨hli, hli2, hwa, hwa2, hb1, hb1a, hb2, hb2a⟩ := vO_all3 hvB
  have h572 := vO_572 hvB
  have e572 : sl M 572 0 = M 572 := rfl
  have hp := p2_all hm.1 hm.2
  obtain ⟨hty, hfv, htx, hrel⟩ := id htxr
  have hff1 : ff (fun z9 => vc (tx z9)) ty (1 + 0) = ff fv ty 1 := (ff_cong hty.1 hrel).symm
  have hff2 : ff (fun z9 => vc (tx z9)) ty (1 + 1) = ff fv ty 2 := (ff_cong hty.1 hrel).symm
  have hfl1 := ff_le (f := fv) (hi := 1) hty
  have hfl2 := ff_le (f := fv) (hi := 2) hty
  have hbA : ¬ (fun q : Nat => s.heap.size ≤ q) b := Nat.not_le.mpr hbl
  have hA : ∀ q : Nat, s.heap.size ≤ q → (fun q : Nat => s.heap.size ≤ q) q := fun _ h => h
  have wd : Wd D (zT cy cs) (fun q : Nat => s.heap.size ≤ q) s.heap s (LW cy cs w0 w1 t0 t1 w2 mm iK n ty fv dz (afF (tg n) (dx 0) (df 0) (dg 0) (de 0)) (d0, M, L, fu, fn) (dk, Mk, Lk, uk, gk) (dx, Mx, Lx, ux, gx) (df, Mf, Lf, uf, gf) (dg, Mg, Lg, ug, gg) (de, Me, Le, ue, ge) M Hs Sh tx hd me wk fr n iK ty) H locs := wd
  unfold lG
  by_cases hc : M 7 + M 0 ≤ 80
  · skip
    refine lv_aload_n C.1 C.2.1 dL_law_241 rfl (lv_at hl 1 rfl) ?_
    refine z_cvi C wd hA (As := []) (rest := []) (ws2 := (LW cy cs w0 w1 t0 t1 w2 mm iK (pn n) ty fv dz (afF (tg2 n) (dx 0) (df 0) (dg 0) (de 0)) (d0, sdN M (fun _ => 0) (M 0).toNat, L, fu, fn) (dk, Mk, Lk, uk, gk) (dx, M, L, fu, gx) (df, Mf, Lf, uf, gf) (dg, Mg, Lg, ug, gg) (de, Me, Le, ue, ge) M Hs Sh tx hd me wk fr n iK ty)) (c_X5_sendTailA l D cy cs w0 w1 w2 t0 (dk 0) iK n (d0 0) (d0 1) (d0 2) (d0 3) (d0 4) (d0 5) (d0 6) (d0 7) (d0 8) (d0 9) (d0 10) (d0 11) L M fu fn (dx 0) (dx 1) (dx 2) (dx 3) (dx 4) (dx 5) (dx 6) (dx 7) (dx 8) (dx 9) (dx 10) (dx 11) Lx Mx ux gx (df 0) (df 1) (df 3) (df 7) (dg 0) (dg 1) (dg 3) (dg 7) (de 0) (de 1) (de 3) (de 7) (Mf 5) (Mg 5) (Me 5) (by first | assumption | omega) (by first | assumption | omega) (by first | assumption | omega) (by first | assumption | omega) (by first | assumption | omega) (by first | assumption | omega)) (cwV 0 C.2.2.2.2 gL_law_X5_sendTail rfl rfl rfl (by decide +kernel) ⟨Nat.le_of_ble_eq_true rfl, Nat.le_of_ble_eq_true rfl⟩) [0, 1, 2, 3, 4, 5, 6, 7, 8, 9, 10, 11, 12, 13, 26, 27, 28, 29, 30, 31, 32, 33, 34, 35, 36, 37, 38, 50, 62] rfl rfl rfl ⟨rfl, [14, 15, 16, 17, 18, 19, 20, 21, 22, 23, 24, 25, 39, 40, 41, 42, 43, 44, 45, 46, 47, 48, 49, 51, 52, 53, 54, 55, 56, 57, 58, 59, 60, 61, 63, 64, 65, 66, 67, 68, 69, 70, 71, 72, 73, 74, 75, 76, 77, 78, 79, 80, 81, 82, 83, 84, 85], (bkW cy (dk, Mk, Lk, uk, gk) ++ ([zO (df 1) 0 [.int (iI (Mf 0)), .int (iI (Mf 1)), .ref (df 2)], zA cy (df 2) 3 (sl Mf 2), zO (df 3) 2 [.int (iI (Mf 6)), .int (iI (Mf 7)), .ref (df 4), .ref (df 5), .ref (df 6)], zA cy (df 4) 80 (sl Mf 12), zA cy (df 5) 240 (sl Mf 92), zA cy (df 6) 240 (sl Mf 332), zO (df 7) 1 [.int (iI (Mf 9)), .int (iI Lf), .int (iI (Mf 10)), .int (iI (Mf 11)), .ref (df 8), .ref (df 9), .ref (df 10), .ref (df 11)], zA cy (df 8) 80 (sl Mf 604), zA cy (df 9) 32 (sl Mf 572), zA cy (df 10) 32 gf, zA cy (df 11) 80 uf, zO (dg 1) 0 [.int (iI (Mg 0)), .int (iI (Mg 1)), .ref (dg 2)], zA cy (dg 2) 3 (sl Mg 2), zO (dg 3) 2 [.int (iI (Mg 6)), .int (iI (Mg 7)), .ref (dg 4), .ref (dg 5), .ref (dg 6)], zA cy (dg 4) 80 (sl Mg 12), zA cy (dg 5) 240 (sl Mg 92), zA cy (dg 6) 240 (sl Mg 332), zO (dg 7) 1 [.int (iI (Mg 9)), .int (iI Lg), .int (iI (Mg 10)), .int (iI (Mg 11)), .ref (dg 8), .ref (dg 9), .ref (dg 10), .ref (dg 11)], zA cy (dg 8) 80 (sl Mg 604), zA cy (dg 9) 32 (sl Mg 572), zA cy (dg 10) 32 gg, zA cy (dg 11) 80 ug, zO (de 1) 0 [.int (iI (Me 0)), .int (iI (Me 1)), .ref (de 2)], zA cy (de 2) 3 (sl Me 2), zO (de 3) 2 [.int (iI (Me 6)), .int (iI (Me 7)), .ref (de 4), .ref (de 5), .ref (de 6)], zA cy (de 4) 80 (sl Me 12), zA cy (de 5) 240 (sl Me 92), zA cy (de 6) 240 (sl Me 332), zO (de 7) 1 [.int (iI (Me 9)), .int (iI Le), .int (iI (Me 10)), .int (iI (Me 11)), .ref (de 8), .ref (de 9), .ref (de 10), .ref (de 11)], zA cy (de 8) 80 (sl Me 604), zA cy (de 9) 32 (sl Me 572), zA cy (de 10) 32 ge, zA cy (de 11) 80 ue, zO t0 4 [.int (iI ty), .ref t1], zA cy t1 60 fv, zA cy w2 32 dz, zO (mm 0) 6 [.ref (mm 1), .ref (mm 2), .int (iI n), .ref (mm 3), .int (iI iK), .ref (mm 4), .int (iI ty), .ref (mm 5), .ref (mm 6), .ref (mm 7), .ref (mm 8)], zA cy (mm 1) 780 M, zA cy (mm 2) 3120 Hs, zA cy (mm 3) 780 Sh, zA cy (mm 4) 60 tx, zA cy (mm 5) 3 hd, zA cy (mm 6) 32 me, zA cy (mm 7) 96 wk, zA cy (mm 8) 32 fr])), 86, rfl, rfl, rfl, by decide +kernel⟩ rfl rfl rfl rfl (Nat.le_of_ble_eq_true rfl) hl.1 dL_law_242 ⟨Nat.le_of_ble_eq_true rfl, Nat.le_of_ble_eq_true rfl⟩ (fun H locs wd => ?_)
    refine lv_aload_n C.1 C.2.1 dL_law_245 rfl (lv_at hl 2 rfl) ?_
    refine z_cvi C wd hA (As := []) (rest := [.int (iI ((sdN M (fun _ => 0) (M 0).toNat) 7))]) (ws2 := (LW cy cs w0 w1 t0 t1 w2 mm iK (pn n) ty fv dz (afF (tg2 n) (dx 0) (df 0) (dg 0) (de 0)) (d0, sdN M (fun _ => 0) (M 0).toNat, L, fu, fn) (dk, Mk, Lk, uk, gk) (dx, M, L, fu, gx) (df, Mf, Lf, uf, gf) (dg, Mg, Lg, ug, gg) (de, Me, Le, ue, ge) (sdN M (fun _ => 0) (M 0).toNat) (recH M Hs n) Sh tx hd me wk fr (pn n) iK ty)) (c_msendTailA l D cy cs (mm 0) (mm 1) (mm 2) (mm 3) (mm 4) (mm 5) (mm 6) (mm 7) (mm 8) n iK ty M Hs (by first | assumption | omega) (by first | assumption | omega) (by first | assumption | omega)) (cwV 0 C.2.2.2.2 gL_law_X6_sendTail rfl rfl rfl (by decide +kernel) ⟨Nat.le_of_ble_eq_true rfl, Nat.le_of_ble_eq_true rfl⟩) [77, 78, 79] rfl rfl rfl ⟨rfl, [0, 1, 2, 3, 4, 5, 6, 7, 8, 9, 10, 11, 12, 13, 14, 15, 16, 17, 18, 19, 20, 21, 22, 23, 24, 25, 26, 27, 28, 29, 30, 31, 32, 33, 34, 35, 36, 37, 38, 39, 40, 41, 42, 43, 44, 45, 46, 47, 48, 49, 50, 51, 52, 53, 54, 55, 56, 57, 58, 59, 60, 61, 62, 63, 64, 65, 66, 67, 68, 69, 70, 71, 72, 73, 74, 75, 76, 80, 81, 82, 83, 84, 85], ([zO w0 5 [.ref (d0 0), .ref (dk 0), .int (iI iK), .ref w1, .int (iI (pn n)), .ref t0, .ref w2], zR cs w1 4 (afF (tg2 n) (dx 0) (df 0) (dg 0) (de 0))] ++ (bkW cy (d0, sdN M (fun _ => 0) (M 0).toNat, L, fu, fn) ++ (bkW cy (dk, Mk, Lk, uk, gk) ++ (bkW cy (dx, M, L, fu, gx) ++ (bkW cy (df, Mf, Lf, uf, gf) ++ (bkW cy (dg, Mg, Lg, ug, gg) ++ (bkW cy (de, Me, Le, ue, ge) ++ ([zO t0 4 [.int (iI ty), .ref t1], zA cy t1 60 fv, zA cy w2 32 dz, zA cy (mm 3) 780 Sh, zA cy (mm 4) 60 tx, zA cy (mm 5) 3 hd, zA cy (mm 6) 32 me, zA cy (mm 7) 96 wk, zA cy (mm 8) 32 fr])))))))), 86, rfl, rfl, rfl, by decide +kernel⟩ rfl rfl rfl rfl (Nat.le_of_ble_eq_true rfl) hl.1 dL_law_246 ⟨Nat.le_of_ble_eq_true rfl, Nat.le_of_ble_eq_true rfl⟩ (fun H locs wd => ?_)
    refine z_same C (tgt := 718) rfl dL_law_249 (by decide) ?_
    exact lN_rec NX hn hiK htxr hhd (show vB_ (d0, sdN M (fun _ => 0) (M 0).toNat, L, fu, fn) from vO_sN hvB (M 0).toNat (by omega) (fun k k0 k1 => ⟨Int.le_refl 0, by decide⟩)) vK (show vB_ (dx, M, L, fu, gx) from hvB) vF vG vE hh hl wd
  · skip
    refine lv_aload_n C.1 C.2.1 dL_law_241 rfl (lv_at hl 1 rfl) ?_
    refine z_cvi C wd hA (As := []) (rest := []) (ws2 := (LW cy cs w0 w1 t0 t1 w2 mm iK n ty fv dz (afF (tg n) (dx 0) (df 0) (dg 0) (de 0)) (d0, M, L, fu, fn) (dk, Mk, Lk, uk, gk) (dx, Mx, Lx, ux, gx) (df, Mf, Lf, uf, gf) (dg, Mg, Lg, ug, gg) (de, Me, Le, ue, ge) M Hs Sh tx hd me wk fr n iK ty)) (c_X5_sendTailB l D cy cs w0 w1 w2 t0 (d0 0) (dk 0) (d0 1) (d0 2) (d0 3) (d0 4) (d0 5) (d0 6) (d0 7) 0 0 0 0 iK n 0 M (by first | assumption | omega) (by first | assumption | omega) (by first | assumption | omega)) (cwV 0 C.2.2.2.2 gL_law_X5_sendTail rfl rfl rfl (by decide +kernel) ⟨Nat.le_of_ble_eq_true rfl, Nat.le_of_ble_eq_true rfl⟩) [0, 2, 3, 5] rfl rfl rfl ⟨rfl, [1, 4, 6, 7, 8, 9, 10, 11, 12, 13, 14, 15, 16, 17, 18, 19, 20, 21, 22, 23, 24, 25, 26, 27, 28, 29, 30, 31, 32, 33, 34, 35, 36, 37, 38, 39, 40, 41, 42, 43, 44, 45, 46, 47, 48, 49, 50, 51, 52, 53, 54, 55, 56, 57, 58, 59, 60, 61, 62, 63, 64, 65, 66, 67, 68, 69, 70, 71, 72, 73, 74, 75, 76, 77, 78, 79, 80, 81, 82, 83, 84, 85], ([zR cs w1 4 (afF (tg n) (dx 0) (df 0) (dg 0) (de 0)), zA cy (d0 2) 3 (sl M 2), zA cy (d0 4) 80 (sl M 12), zA cy (d0 5) 240 (sl M 92), zA cy (d0 6) 240 (sl M 332), zO (d0 7) 1 [.int (iI (M 9)), .int (iI L), .int (iI (M 10)), .int (iI (M 11)), .ref (d0 8), .ref (d0 9), .ref (d0 10), .ref (d0 11)], zA cy (d0 8) 80 (sl M 604), zA cy (d0 9) 32 (sl M 572), zA cy (d0 10) 32 fn, zA cy (d0 11) 80 fu] ++ (bkW cy (dk, Mk, Lk, uk, gk) ++ (bkW cy (dx, Mx, Lx, ux, gx) ++ (bkW cy (df, Mf, Lf, uf, gf) ++ (bkW cy (dg, Mg, Lg, ug, gg) ++ (bkW cy (de, Me, Le, ue, ge) ++ ([zO t0 4 [.int (iI ty), .ref t1], zA cy t1 60 fv, zA cy w2 32 dz, zO (mm 0) 6 [.ref (mm 1), .ref (mm 2), .int (iI n), .ref (mm 3), .int (iI iK), .ref (mm 4), .int (iI ty), .ref (mm 5), .ref (mm 6), .ref (mm 7), .ref (mm 8)], zA cy (mm 1) 780 M, zA cy (mm 2) 3120 Hs, zA cy (mm 3) 780 Sh, zA cy (mm 4) 60 tx, zA cy (mm 5) 3 hd, zA cy (mm 6) 32 me, zA cy (mm 7) 96 wk, zA cy (mm 8) 32 fr]))))))), 86, rfl, rfl, rfl, by decide +kernel⟩ rfl rfl rfl rfl (Nat.le_of_ble_eq_true rfl) hl.1 dL_law_242 ⟨Nat.le_of_ble_eq_true rfl, Nat.le_of_ble_eq_true rfl⟩ (fun H locs wd => ?_)
    refine lv_aload_n C.1 C.2.1 dL_law_245 rfl (lv_at hl 2 rfl) ?_
    refine z_cvi C wd hA (As := []) (rest := [.int (iI (-3))]) (ws2 := (LW cy cs w0 w1 t0 t1 w2 mm iK n ty fv dz (afF (tg n) (dx 0) (df 0) (dg 0) (de 0)) (d0, M, L, fu, fn) (dk, Mk, Lk, uk, gk) (dx, Mx, Lx, ux, gx) (df, Mf, Lf, uf, gf) (dg, Mg, Lg, ug, gg) (de, Me, Le, ue, ge) M Hs Sh tx hd me wk fr n iK ty)) (c_msendTailB l D cy cs (mm 0) (mm 1) (mm 2) (mm 3) (mm 4) (mm 5) (mm 6) (mm 7) (mm 8) n iK ty M (by first | assumption | omega) (by first | assumption | omega) (by first | assumption | omega)) (cwV 0 C.2.2.2.2 gL_law_X6_sendTail rfl rfl rfl (by decide +kernel) ⟨Nat.le_of_ble_eq_true rfl, Nat.le_of_ble_eq_true rfl⟩) [77, 78] rfl rfl rfl ⟨rfl, [0, 1, 2, 3, 4, 5, 6, 7, 8, 9, 10, 11, 12, 13, 14, 15, 16, 17, 18, 19, 20, 21, 22, 23, 24, 25, 26, 27, 28, 29, 30, 31, 32, 33, 34, 35, 36, 37, 38, 39, 40, 41, 42, 43, 44, 45, 46, 47, 48, 49, 50, 51, 52, 53, 54, 55, 56, 57, 58, 59, 60, 61, 62, 63, 64, 65, 66, 67, 68, 69, 70, 71, 72, 73, 74, 75, 76, 79, 80, 81, 82, 83, 84, 85], ([zO w0 5 [.ref (d0 0), .ref (dk 0), .int (iI iK), .ref w1, .int (iI n), .ref t0, .ref w2], zR cs w1 4 (afF (tg n) (dx 0) (df 0) (dg 0) (de 0))] ++ (bkW cy (d0, M, L, fu, fn) ++ (bkW cy (dk, Mk, Lk, uk, gk) ++ (bkW cy (dx, Mx, Lx, ux, gx) ++ (bkW cy (df, Mf, Lf, uf, gf) ++ (bkW cy (dg, Mg, Lg, ug, gg) ++ (bkW cy (de, Me, Le, ue, ge) ++ ([zO t0 4 [.int (iI ty), .ref t1], zA cy t1 60 fv, zA cy w2 32 dz, zA cy (mm 2) 3120 Hs, zA cy (mm 3) 780 Sh, zA cy (mm 4) 60 tx, zA cy (mm 5) 3 hd, zA cy (mm 6) 32 me, zA cy (mm 7) 96 wk, zA cy (mm 8) 32 fr])))))))), 86, rfl, rfl, rfl, by decide +kernel⟩ rfl rfl rfl rfl (Nat.le_of_ble_eq_true rfl) hl.1 dL_law_246 ⟨Nat.le_of_ble_eq_true rfl, Nat.le_of_ble_eq_true rfl⟩ (fun H locs wd => ?_)
    refine z_same C (tgt := 718) rfl dL_law_249 (by decide) ?_
    exact NX iK n ty fv dz Hs Sh tx hd me wk fr (d0, M, L, fu, fn) (dk, Mk, Lk, uk, gk) (dx, Mx, Lx, ux, gx) (df, Mf, Lf, uf, gf) (dg, Mg, Lg, ug, gg) (de, Me, Le, ue, ge) ⟨hn, hiK, htxr, hhd, ⟨vB, vK⟩, ⟨vX, vF, vG, vE⟩, hh⟩ H locs ls hl wd
set_option maxRecDepth 100000 in
set_option maxHeartbeats 20000000 in
theorem lf_flip {p : Program} {l : Launch} {e : Env} {s : State} {m : MethodId} {below : List Frame} {meth : Method} {c : Code} {D : va_G} {b Ls : Nat} {xs : Nat → Int32} {cy cs : ClassId} {w0 w1 t0 t1 w2 : Nat} {mm : Nat → Nat} {i : Int} (C : CallFix p m c cL_law 4 s #[Value.ref b] wsL_law RL) (hX : va_X b Ls xs s s.heap) (hbl : b < s.heap.size) (hLs : Ls ≤ 2560) (hi : 0 ≤ i ∧ i + 5 ≤ (Ls : Int)) (NX : lNX p l e s m below meth c b D cy cs w0 w1 t0 t1 w2 mm i 718) : lNX p l e s m below meth c b D cy cs w0 w1 t0 t1 w2 mm i 254 := by
  intro iK n ty fv dz Hs Sh tx hd me wk fr B K X F G E hI H locs ls hl wd
  obtain ⟨d0, M, L, fu, fn⟩ := B
  obtain ⟨dk, Mk, Lk, uk, gk⟩ := K
  obtain ⟨dx, Mx, Lx, ux, gx⟩ := X
  obtain ⟨df, Mf, Lf, uf, gf⟩ := F
  obtain ⟨dg, Mg, Lg, ug, gg⟩ := G
  obtain ⟨de, Me, Le, ue, ge⟩ := E
  obtain ⟨hn, hiK, htxr, hhd, ⟨vB, vK⟩, ⟨vX, vF, vG, vE⟩, hh⟩ := hI
  have hvB : vO M L fu := vB
  obtain ⟨hrk, hm, ho, ht, h5, h9, h10, hme, hme2, hwk, hbs⟩ := vO_all hvB
  obtain ⟨hwr, huf, hu, hso, hoT, hE, h8e, hL, hL2, h7, hln, hlt, h8⟩ := vO_all2 hvB
  obtain ⟨hli, hli2, hwa, hwa2, hb1, hb1a, hb2, hb2a⟩ := vO_all3 hvB
  have h572 := vO_572 hvB
  have e572 : sl M 572 0 = M 572 := rfl
  have hp := p2_all hm.1 hm.2
  obtain ⟨hty, hfv, htx, hrel⟩ := id htxr
  have hff1 : ff (fun z9 => vc (tx z9)) ty (1 + 0) = ff fv ty 1 := (ff_cong hty.1 hrel).symm
  have hff2 : ff (fun z9 => vc (tx z9)) ty (1 + 1) = ff fv ty 2 := (ff_cong hty.1 hrel).symm
  have hfl1 := ff_le (f := fv) (hi := 1) hty
  have hfl2 := ff_le (f := fv) (hi := 2) hty
  have hbA : ¬ (fun q : Nat => s.heap.size ≤ q) b := Nat.not_le.mpr hbl
  have hA : ∀ q : Nat, s.heap.size ≤ q → (fun q : Nat => s.heap.size ≤ q) q := fun _ h => h
  have wd : Wd D (zT cy cs) (fun q : Nat => s.heap.size ≤ q) s.heap s (LW cy cs w0 w1 t0 t1 w2 mm iK n ty fv dz (afF (tg n) (dx 0) (df 0) (dg 0) (de 0)) (d0, M, L, fu, fn) (dk, Mk, Lk, uk, gk) (dx, Mx, Lx, ux, gx) (df, Mf, Lf, uf, gf) (dg, Mg, Lg, ug, gg) (de, Me, Le, ue, ge) M Hs Sh tx hd me wk fr n iK ty) H locs := wd
  obtain ⟨v1, hv1⟩ : ∃ v, (xs (i + 1).toNat).toInt = v := ⟨_, rfl⟩
  have hr1 := iI_rng (xs (i + 1).toNat)
  rw [hv1] at hr1
  unfold lG
  have e92 : sl M 92 v1 = M (92 + v1) := rfl
  by_cases hc : (0 ≤ v1 ∧ v1 < M 7 * M 1) ∧ M (92 + v1) ≠ 2 ∧ ¬ v1 < L * M 1
  · skip
    refine lv_aload_n C.1 C.2.1 dL_law_254 rfl (lv_at hl 1 rfl) ?_
    refine lv_aload_n C.1 C.2.1 dL_law_255 rfl (lv_at hl 0 rfl) ?_
    refine lv_iload_n C.1 C.2.1 dL_law_256 rfl (lv_at hl 3 rfl) ?_
    refine z_iconst C dL_law_257 ?_
    refine z_iadd C dL_law_258 ?_
    refine z_sld C wd hX hbl hbA (v := v1) (by omega) hLs hv1 dL_law_259 ?_
    refine z_cvi C wd hA (As := [.int (iI v1)]) (rest := []) (ws2 := (LW cy cs w0 w1 t0 t1 w2 mm iK (pn n) ty fv dz (afF (tg2 n) (dx 0) (df 0) (dg 0) (de 0)) (d0, flM M v1, L, fu, fn) (dk, Mk, Lk, uk, gk) (dx, M, L, fu, gx) (df, Mf, Lf, uf, gf) (dg, Mg, Lg, ug, gg) (de, Me, Le, ue, ge) M Hs Sh tx hd me wk fr n iK ty)) (c_X5_flipA l D cy cs w0 w1 w2 t0 (dk 0) iK n (d0 0) (d0 1) (d0 2) (d0 3) (d0 4) (d0 5) (d0 6) (d0 7) (d0 8) (d0 9) (d0 10) (d0 11) L M fu fn (dx 0) (dx 1) (dx 2) (dx 3) (dx 4) (dx 5) (dx 6) (dx 7) (dx 8) (dx 9) (dx 10) (dx 11) Lx Mx ux gx (df 0) (df 1) (df 3) (df 7) (dg 0) (dg 1) (dg 3) (dg 7) (de 0) (de 1) (de 3) (de 7) (Mf 5) (Mg 5) (Me 5) v1 (by first | assumption | omega) (by first | assumption | omega) (by first | assumption | omega) (by first | assumption | omega) (by first | assumption | omega) (by first | assumption | omega) (by first | assumption | omega) (by first | assumption | omega) (by first | assumption | omega)) (cwV 1 C.2.2.2.2 gL_law_X5_flip rfl rfl rfl (by decide +kernel) ⟨Nat.le_of_ble_eq_true rfl, Nat.le_of_ble_eq_true rfl⟩) [0, 1, 2, 3, 4, 5, 6, 7, 8, 9, 10, 11, 12, 13, 26, 27, 28, 29, 30, 31, 32, 33, 34, 35, 36, 37, 38, 50, 62] rfl rfl rfl ⟨rfl, [14, 15, 16, 17, 18, 19, 20, 21, 22, 23, 24, 25, 39, 40, 41, 42, 43, 44, 45, 46, 47, 48, 49, 51, 52, 53, 54, 55, 56, 57, 58, 59, 60, 61, 63, 64, 65, 66, 67, 68, 69, 70, 71, 72, 73, 74, 75, 76, 77, 78, 79, 80, 81, 82, 83, 84, 85], (bkW cy (dk, Mk, Lk, uk, gk) ++ ([zO (df 1) 0 [.int (iI (Mf 0)), .int (iI (Mf 1)), .ref (df 2)], zA cy (df 2) 3 (sl Mf 2), zO (df 3) 2 [.int (iI (Mf 6)), .int (iI (Mf 7)), .ref (df 4), .ref (df 5), .ref (df 6)], zA cy (df 4) 80 (sl Mf 12), zA cy (df 5) 240 (sl Mf 92), zA cy (df 6) 240 (sl Mf 332), zO (df 7) 1 [.int (iI (Mf 9)), .int (iI Lf), .int (iI (Mf 10)), .int (iI (Mf 11)), .ref (df 8), .ref (df 9), .ref (df 10), .ref (df 11)], zA cy (df 8) 80 (sl Mf 604), zA cy (df 9) 32 (sl Mf 572), zA cy (df 10) 32 gf, zA cy (df 11) 80 uf, zO (dg 1) 0 [.int (iI (Mg 0)), .int (iI (Mg 1)), .ref (dg 2)], zA cy (dg 2) 3 (sl Mg 2), zO (dg 3) 2 [.int (iI (Mg 6)), .int (iI (Mg 7)), .ref (dg 4), .ref (dg 5), .ref (dg 6)], zA cy (dg 4) 80 (sl Mg 12), zA cy (dg 5) 240 (sl Mg 92), zA cy (dg 6) 240 (sl Mg 332), zO (dg 7) 1 [.int (iI (Mg 9)), .int (iI Lg), .int (iI (Mg 10)), .int (iI (Mg 11)), .ref (dg 8), .ref (dg 9), .ref (dg 10), .ref (dg 11)], zA cy (dg 8) 80 (sl Mg 604), zA cy (dg 9) 32 (sl Mg 572), zA cy (dg 10) 32 gg, zA cy (dg 11) 80 ug, zO (de 1) 0 [.int (iI (Me 0)), .int (iI (Me 1)), .ref (de 2)], zA cy (de 2) 3 (sl Me 2), zO (de 3) 2 [.int (iI (Me 6)), .int (iI (Me 7)), .ref (de 4), .ref (de 5), .ref (de 6)], zA cy (de 4) 80 (sl Me 12), zA cy (de 5) 240 (sl Me 92), zA cy (de 6) 240 (sl Me 332), zO (de 7) 1 [.int (iI (Me 9)), .int (iI Le), .int (iI (Me 10)), .int (iI (Me 11)), .ref (de 8), .ref (de 9), .ref (de 10), .ref (de 11)], zA cy (de 8) 80 (sl Me 604), zA cy (de 9) 32 (sl Me 572), zA cy (de 10) 32 ge, zA cy (de 11) 80 ue, zO t0 4 [.int (iI ty), .ref t1], zA cy t1 60 fv, zA cy w2 32 dz, zO (mm 0) 6 [.ref (mm 1), .ref (mm 2), .int (iI n), .ref (mm 3), .int (iI iK), .ref (mm 4), .int (iI ty), .ref (mm 5), .ref (mm 6), .ref (mm 7), .ref (mm 8)], zA cy (mm 1) 780 M, zA cy (mm 2) 3120 Hs, zA cy (mm 3) 780 Sh, zA cy (mm 4) 60 tx, zA cy (mm 5) 3 hd, zA cy (mm 6) 32 me, zA cy (mm 7) 96 wk, zA cy (mm 8) 32 fr])), 86, rfl, rfl, rfl, by decide +kernel⟩ rfl rfl rfl rfl (Nat.le_of_ble_eq_true rfl) hl.1 dL_law_260 ⟨Nat.le_of_ble_eq_true rfl, Nat.le_of_ble_eq_true rfl⟩ (fun H locs wd => ?_)
    refine lv_aload_n C.1 C.2.1 dL_law_263 rfl (lv_at hl 2 rfl) ?_
    refine lv_aload_n C.1 C.2.1 dL_law_264 rfl (lv_at hl 0 rfl) ?_
    refine lv_iload_n C.1 C.2.1 dL_law_265 rfl (lv_at hl 3 rfl) ?_
    refine z_iconst C dL_law_266 ?_
    refine z_iadd C dL_law_267 ?_
    refine z_sld C wd hX hbl hbA (v := v1) (by omega) hLs hv1 dL_law_268 ?_
    refine z_cvi C wd hA (As := [.int (iI v1)]) (rest := [.int (iI (1 - sl M 92 v1))]) (ws2 := (LW cy cs w0 w1 t0 t1 w2 mm iK (pn n) ty fv dz (afF (tg2 n) (dx 0) (df 0) (dg 0) (de 0)) (d0, flM M v1, L, fu, fn) (dk, Mk, Lk, uk, gk) (dx, M, L, fu, gx) (df, Mf, Lf, uf, gf) (dg, Mg, Lg, ug, gg) (de, Me, Le, ue, ge) (flM M v1) (recH M Hs n) Sh tx hd me wk fr (pn n) iK ty)) (c_mflipA l D cy cs (mm 0) (mm 1) (mm 2) (mm 3) (mm 4) (mm 5) (mm 6) (mm 7) (mm 8) n iK ty M Hs v1 (by first | assumption | omega) (by first | assumption | omega) (by first | assumption | omega) (by first | assumption | omega) (by first | assumption | omega) (by first | assumption | omega)) (cwV 1 C.2.2.2.2 gL_law_X6_flip rfl rfl rfl (by decide +kernel) ⟨Nat.le_of_ble_eq_true rfl, Nat.le_of_ble_eq_true rfl⟩) [77, 78, 79] rfl rfl rfl ⟨rfl, [0, 1, 2, 3, 4, 5, 6, 7, 8, 9, 10, 11, 12, 13, 14, 15, 16, 17, 18, 19, 20, 21, 22, 23, 24, 25, 26, 27, 28, 29, 30, 31, 32, 33, 34, 35, 36, 37, 38, 39, 40, 41, 42, 43, 44, 45, 46, 47, 48, 49, 50, 51, 52, 53, 54, 55, 56, 57, 58, 59, 60, 61, 62, 63, 64, 65, 66, 67, 68, 69, 70, 71, 72, 73, 74, 75, 76, 80, 81, 82, 83, 84, 85], ([zO w0 5 [.ref (d0 0), .ref (dk 0), .int (iI iK), .ref w1, .int (iI (pn n)), .ref t0, .ref w2], zR cs w1 4 (afF (tg2 n) (dx 0) (df 0) (dg 0) (de 0))] ++ (bkW cy (d0, flM M v1, L, fu, fn) ++ (bkW cy (dk, Mk, Lk, uk, gk) ++ (bkW cy (dx, M, L, fu, gx) ++ (bkW cy (df, Mf, Lf, uf, gf) ++ (bkW cy (dg, Mg, Lg, ug, gg) ++ (bkW cy (de, Me, Le, ue, ge) ++ ([zO t0 4 [.int (iI ty), .ref t1], zA cy t1 60 fv, zA cy w2 32 dz, zA cy (mm 3) 780 Sh, zA cy (mm 4) 60 tx, zA cy (mm 5) 3 hd, zA cy (mm 6) 32 me, zA cy (mm 7) 96 wk, zA cy (mm 8) 32 fr])))))))), 86, rfl, rfl, rfl, by decide +kernel⟩ rfl rfl rfl rfl (Nat.le_of_ble_eq_true rfl) hl.1 dL_law_269 ⟨Nat.le_of_ble_eq_true rfl, Nat.le_of_ble_eq_true rfl⟩ (fun H locs wd => ?_)
    refine z_same C (tgt := 718) rfl dL_law_272 (by decide) ?_
    exact lN_rec NX hn hiK htxr hhd (show vB_ (d0, flM M v1, L, fu, fn) from vO_fl hvB hc.1.1 (by omega) hc.2.1) vK (show vB_ (dx, M, L, fu, gx) from hvB) vF vG vE hh hl wd
  · skip
    refine lv_aload_n C.1 C.2.1 dL_law_254 rfl (lv_at hl 1 rfl) ?_
    refine lv_aload_n C.1 C.2.1 dL_law_255 rfl (lv_at hl 0 rfl) ?_
    refine lv_iload_n C.1 C.2.1 dL_law_256 rfl (lv_at hl 3 rfl) ?_
    refine z_iconst C dL_law_257 ?_
    refine z_iadd C dL_law_258 ?_
    refine z_sld C wd hX hbl hbA (v := v1) (by omega) hLs hv1 dL_law_259 ?_
    refine z_cvi C wd hA (As := [.int (iI v1)]) (rest := []) (ws2 := (LW cy cs w0 w1 t0 t1 w2 mm iK n ty fv dz (afF (tg n) (dx 0) (df 0) (dg 0) (de 0)) (d0, M, L, fu, fn) (dk, Mk, Lk, uk, gk) (dx, Mx, Lx, ux, gx) (df, Mf, Lf, uf, gf) (dg, Mg, Lg, ug, gg) (de, Me, Le, ue, ge) M Hs Sh tx hd me wk fr n iK ty)) (c_X5_flipB l D cy cs w0 w1 w2 t0 (d0 0) (dk 0) (d0 1) (d0 2) (d0 3) (d0 4) (d0 5) (d0 6) (d0 7) (d0 8) (d0 9) (d0 10) (d0 11) iK n L M v1 (by first | assumption | omega) (by first | assumption | omega) (by first | assumption | omega) (by first | assumption | omega) (by first | assumption | omega)) (cwV 1 C.2.2.2.2 gL_law_X5_flip rfl rfl rfl (by decide +kernel) ⟨Nat.le_of_ble_eq_true rfl, Nat.le_of_ble_eq_true rfl⟩) [0, 2, 3, 5, 7, 9] rfl rfl rfl ⟨rfl, [1, 4, 6, 8, 10, 11, 12, 13, 14, 15, 16, 17, 18, 19, 20, 21, 22, 23, 24, 25, 26, 27, 28, 29, 30, 31, 32, 33, 34, 35, 36, 37, 38, 39, 40, 41, 42, 43, 44, 45, 46, 47, 48, 49, 50, 51, 52, 53, 54, 55, 56, 57, 58, 59, 60, 61, 62, 63, 64, 65, 66, 67, 68, 69, 70, 71, 72, 73, 74, 75, 76, 77, 78, 79, 80, 81, 82, 83, 84, 85], ([zR cs w1 4 (afF (tg n) (dx 0) (df 0) (dg 0) (de 0)), zA cy (d0 2) 3 (sl M 2), zA cy (d0 4) 80 (sl M 12), zA cy (d0 6) 240 (sl M 332), zA cy (d0 8) 80 (sl M 604), zA cy (d0 9) 32 (sl M 572), zA cy (d0 10) 32 fn, zA cy (d0 11) 80 fu] ++ (bkW cy (dk, Mk, Lk, uk, gk) ++ (bkW cy (dx, Mx, Lx, ux, gx) ++ (bkW cy (df, Mf, Lf, uf, gf) ++ (bkW cy (dg, Mg, Lg, ug, gg) ++ (bkW cy (de, Me, Le, ue, ge) ++ ([zO t0 4 [.int (iI ty), .ref t1], zA cy t1 60 fv, zA cy w2 32 dz, zO (mm 0) 6 [.ref (mm 1), .ref (mm 2), .int (iI n), .ref (mm 3), .int (iI iK), .ref (mm 4), .int (iI ty), .ref (mm 5), .ref (mm 6), .ref (mm 7), .ref (mm 8)], zA cy (mm 1) 780 M, zA cy (mm 2) 3120 Hs, zA cy (mm 3) 780 Sh, zA cy (mm 4) 60 tx, zA cy (mm 5) 3 hd, zA cy (mm 6) 32 me, zA cy (mm 7) 96 wk, zA cy (mm 8) 32 fr]))))))), 86, rfl, rfl, rfl, by decide +kernel⟩ rfl rfl rfl rfl (Nat.le_of_ble_eq_true rfl) hl.1 dL_law_260 ⟨Nat.le_of_ble_eq_true rfl, Nat.le_of_ble_eq_true rfl⟩ (fun H locs wd => ?_)
    refine lv_aload_n C.1 C.2.1 dL_law_263 rfl (lv_at hl 2 rfl) ?_
    refine lv_aload_n C.1 C.2.1 dL_law_264 rfl (lv_at hl 0 rfl) ?_
    refine lv_iload_n C.1 C.2.1 dL_law_265 rfl (lv_at hl 3 rfl) ?_
    refine z_iconst C dL_law_266 ?_
    refine z_iadd C dL_law_267 ?_
    refine z_sld C wd hX hbl hbA (v := v1) (by omega) hLs hv1 dL_law_268 ?_
    refine z_cvi C wd hA (As := [.int (iI v1)]) (rest := [.int (iI (fNo M v1))]) (ws2 := (LW cy cs w0 w1 t0 t1 w2 mm iK n ty fv dz (afF (tg n) (dx 0) (df 0) (dg 0) (de 0)) (d0, M, L, fu, fn) (dk, Mk, Lk, uk, gk) (dx, Mx, Lx, ux, gx) (df, Mf, Lf, uf, gf) (dg, Mg, Lg, ug, gg) (de, Me, Le, ue, ge) M Hs Sh tx hd me wk fr n iK ty)) (c_mflipB l D cy cs (mm 0) (mm 1) (mm 2) (mm 3) (mm 4) (mm 5) (mm 6) (mm 7) (mm 8) n iK ty M v1 (by first | assumption | omega) (by first | assumption | omega) (by first | assumption | omega) (by first | assumption | omega) (by first | assumption | omega)) (cwV 1 C.2.2.2.2 gL_law_X6_flip rfl rfl rfl (by decide +kernel) ⟨Nat.le_of_ble_eq_true rfl, Nat.le_of_ble_eq_true rfl⟩) [77, 78] rfl rfl rfl ⟨rfl, [0, 1, 2, 3, 4, 5, 6, 7, 8, 9, 10, 11, 12, 13, 14, 15, 16, 17, 18, 19, 20, 21, 22, 23, 24, 25, 26, 27, 28, 29, 30, 31, 32, 33, 34, 35, 36, 37, 38, 39, 40, 41, 42, 43, 44, 45, 46, 47, 48, 49, 50, 51, 52, 53, 54, 55, 56, 57, 58, 59, 60, 61, 62, 63, 64, 65, 66, 67, 68, 69, 70, 71, 72, 73, 74, 75, 76, 79, 80, 81, 82, 83, 84, 85], ([zO w0 5 [.ref (d0 0), .ref (dk 0), .int (iI iK), .ref w1, .int (iI n), .ref t0, .ref w2], zR cs w1 4 (afF (tg n) (dx 0) (df 0) (dg 0) (de 0))] ++ (bkW cy (d0, M, L, fu, fn) ++ (bkW cy (dk, Mk, Lk, uk, gk) ++ (bkW cy (dx, Mx, Lx, ux, gx) ++ (bkW cy (df, Mf, Lf, uf, gf) ++ (bkW cy (dg, Mg, Lg, ug, gg) ++ (bkW cy (de, Me, Le, ue, ge) ++ ([zO t0 4 [.int (iI ty), .ref t1], zA cy t1 60 fv, zA cy w2 32 dz, zA cy (mm 2) 3120 Hs, zA cy (mm 3) 780 Sh, zA cy (mm 4) 60 tx, zA cy (mm 5) 3 hd, zA cy (mm 6) 32 me, zA cy (mm 7) 96 wk, zA cy (mm 8) 32 fr])))))))), 86, rfl, rfl, rfl, by decide +kernel⟩ rfl rfl rfl rfl (Nat.le_of_ble_eq_true rfl) hl.1 dL_law_269 ⟨Nat.le_of_ble_eq_true rfl, Nat.le_of_ble_eq_true rfl⟩ (fun H locs wd => ?_)
    refine z_same C (tgt := 718) rfl dL_law_272 (by decide) ?_
    exact NX iK n ty fv dz Hs Sh tx hd me wk fr (d0, M, L, fu, fn) (dk, Mk, Lk, uk, gk) (dx, Mx, Lx, ux, gx) (df, Mf, Lf, uf, gf) (dg, Mg, Lg, ug, gg) (de, Me, Le, ue, ge) ⟨hn, hiK, htxr, hhd, ⟨vB, vK⟩, ⟨vX, vF, vG, vE⟩, hh⟩ H locs ls hl wd
set_option maxRecDepth 100000 in
set_option maxHeartbeats 20000000 in
theorem lf_erase {p : Program} {l : Launch} {e : Env} {s : State} {m : MethodId} {below : List Frame} {meth : Method} {c : Code} {D : va_G} {b Ls : Nat} {xs : Nat → Int32} {cy cs : ClassId} {w0 w1 t0 t1 w2 : Nat} {mm : Nat → Nat} {i : Int} (C : CallFix p m c cL_law 4 s #[Value.ref b] wsL_law RL) (hX : va_X b Ls xs s s.heap) (hbl : b < s.heap.size) (hLs : Ls ≤ 2560) (hi : 0 ≤ i ∧ i + 5 ≤ (Ls : Int)) (NX : lNX p l e s m below meth c b D cy cs w0 w1 t0 t1 w2 mm i 718) : lNX p l e s m below meth c b D cy cs w0 w1 t0 t1 w2 mm i 277 := by
  intro iK n ty fv dz Hs Sh tx hd me wk fr B K X F G E hI H locs ls hl wd
  obtain ⟨d0, M, L, fu, fn⟩ := B
  obtain ⟨dk, Mk, Lk, uk, gk⟩ := K
  obtain ⟨dx, Mx, Lx, ux, gx⟩ := X
  obtain ⟨df, Mf, Lf, uf, gf⟩ := F
  obtain ⟨dg, Mg, Lg, ug, gg⟩ := G
  obtain ⟨de, Me, Le, ue, ge⟩ := E
  obtain ⟨hn, hiK, htxr, hhd, ⟨vB, vK⟩, ⟨vX, vF, vG, vE⟩, hh⟩ := hI
  have hvB : vO M L fu := vB
  obtain ⟨hrk, hm, ho, ht, h5, h9, h10, hme, hme2, hwk, hbs⟩ := vO_all hvB
  obtain ⟨hwr, huf, hu, hso, hoT, hE, h8e, hL, hL2, h7, hln, hlt, h8⟩ := vO_all2 hvB
  obtain ⟨hli, hli2, hwa, hwa2, hb1, hb1a, hb2, hb2a⟩ := vO_all3 hvB
  have h572 := vO_572 hvB
  have e572 : sl M 572 0 = M 572 := rfl
  have hp := p2_all hm.1 hm.2
  obtain ⟨hty, hfv, htx, hrel⟩ := id htxr
  have hff1 : ff (fun z9 => vc (tx z9)) ty (1 + 0) = ff fv ty 1 := (ff_cong hty.1 hrel).symm
  have hff2 : ff (fun z9 => vc (tx z9)) ty (1 + 1) = ff fv ty 2 := (ff_cong hty.1 hrel).symm
  have hfl1 := ff_le (f := fv) (hi := 1) hty
  have hfl2 := ff_le (f := fv) (hi := 2) hty
  have hbA : ¬ (fun q : Nat => s.heap.size ≤ q) b := Nat.not_le.mpr hbl
  have hA : ∀ q : Nat, s.heap.size ≤ q → (fun q : Nat => s.heap.size ≤ q) q := fun _ h => h
  have wd : Wd D (zT cy cs) (fun q : Nat => s.heap.size ≤ q) s.heap s (LW cy cs w0 w1 t0 t1 w2 mm iK n ty fv dz (afF (tg n) (dx 0) (df 0) (dg 0) (de 0)) (d0, M, L, fu, fn) (dk, Mk, Lk, uk, gk) (dx, Mx, Lx, ux, gx) (df, Mf, Lf, uf, gf) (dg, Mg, Lg, ug, gg) (de, Me, Le, ue, ge) M Hs Sh tx hd me wk fr n iK ty) H locs := wd
  obtain ⟨v1, hv1⟩ : ∃ v, (xs (i + 1).toNat).toInt = v := ⟨_, rfl⟩
  have hr1 := iI_rng (xs (i + 1).toNat)
  rw [hv1] at hr1
  unfold lG
  have e92 : sl M 92 v1 = M (92 + v1) := rfl
  by_cases hc : (0 ≤ v1 ∧ v1 < M 7 * M 1) ∧ M (92 + v1) ≠ 2 ∧ ¬ v1 < L * M 1
  · skip
    refine lv_aload_n C.1 C.2.1 dL_law_277 rfl (lv_at hl 1 rfl) ?_
    refine lv_aload_n C.1 C.2.1 dL_law_278 rfl (lv_at hl 0 rfl) ?_
    refine lv_iload_n C.1 C.2.1 dL_law_279 rfl (lv_at hl 3 rfl) ?_
    refine z_iconst C dL_law_280 ?_
    refine z_iadd C dL_law_281 ?_
    refine z_sld C wd hX hbl hbA (v := v1) (by omega) hLs hv1 dL_law_282 ?_
    refine z_cvi C wd hA (As := [.int (iI v1)]) (rest := []) (ws2 := (LW cy cs w0 w1 t0 t1 w2 mm iK (pn n) ty fv dz (afF (tg2 n) (dx 0) (df 0) (dg 0) (de 0)) (d0, erM M v1, L, fu, fn) (dk, Mk, Lk, uk, gk) (dx, M, L, fu, gx) (df, Mf, Lf, uf, gf) (dg, Mg, Lg, ug, gg) (de, Me, Le, ue, ge) M Hs Sh tx hd me wk fr n iK ty)) (c_X5_eraseA l D cy cs w0 w1 w2 t0 (dk 0) iK n (d0 0) (d0 1) (d0 2) (d0 3) (d0 4) (d0 5) (d0 6) (d0 7) (d0 8) (d0 9) (d0 10) (d0 11) L M fu fn (dx 0) (dx 1) (dx 2) (dx 3) (dx 4) (dx 5) (dx 6) (dx 7) (dx 8) (dx 9) (dx 10) (dx 11) Lx Mx ux gx (df 0) (df 1) (df 3) (df 7) (dg 0) (dg 1) (dg 3) (dg 7) (de 0) (de 1) (de 3) (de 7) (Mf 5) (Mg 5) (Me 5) v1 (by first | assumption | omega) (by first | assumption | omega) (by first | assumption | omega) (by first | assumption | omega) (by first | assumption | omega) (by first | assumption | omega) (by first | assumption | omega) (by first | assumption | omega) (by first | assumption | omega)) (cwV 1 C.2.2.2.2 gL_law_X5_erase rfl rfl rfl (by decide +kernel) ⟨Nat.le_of_ble_eq_true rfl, Nat.le_of_ble_eq_true rfl⟩) [0, 1, 2, 3, 4, 5, 6, 7, 8, 9, 10, 11, 12, 13, 26, 27, 28, 29, 30, 31, 32, 33, 34, 35, 36, 37, 38, 50, 62] rfl rfl rfl ⟨rfl, [14, 15, 16, 17, 18, 19, 20, 21, 22, 23, 24, 25, 39, 40, 41, 42, 43, 44, 45, 46, 47, 48, 49, 51, 52, 53, 54, 55, 56, 57, 58, 59, 60, 61, 63, 64, 65, 66, 67, 68, 69, 70, 71, 72, 73, 74, 75, 76, 77, 78, 79, 80, 81, 82, 83, 84, 85], (bkW cy (dk, Mk, Lk, uk, gk) ++ ([zO (df 1) 0 [.int (iI (Mf 0)), .int (iI (Mf 1)), .ref (df 2)], zA cy (df 2) 3 (sl Mf 2), zO (df 3) 2 [.int (iI (Mf 6)), .int (iI (Mf 7)), .ref (df 4), .ref (df 5), .ref (df 6)], zA cy (df 4) 80 (sl Mf 12), zA cy (df 5) 240 (sl Mf 92), zA cy (df 6) 240 (sl Mf 332), zO (df 7) 1 [.int (iI (Mf 9)), .int (iI Lf), .int (iI (Mf 10)), .int (iI (Mf 11)), .ref (df 8), .ref (df 9), .ref (df 10), .ref (df 11)], zA cy (df 8) 80 (sl Mf 604), zA cy (df 9) 32 (sl Mf 572), zA cy (df 10) 32 gf, zA cy (df 11) 80 uf, zO (dg 1) 0 [.int (iI (Mg 0)), .int (iI (Mg 1)), .ref (dg 2)], zA cy (dg 2) 3 (sl Mg 2), zO (dg 3) 2 [.int (iI (Mg 6)), .int (iI (Mg 7)), .ref (dg 4), .ref (dg 5), .ref (dg 6)], zA cy (dg 4) 80 (sl Mg 12), zA cy (dg 5) 240 (sl Mg 92), zA cy (dg 6) 240 (sl Mg 332), zO (dg 7) 1 [.int (iI (Mg 9)), .int (iI Lg), .int (iI (Mg 10)), .int (iI (Mg 11)), .ref (dg 8), .ref (dg 9), .ref (dg 10), .ref (dg 11)], zA cy (dg 8) 80 (sl Mg 604), zA cy (dg 9) 32 (sl Mg 572), zA cy (dg 10) 32 gg, zA cy (dg 11) 80 ug, zO (de 1) 0 [.int (iI (Me 0)), .int (iI (Me 1)), .ref (de 2)], zA cy (de 2) 3 (sl Me 2), zO (de 3) 2 [.int (iI (Me 6)), .int (iI (Me 7)), .ref (de 4), .ref (de 5), .ref (de 6)], zA cy (de 4) 80 (sl Me 12), zA cy (de 5) 240 (sl Me 92), zA cy (de 6) 240 (sl Me 332), zO (de 7) 1 [.int (iI (Me 9)), .int (iI Le), .int (iI (Me 10)), .int (iI (Me 11)), .ref (de 8), .ref (de 9), .ref (de 10), .ref (de 11)], zA cy (de 8) 80 (sl Me 604), zA cy (de 9) 32 (sl Me 572), zA cy (de 10) 32 ge, zA cy (de 11) 80 ue, zO t0 4 [.int (iI ty), .ref t1], zA cy t1 60 fv, zA cy w2 32 dz, zO (mm 0) 6 [.ref (mm 1), .ref (mm 2), .int (iI n), .ref (mm 3), .int (iI iK), .ref (mm 4), .int (iI ty), .ref (mm 5), .ref (mm 6), .ref (mm 7), .ref (mm 8)], zA cy (mm 1) 780 M, zA cy (mm 2) 3120 Hs, zA cy (mm 3) 780 Sh, zA cy (mm 4) 60 tx, zA cy (mm 5) 3 hd, zA cy (mm 6) 32 me, zA cy (mm 7) 96 wk, zA cy (mm 8) 32 fr])), 86, rfl, rfl, rfl, by decide +kernel⟩ rfl rfl rfl rfl (Nat.le_of_ble_eq_true rfl) hl.1 dL_law_283 ⟨Nat.le_of_ble_eq_true rfl, Nat.le_of_ble_eq_true rfl⟩ (fun H locs wd => ?_)
    refine lv_aload_n C.1 C.2.1 dL_law_286 rfl (lv_at hl 2 rfl) ?_
    refine lv_aload_n C.1 C.2.1 dL_law_287 rfl (lv_at hl 0 rfl) ?_
    refine lv_iload_n C.1 C.2.1 dL_law_288 rfl (lv_at hl 3 rfl) ?_
    refine z_iconst C dL_law_289 ?_
    refine z_iadd C dL_law_290 ?_
    refine z_sld C wd hX hbl hbA (v := v1) (by omega) hLs hv1 dL_law_291 ?_
    refine z_cvi C wd hA (As := [.int (iI v1)]) (rest := [.int (iI (sl M 92 v1))]) (ws2 := (LW cy cs w0 w1 t0 t1 w2 mm iK (pn n) ty fv dz (afF (tg2 n) (dx 0) (df 0) (dg 0) (de 0)) (d0, erM M v1, L, fu, fn) (dk, Mk, Lk, uk, gk) (dx, M, L, fu, gx) (df, Mf, Lf, uf, gf) (dg, Mg, Lg, ug, gg) (de, Me, Le, ue, ge) (erM M v1) (recH M Hs n) Sh tx hd me wk fr (pn n) iK ty)) (c_meraseA l D cy cs (mm 0) (mm 1) (mm 2) (mm 3) (mm 4) (mm 5) (mm 6) (mm 7) (mm 8) n iK ty M Hs v1 (by first | assumption | omega) (by first | assumption | omega) (by first | assumption | omega) (by first | assumption | omega) (by first | assumption | omega) (by first | assumption | omega)) (cwV 1 C.2.2.2.2 gL_law_X6_erase rfl rfl rfl (by decide +kernel) ⟨Nat.le_of_ble_eq_true rfl, Nat.le_of_ble_eq_true rfl⟩) [77, 78, 79] rfl rfl rfl ⟨rfl, [0, 1, 2, 3, 4, 5, 6, 7, 8, 9, 10, 11, 12, 13, 14, 15, 16, 17, 18, 19, 20, 21, 22, 23, 24, 25, 26, 27, 28, 29, 30, 31, 32, 33, 34, 35, 36, 37, 38, 39, 40, 41, 42, 43, 44, 45, 46, 47, 48, 49, 50, 51, 52, 53, 54, 55, 56, 57, 58, 59, 60, 61, 62, 63, 64, 65, 66, 67, 68, 69, 70, 71, 72, 73, 74, 75, 76, 80, 81, 82, 83, 84, 85], ([zO w0 5 [.ref (d0 0), .ref (dk 0), .int (iI iK), .ref w1, .int (iI (pn n)), .ref t0, .ref w2], zR cs w1 4 (afF (tg2 n) (dx 0) (df 0) (dg 0) (de 0))] ++ (bkW cy (d0, erM M v1, L, fu, fn) ++ (bkW cy (dk, Mk, Lk, uk, gk) ++ (bkW cy (dx, M, L, fu, gx) ++ (bkW cy (df, Mf, Lf, uf, gf) ++ (bkW cy (dg, Mg, Lg, ug, gg) ++ (bkW cy (de, Me, Le, ue, ge) ++ ([zO t0 4 [.int (iI ty), .ref t1], zA cy t1 60 fv, zA cy w2 32 dz, zA cy (mm 3) 780 Sh, zA cy (mm 4) 60 tx, zA cy (mm 5) 3 hd, zA cy (mm 6) 32 me, zA cy (mm 7) 96 wk, zA cy (mm 8) 32 fr])))))))), 86, rfl, rfl, rfl, by decide +kernel⟩ rfl rfl rfl rfl (Nat.le_of_ble_eq_true rfl) hl.1 dL_law_292 ⟨Nat.le_of_ble_eq_true rfl, Nat.le_of_ble_eq_true rfl⟩ (fun H locs wd => ?_)
    refine z_same C (tgt := 718) rfl dL_law_295 (by decide) ?_
    exact lN_rec NX hn hiK htxr hhd (show vB_ (d0, erM M v1, L, fu, fn) from vO_er hvB hc.1.1 (by omega)) vK (show vB_ (dx, M, L, fu, gx) from hvB) vF vG vE hh hl wd
  · skip
    refine lv_aload_n C.1 C.2.1 dL_law_277 rfl (lv_at hl 1 rfl) ?_
    refine lv_aload_n C.1 C.2.1 dL_law_278 rfl (lv_at hl 0 rfl) ?_
    refine lv_iload_n C.1 C.2.1 dL_law_279 rfl (lv_at hl 3 rfl) ?_
    refine z_iconst C dL_law_280 ?_
    refine z_iadd C dL_law_281 ?_
    refine z_sld C wd hX hbl hbA (v := v1) (by omega) hLs hv1 dL_law_282 ?_
    refine z_cvi C wd hA (As := [.int (iI v1)]) (rest := []) (ws2 := (LW cy cs w0 w1 t0 t1 w2 mm iK n ty fv dz (afF (tg n) (dx 0) (df 0) (dg 0) (de 0)) (d0, M, L, fu, fn) (dk, Mk, Lk, uk, gk) (dx, Mx, Lx, ux, gx) (df, Mf, Lf, uf, gf) (dg, Mg, Lg, ug, gg) (de, Me, Le, ue, ge) M Hs Sh tx hd me wk fr n iK ty)) (c_X5_eraseB l D cy cs w0 w1 w2 t0 (d0 0) (dk 0) (d0 1) (d0 2) (d0 3) (d0 4) (d0 5) (d0 6) (d0 7) (d0 8) (d0 9) (d0 10) (d0 11) iK n L M v1 (by first | assumption | omega) (by first | assumption | omega) (by first | assumption | omega) (by first | assumption | omega) (by first | assumption | omega) (by first | assumption | omega)) (cwV 1 C.2.2.2.2 gL_law_X5_erase rfl rfl rfl (by decide +kernel) ⟨Nat.le_of_ble_eq_true rfl, Nat.le_of_ble_eq_true rfl⟩) [0, 2, 3, 5, 7, 9] rfl rfl rfl ⟨rfl, [1, 4, 6, 8, 10, 11, 12, 13, 14, 15, 16, 17, 18, 19, 20, 21, 22, 23, 24, 25, 26, 27, 28, 29, 30, 31, 32, 33, 34, 35, 36, 37, 38, 39, 40, 41, 42, 43, 44, 45, 46, 47, 48, 49, 50, 51, 52, 53, 54, 55, 56, 57, 58, 59, 60, 61, 62, 63, 64, 65, 66, 67, 68, 69, 70, 71, 72, 73, 74, 75, 76, 77, 78, 79, 80, 81, 82, 83, 84, 85], ([zR cs w1 4 (afF (tg n) (dx 0) (df 0) (dg 0) (de 0)), zA cy (d0 2) 3 (sl M 2), zA cy (d0 4) 80 (sl M 12), zA cy (d0 6) 240 (sl M 332), zA cy (d0 8) 80 (sl M 604), zA cy (d0 9) 32 (sl M 572), zA cy (d0 10) 32 fn, zA cy (d0 11) 80 fu] ++ (bkW cy (dk, Mk, Lk, uk, gk) ++ (bkW cy (dx, Mx, Lx, ux, gx) ++ (bkW cy (df, Mf, Lf, uf, gf) ++ (bkW cy (dg, Mg, Lg, ug, gg) ++ (bkW cy (de, Me, Le, ue, ge) ++ ([zO t0 4 [.int (iI ty), .ref t1], zA cy t1 60 fv, zA cy w2 32 dz, zO (mm 0) 6 [.ref (mm 1), .ref (mm 2), .int (iI n), .ref (mm 3), .int (iI iK), .ref (mm 4), .int (iI ty), .ref (mm 5), .ref (mm 6), .ref (mm 7), .ref (mm 8)], zA cy (mm 1) 780 M, zA cy (mm 2) 3120 Hs, zA cy (mm 3) 780 Sh, zA cy (mm 4) 60 tx, zA cy (mm 5) 3 hd, zA cy (mm 6) 32 me, zA cy (mm 7) 96 wk, zA cy (mm 8) 32 fr]))))))), 86, rfl, rfl, rfl, by decide +kernel⟩ rfl rfl rfl rfl (Nat.le_of_ble_eq_true rfl) hl.1 dL_law_283 ⟨Nat.le_of_ble_eq_true rfl, Nat.le_of_ble_eq_true rfl⟩ (fun H locs wd => ?_)
    refine lv_aload_n C.1 C.2.1 dL_law_286 rfl (lv_at hl 2 rfl) ?_
    refine lv_aload_n C.1 C.2.1 dL_law_287 rfl (lv_at hl 0 rfl) ?_
    refine lv_iload_n C.1 C.2.1 dL_law_288 rfl (lv_at hl 3 rfl) ?_
    refine z_iconst C dL_law_289 ?_
    refine z_iadd C dL_law_290 ?_
    refine z_sld C wd hX hbl hbA (v := v1) (by omega) hLs hv1 dL_law_291 ?_
    refine z_cvi C wd hA (As := [.int (iI v1)]) (rest := [.int (iI (eNo M v1))]) (ws2 := (LW cy cs w0 w1 t0 t1 w2 mm iK n ty fv dz (afF (tg n) (dx 0) (df 0) (dg 0) (de 0)) (d0, M, L, fu, fn) (dk, Mk, Lk, uk, gk) (dx, Mx, Lx, ux, gx) (df, Mf, Lf, uf, gf) (dg, Mg, Lg, ug, gg) (de, Me, Le, ue, ge) M Hs Sh tx hd me wk fr n iK ty)) (c_meraseB l D cy cs (mm 0) (mm 1) (mm 2) (mm 3) (mm 4) (mm 5) (mm 6) (mm 7) (mm 8) n iK ty M v1 (by first | assumption | omega) (by first | assumption | omega) (by first | assumption | omega) (by first | assumption | omega) (by first | assumption | omega)) (cwV 1 C.2.2.2.2 gL_law_X6_erase rfl rfl rfl (by decide +kernel) ⟨Nat.le_of_ble_eq_true rfl, Nat.le_of_ble_eq_true rfl⟩) [77, 78] rfl rfl rfl ⟨rfl, [0, 1, 2, 3, 4, 5, 6, 7, 8, 9, 10, 11, 12, 13, 14, 15, 16, 17, 18, 19, 20, 21, 22, 23, 24, 25, 26, 27, 28, 29, 30, 31, 32, 33, 34, 35, 36, 37, 38, 39, 40, 41, 42, 43, 44, 45, 46, 47, 48, 49, 50, 51, 52, 53, 54, 55, 56, 57, 58, 59, 60, 61, 62, 63, 64, 65, 66, 67, 68, 69, 70, 71, 72, 73, 74, 75, 76, 79, 80, 81, 82, 83, 84, 85], ([zO w0 5 [.ref (d0 0), .ref (dk 0), .int (iI iK), .ref w1, .int (iI n), .ref t0, .ref w2], zR cs w1 4 (afF (tg n) (dx 0) (df 0) (dg 0) (de 0))] ++ (bkW cy (d0, M, L, fu, fn) ++ (bkW cy (dk, Mk, Lk, uk, gk) ++ (bkW cy (dx, Mx, Lx, ux, gx) ++ (bkW cy (df, Mf, Lf, uf, gf) ++ (bkW cy (dg, Mg, Lg, ug, gg) ++ (bkW cy (de, Me, Le, ue, ge) ++ ([zO t0 4 [.int (iI ty), .ref t1], zA cy t1 60 fv, zA cy w2 32 dz, zA cy (mm 2) 3120 Hs, zA cy (mm 3) 780 Sh, zA cy (mm 4) 60 tx, zA cy (mm 5) 3 hd, zA cy (mm 6) 32 me, zA cy (mm 7) 96 wk, zA cy (mm 8) 32 fr])))))))), 86, rfl, rfl, rfl, by decide +kernel⟩ rfl rfl rfl rfl (Nat.le_of_ble_eq_true rfl) hl.1 dL_law_292 ⟨Nat.le_of_ble_eq_true rfl, Nat.le_of_ble_eq_true rfl⟩ (fun H locs wd => ?_)
    refine z_same C (tgt := 718) rfl dL_law_295 (by decide) ?_
    exact NX iK n ty fv dz Hs Sh tx hd me wk fr (d0, M, L, fu, fn) (dk, Mk, Lk, uk, gk) (dx, Mx, Lx, ux, gx) (df, Mf, Lf, uf, gf) (dg, Mg, Lg, ug, gg) (de, Me, Le, ue, ge) ⟨hn, hiK, htxr, hhd, ⟨vB, vK⟩, ⟨vX, vF, vG, vE⟩, hh⟩ H locs ls hl wd
