section LWP
variable {H0 H : Heap} {s : State} {locs : List Loc} {D : va_G} {A : Nat → Prop} {cy cs : ClassId} {w0 w1 t0 t1 w2 : Nat} {mm : Nat → Nat} {iK n ty st iss ty2 : Int} {fv dz Mm Hs Sh tx hd me wk fr Mo : Int → Int} {B K X F G E : Bk} {pf : Nat → Option Nat}
set_option maxRecDepth 100000 in
theorem lw_FXGE (wd : Wd D (zT cy cs) A H0 s (LW cy cs w0 w1 t0 t1 w2 mm iK n ty fv dz pf B K X F G E Mm Hs Sh tx hd me wk fr st iss ty2) H locs) : Wd D (zT cy cs) A H0 s (LW cy cs w0 w1 t0 t1 w2 mm iK n ty fv dz pf B K F X G E Mm Hs Sh tx hd me wk fr st iss ty2) H locs := z_pick wd [0, 1, 2, 3, 4, 5, 6, 7, 8, 9, 10, 11, 12, 13, 14, 15, 16, 17, 18, 19, 20, 21, 22, 23, 24, 25, 38, 39, 40, 41, 42, 43, 44, 45, 46, 47, 48, 49, 26, 27, 28, 29, 30, 31, 32, 33, 34, 35, 36, 37, 50, 51, 52, 53, 54, 55, 56, 57, 58, 59, 60, 61, 62, 63, 64, 65, 66, 67, 68, 69, 70, 71, 72, 73, 74, 75, 76, 77, 78, 79, 80, 81, 82, 83, 84, 85] rfl (by decide +kernel)
set_option maxRecDepth 100000 in
theorem lw_GFXE (wd : Wd D (zT cy cs) A H0 s (LW cy cs w0 w1 t0 t1 w2 mm iK n ty fv dz pf B K X F G E Mm Hs Sh tx hd me wk fr st iss ty2) H locs) : Wd D (zT cy cs) A H0 s (LW cy cs w0 w1 t0 t1 w2 mm iK n ty fv dz pf B K G F X E Mm Hs Sh tx hd me wk fr st iss ty2) H locs := z_pick wd [0, 1, 2, 3, 4, 5, 6, 7, 8, 9, 10, 11, 12, 13, 14, 15, 16, 17, 18, 19, 20, 21, 22, 23, 24, 25, 50, 51, 52, 53, 54, 55, 56, 57, 58, 59, 60, 61, 38, 39, 40, 41, 42, 43, 44, 45, 46, 47, 48, 49, 26, 27, 28, 29, 30, 31, 32, 33, 34, 35, 36, 37, 62, 63, 64, 65, 66, 67, 68, 69, 70, 71, 72, 73, 74, 75, 76, 77, 78, 79, 80, 81, 82, 83, 84, 85] rfl (by decide +kernel)
set_option maxRecDepth 100000 in
theorem lw_EFGX (wd : Wd D (zT cy cs) A H0 s (LW cy cs w0 w1 t0 t1 w2 mm iK n ty fv dz pf B K X F G E Mm Hs Sh tx hd me wk fr st iss ty2) H locs) : Wd D (zT cy cs) A H0 s (LW cy cs w0 w1 t0 t1 w2 mm iK n ty fv dz pf B K E F G X Mm Hs Sh tx hd me wk fr st iss ty2) H locs := z_pick wd [0, 1, 2, 3, 4, 5, 6, 7, 8, 9, 10, 11, 12, 13, 14, 15, 16, 17, 18, 19, 20, 21, 22, 23, 24, 25, 62, 63, 64, 65, 66, 67, 68, 69, 70, 71, 72, 73, 38, 39, 40, 41, 42, 43, 44, 45, 46, 47, 48, 49, 50, 51, 52, 53, 54, 55, 56, 57, 58, 59, 60, 61, 26, 27, 28, 29, 30, 31, 32, 33, 34, 35, 36, 37, 74, 75, 76, 77, 78, 79, 80, 81, 82, 83, 84, 85] rfl (by decide +kernel)
set_option maxRecDepth 100000 in
theorem lw_FGEX (wd : Wd D (zT cy cs) A H0 s (LW cy cs w0 w1 t0 t1 w2 mm iK n ty fv dz pf B K X F G E Mm Hs Sh tx hd me wk fr st iss ty2) H locs) : Wd D (zT cy cs) A H0 s (LW cy cs w0 w1 t0 t1 w2 mm iK n ty fv dz pf B K F G E X Mm Hs Sh tx hd me wk fr st iss ty2) H locs := z_pick wd [0, 1, 2, 3, 4, 5, 6, 7, 8, 9, 10, 11, 12, 13, 14, 15, 16, 17, 18, 19, 20, 21, 22, 23, 24, 25, 38, 39, 40, 41, 42, 43, 44, 45, 46, 47, 48, 49, 50, 51, 52, 53, 54, 55, 56, 57, 58, 59, 60, 61, 62, 63, 64, 65, 66, 67, 68, 69, 70, 71, 72, 73, 26, 27, 28, 29, 30, 31, 32, 33, 34, 35, 36, 37, 74, 75, 76, 77, 78, 79, 80, 81, 82, 83, 84, 85] rfl (by decide +kernel)
set_option maxRecDepth 100000 in
theorem lw_EXFG (wd : Wd D (zT cy cs) A H0 s (LW cy cs w0 w1 t0 t1 w2 mm iK n ty fv dz pf B K X F G E Mm Hs Sh tx hd me wk fr st iss ty2) H locs) : Wd D (zT cy cs) A H0 s (LW cy cs w0 w1 t0 t1 w2 mm iK n ty fv dz pf B K E X F G Mm Hs Sh tx hd me wk fr st iss ty2) H locs := z_pick wd [0, 1, 2, 3, 4, 5, 6, 7, 8, 9, 10, 11, 12, 13, 14, 15, 16, 17, 18, 19, 20, 21, 22, 23, 24, 25, 62, 63, 64, 65, 66, 67, 68, 69, 70, 71, 72, 73, 26, 27, 28, 29, 30, 31, 32, 33, 34, 35, 36, 37, 38, 39, 40, 41, 42, 43, 44, 45, 46, 47, 48, 49, 50, 51, 52, 53, 54, 55, 56, 57, 58, 59, 60, 61, 74, 75, 76, 77, 78, 79, 80, 81, 82, 83, 84, 85] rfl (by decide +kernel)
/-- behind a record: the four blocks of the past in the order that the next record asks -/
theorem lw_rec (hn : 0 ≤ n ∧ n ≤ 4) (hX : X.2.1 = Mo) (hh : ∀ q : n < 4, (1 ≤ n → hsR Hs F.2.1 0) ∧ (2 ≤ n → hsR Hs G.2.1 1) ∧ (3 ≤ n → hsR Hs E.2.1 2)) (hh4 : n = 4 → hsR Hs F.2.1 1 ∧ hsR Hs G.2.1 2 ∧ hsR Hs E.2.1 3) (hv : vB_ X ∧ vB_ F ∧ vB_ G ∧ vB_ E)
    (wd : Wd D (zT cy cs) A H0 s (LW cy cs w0 w1 t0 t1 w2 mm iK (pn n) ty fv dz (afF (tg2 n) (X.1 0) (F.1 0) (G.1 0) (E.1 0)) B K X F G E Mm (recH Mo Hs n) Sh tx hd me wk fr st iss ty2) H locs) :
    ∃ X2 F2 G2 E2 : Bk, Wd D (zT cy cs) A H0 s (LW cy cs w0 w1 t0 t1 w2 mm iK (pn n) ty fv dz (afF (tg (pn n)) (X2.1 0) (F2.1 0) (G2.1 0) (E2.1 0)) B K X2 F2 G2 E2 Mm (recH Mo Hs n) Sh tx hd me wk fr st iss ty2) H locs ∧ (vB_ X2 ∧ vB_ F2 ∧ vB_ G2 ∧ vB_ E2) ∧ hiR (pn n) (recH Mo Hs n) X2.2.1 F2.2.1 G2.2.1 E2.2.1 := by
  obtain ⟨vX, vF, vG, vE⟩ := hv
  rcases (show n = 0 ∨ n = 1 ∨ n = 2 ∨ n = 3 ∨ n = 4 by omega) with rfl | rfl | rfl | rfl | rfl
  · have hnew : hsR (recH Mo Hs 0) X.2.1 0 := by rw [hX]; exact hsR_new (by omega)
    refine ⟨F, X, G, E, lw_pf (lw_FXGE wd) (fun k hk => ?_), ⟨vF, vX, vG, vE⟩, fun q => absurd q (by decide), fun _ => ⟨fun _ => hnew, fun q => absurd q (by decide), fun q => absurd q (by decide)⟩⟩
    rcases (show k = 0 ∨ k = 1 ∨ k = 2 ∨ k = 3 by omega) with rfl | rfl | rfl | rfl <;> rfl
  · have hnew : hsR (recH Mo Hs 1) X.2.1 1 := by rw [hX]; exact hsR_new (by omega)
    have q := hh (by omega)
    have qF := hsR_old (Mo := Mo) (n := 1) (by omega) (by omega) (by omega) (q.1 (by omega))
    refine ⟨G, F, X, E, lw_pf (lw_GFXE wd) (fun k hk => ?_), ⟨vG, vF, vX, vE⟩, fun q => absurd q (by decide), fun _ => ⟨fun _ => qF, fun _ => hnew, fun q => absurd q (by decide)⟩⟩
    rcases (show k = 0 ∨ k = 1 ∨ k = 2 ∨ k = 3 by omega) with rfl | rfl | rfl | rfl <;> rfl
  · have hnew : hsR (recH Mo Hs 2) X.2.1 2 := by rw [hX]; exact hsR_new (by omega)
    have q := hh (by omega)
    have qF := hsR_old (Mo := Mo) (n := 2) (by omega) (by omega) (by omega) (q.1 (by omega))
    have qG := hsR_old (Mo := Mo) (n := 2) (by omega) (by omega) (by omega) (q.2.1 (by omega))
    refine ⟨E, F, G, X, lw_pf (lw_EFGX wd) (fun k hk => ?_), ⟨vE, vF, vG, vX⟩, fun q => absurd q (by decide), fun _ => ⟨fun _ => qF, fun _ => qG, fun _ => hnew⟩⟩
    rcases (show k = 0 ∨ k = 1 ∨ k = 2 ∨ k = 3 by omega) with rfl | rfl | rfl | rfl <;> rfl
  · have hnew : hsR (recH Mo Hs 3) X.2.1 3 := by rw [hX]; exact hsR_new (by omega)
    have q := hh (by omega)
    have qF := hsR_old (Mo := Mo) (n := 3) (by omega) (by omega) (by omega) (q.1 (by omega))
    have qG := hsR_old (Mo := Mo) (n := 3) (by omega) (by omega) (by omega) (q.2.1 (by omega))
    have qE := hsR_old (Mo := Mo) (n := 3) (by omega) (by omega) (by omega) (q.2.2 (by omega))
    refine ⟨F, G, E, X, lw_pf (lw_FGEX wd) (fun k hk => ?_), ⟨vF, vG, vE, vX⟩, fun _ => ⟨qF, qG, qE, hnew⟩, fun q => absurd q (by decide)⟩
    rcases (show k = 0 ∨ k = 1 ∨ k = 2 ∨ k = 3 by omega) with rfl | rfl | rfl | rfl <;> rfl
  · have hnew : hsR (recH Mo Hs 4) X.2.1 3 := by rw [hX]; exact hsR_top
    have q := hh4 rfl
    have qF := hsR_sh (Mo := Mo) (j := 0) (by omega) (by omega) q.1
    have qG := hsR_sh (Mo := Mo) (j := 1) (by omega) (by omega) q.2.1
    have qE := hsR_sh (Mo := Mo) (j := 2) (by omega) (by omega) q.2.2
    refine ⟨F, G, E, X, lw_pf (lw_FGEX wd) (fun k hk => ?_), ⟨vF, vG, vE, vX⟩, fun _ => ⟨qF, qG, qE, hnew⟩, fun q => absurd q (by decide)⟩
    rcases (show k = 0 ∨ k = 1 ∨ k = 2 ∨ k = 3 by omega) with rfl | rfl | rfl | rfl <;> rfl
/-- behind an undo -/
theorem lw_und (hn : 1 ≤ n ∧ n ≤ 4) (hh : hiR n Hs X.2.1 F.2.1 G.2.1 E.2.1) (hv : vB_ X ∧ vB_ F ∧ vB_ G ∧ vB_ E)
    (wd : Wd D (zT cy cs) A H0 s (LW cy cs w0 w1 t0 t1 w2 mm iK (n - 1) ty fv dz (afF (tg n) (X.1 0) (F.1 0) (G.1 0) (E.1 0)) B K X F G E Mm Hs Sh tx hd me wk fr st iss ty2) H locs) :
    ∃ X2 F2 G2 E2 : Bk, Wd D (zT cy cs) A H0 s (LW cy cs w0 w1 t0 t1 w2 mm iK (n - 1) ty fv dz (afF (tg (n - 1)) (X2.1 0) (F2.1 0) (G2.1 0) (E2.1 0)) B K X2 F2 G2 E2 Mm Hs Sh tx hd me wk fr st iss ty2) H locs ∧ (vB_ X2 ∧ vB_ F2 ∧ vB_ G2 ∧ vB_ E2) ∧ hiR (n - 1) Hs X2.2.1 F2.2.1 G2.2.1 E2.2.1 := by
  obtain ⟨vX, vF, vG, vE⟩ := hv
  rcases (show n = 1 ∨ n = 2 ∨ n = 3 ∨ n = 4 by omega) with rfl | rfl | rfl | rfl
  · refine ⟨F, X, G, E, lw_pf (lw_FXGE wd) (fun k hk => ?_), ⟨vF, vX, vG, vE⟩, fun q => absurd q (by decide), fun _ => ⟨fun q => absurd q (by decide), fun q => absurd q (by decide), fun q => absurd q (by decide)⟩⟩
    rcases (show k = 0 ∨ k = 1 ∨ k = 2 ∨ k = 3 by omega) with rfl | rfl | rfl | rfl <;> rfl
  · have q := hh.2 (by omega)
    refine ⟨G, F, X, E, lw_pf (lw_GFXE wd) (fun k hk => ?_), ⟨vG, vF, vX, vE⟩, fun q => absurd q (by decide), fun _ => ⟨fun _ => q.1 (by omega), fun q => absurd q (by decide), fun q => absurd q (by decide)⟩⟩
    rcases (show k = 0 ∨ k = 1 ∨ k = 2 ∨ k = 3 by omega) with rfl | rfl | rfl | rfl <;> rfl
  · have q := hh.2 (by omega)
    refine ⟨E, F, G, X, lw_pf (lw_EFGX wd) (fun k hk => ?_), ⟨vE, vF, vG, vX⟩, fun q => absurd q (by decide), fun _ => ⟨fun _ => q.1 (by omega), fun _ => q.2.1 (by omega), fun q => absurd q (by decide)⟩⟩
    rcases (show k = 0 ∨ k = 1 ∨ k = 2 ∨ k = 3 by omega) with rfl | rfl | rfl | rfl <;> rfl
  · have q := hh.1 rfl
    refine ⟨E, X, F, G, lw_pf (lw_EXFG wd) (fun k hk => ?_), ⟨vE, vX, vF, vG⟩, fun q => absurd q (by decide), fun _ => ⟨fun _ => q.1, fun _ => q.2.1, fun _ => q.2.2.1⟩⟩
    rcases (show k = 0 ∨ k = 1 ∨ k = 2 ∨ k = 3 by omega) with rfl | rfl | rfl | rfl <;> rfl
end LWP
