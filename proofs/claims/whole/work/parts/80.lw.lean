/-! the law's world: the class' cells and the reference's -/
abbrev Bk : Type := (Nat → Nat) × (Int → Int) × Int × (Int → Int) × (Int → Int)
def bkW (cy : ClassId) (B : Bk) : va_W := [zO (B.1 0) 3 [.int (iI (B.2.1 5)), .ref (B.1 1), .ref (B.1 3), .ref (B.1 7)], zO (B.1 1) 0 [.int (iI (B.2.1 0)), .int (iI (B.2.1 1)), .ref (B.1 2)], zA cy (B.1 2) 3 (sl B.2.1 2),
  zO (B.1 3) 2 [.int (iI (B.2.1 6)), .int (iI (B.2.1 7)), .ref (B.1 4), .ref (B.1 5), .ref (B.1 6)], zA cy (B.1 4) 80 (sl B.2.1 12), zA cy (B.1 5) 240 (sl B.2.1 92), zA cy (B.1 6) 240 (sl B.2.1 332),
  zO (B.1 7) 1 [.int (iI (B.2.1 9)), .int (iI B.2.2.1), .int (iI (B.2.1 10)), .int (iI (B.2.1 11)), .ref (B.1 8), .ref (B.1 9), .ref (B.1 10), .ref (B.1 11)], zA cy (B.1 8) 80 (sl B.2.1 604), zA cy (B.1 9) 32 (sl B.2.1 572), zA cy (B.1 10) 32 B.2.2.2.2, zA cy (B.1 11) 80 B.2.2.2.1]
def LW (cy cs : ClassId) (w0 w1 t0 t1 w2 : Nat) (mm : Nat → Nat) (iK n ty : Int) (fv dz : Int → Int) (pf : Nat → Option Nat) (B K X F G E : Bk) (Mm Hs Sh tx hd me wk fr : Int → Int) (st iss ty2 : Int) : va_W :=
  [zO w0 5 [.ref (B.1 0), .ref (K.1 0), .int (iI iK), .ref w1, .int (iI n), .ref t0, .ref w2], zR cs w1 4 pf] ++ (bkW cy B ++ (bkW cy K ++ (bkW cy X ++ (bkW cy F ++ (bkW cy G ++ (bkW cy E ++
  [zO t0 4 [.int (iI ty), .ref t1], zA cy t1 60 fv, zA cy w2 32 dz, zO (mm 0) 6 [.ref (mm 1), .ref (mm 2), .int (iI st), .ref (mm 3), .int (iI iss), .ref (mm 4), .int (iI ty2), .ref (mm 5), .ref (mm 6), .ref (mm 7), .ref (mm 8)],
   zA cy (mm 1) 780 Mm, zA cy (mm 2) 3120 Hs, zA cy (mm 3) 780 Sh, zA cy (mm 4) 60 tx, zA cy (mm 5) 3 hd, zA cy (mm 6) 32 me, zA cy (mm 7) 96 wk, zA cy (mm 8) 32 fr]))))))
/-- in between two calls -/
def LC (cy cs : ClassId) (w0 w1 t0 t1 w2 : Nat) (mm : Nat → Nat) (iK n ty : Int) (fv dz : Int → Int) (B K X F G E : Bk) (Hs Sh tx hd me wk fr : Int → Int) : va_W :=
  LW cy cs w0 w1 t0 t1 w2 mm iK n ty fv dz (afF (tg n) (X.1 0) (F.1 0) (G.1 0) (E.1 0)) B K X F G E B.2.1 Hs Sh tx hd me wk fr n iK ty
def vB_ (B : Bk) : Prop := vO B.2.1 B.2.2.1 B.2.2.2.1
def hsR (Hs M : Int → Int) (j : Int) : Prop := ∀ i : Int, 0 ≤ i → i < 780 → M i = Hs (780 * j + i)
def hiR (n : Int) (Hs Mx Mf Mg Mh : Int → Int) : Prop := (n = 4 → hsR Hs Mx 0 ∧ hsR Hs Mf 1 ∧ hsR Hs Mg 2 ∧ hsR Hs Mh 3) ∧ (n < 4 → (1 ≤ n → hsR Hs Mf 0) ∧ (2 ≤ n → hsR Hs Mg 1) ∧ (3 ≤ n → hsR Hs Mh 2))
def txR (ty : Int) (fv tx : Int → Int) : Prop := (0 ≤ ty ∧ ty ≤ 60) ∧ (∀ k : Int, 0 ≤ k → k < 60 → 0 ≤ fv k ∧ fv k ≤ 3) ∧ (∀ k : Int, 0 ≤ k → k < 60 → 0 ≤ tx k ∧ tx k < 65536) ∧ ∀ k : Int, 0 ≤ k → k < ty → fv k = vc (tx k)
def IV (iK n ty : Int) (fv : Int → Int) (B K X F G E : Bk) (Hs Sh tx hd : Int → Int) : Prop :=
  (0 ≤ n ∧ n ≤ 4) ∧ (iK = 0 ∨ (iK = 1 ∧ ∀ j : Int, 0 ≤ j → j < 780 → K.2.1 j = Sh j)) ∧ txR ty fv tx ∧ hdOk hd ∧ (vB_ B ∧ vB_ K) ∧ (vB_ X ∧ vB_ F ∧ vB_ G ∧ vB_ E) ∧ hiR n Hs X.2.1 F.2.1 G.2.1 E.2.1
theorem hsR_old {M Hs Mo : Int → Int} {n j : Int} (j0 : 0 ≤ j) (jn : j < n) (n4 : n < 4) (h : hsR Hs M j) : hsR (recH Mo Hs n) M j := fun i i0 i1 => by
  rw [h i i0 i1]
  unfold recH wrS
  rw [if_neg (by omega), if_neg (by omega)]
theorem hsR_new {Hs Mo : Int → Int} {n : Int} (n4 : n < 4) : hsR (recH Mo Hs n) Mo n := fun i i0 i1 => by
  unfold recH wrS
  rw [if_neg (by omega), if_pos (by omega), show 780 * n + i - 780 * n = i by omega]
theorem hsR_sh {M Hs Mo : Int → Int} {j : Int} (j0 : 0 ≤ j) (j1 : j < 3) (h : hsR Hs M (j + 1)) : hsR (recH Mo Hs 4) M j := fun i i0 i1 => by
  rw [h i i0 i1]
  unfold recH wrS shH
  rw [if_pos rfl, if_neg (by omega), if_pos (by omega), show 780 * (j + 1) + i = 780 * j + i + 780 by omega]
theorem hsR_top {Hs Mo : Int → Int} : hsR (recH Mo Hs 4) Mo 3 := fun i i0 i1 => by
  unfold recH wrS
  rw [if_pos rfl, if_pos (by omega), show 780 * 3 + i - 2340 = i by omega]
section LWS
variable {H0 H : Heap} {s : State} {locs : List Loc} {D : va_G} {A : Nat → Prop} {cy cs : ClassId} {w0 w1 t0 t1 w2 : Nat} {mm : Nat → Nat} {iK n ty st iss ty2 : Int} {fv dz Mm Hs Sh tx hd me wk fr Mo : Int → Int} {B K X F G E X2 F2 G2 E2 : Bk} {pf pg : Nat → Option Nat}
theorem lw_pf (wd : Wd D (zT cy cs) A H0 s (LW cy cs w0 w1 t0 t1 w2 mm iK n ty fv dz pf B K X F G E Mm Hs Sh tx hd me wk fr st iss ty2) H locs) (h : ∀ k : Nat, k < 4 → pf k = pg k) : Wd D (zT cy cs) A H0 s (LW cy cs w0 w1 t0 t1 w2 mm iK n ty fv dz pg B K X F G E Mm Hs Sh tx hd me wk fr st iss ty2) H locs :=
  z_cellR wd 1 rfl h rfl
theorem lw_mm (wd : Wd D (zT cy cs) A H0 s (LW cy cs w0 w1 t0 t1 w2 mm iK n ty fv dz pf B K X F G E Mm Hs Sh tx hd me wk fr st iss ty2) H locs) (h : ∀ k : Int, 0 ≤ k → k < 780 → Mm k = Mo k) : Wd D (zT cy cs) A H0 s (LW cy cs w0 w1 t0 t1 w2 mm iK n ty fv dz pf B K X F G E Mo Hs Sh tx hd me wk fr st iss ty2) H locs :=
  z_cell wd 78 rfl h rfl
end LWS
