/-! the reference's own numbers -/
theorem iI_xor1 {y z : Int} (hy : 0 ≤ y ∧ y ≤ 1) (hz : 0 ≤ z ∧ z ≤ 1) : iI y ^^^ iI z = iI ((y + z) % 2) := by
  rcases (show y = 0 ∨ y = 1 by omega) with rfl | rfl <;> rcases (show z = 0 ∨ z = 1 by omega) with rfl | rfl <;> decide +kernel
theorem par6_hn : ∀ n : Nat, n < 64 → par6 n = ((n : Int) % 2 + par6 (n / 2)) % 2 := by decide +kernel
theorem par6_half {x : Int} (h0 : 0 ≤ x) (h1 : x < 64) : par6 x.toNat = (x % 2 + par6 (x / 2).toNat) % 2 := by
  have h := par6_hn x.toNat (by omega)
  rw [Int.toNat_of_nonneg h0] at h
  rw [h, show (x / 2).toNat = x.toNat / 2 by omega]
theorem par6_0 : par6 0 = 0 := rfl
theorem vc_or (x : Int) : (x = 48 ∧ vc x = 0) ∨ (x = 49 ∧ vc x = 1) ∨ (x = 63 ∧ vc x = 2) ∨ (x ≠ 48 ∧ x ≠ 49 ∧ x ≠ 63 ∧ vc x = 3) := by
  unfold vc
  split
  · omega
  · split
    · omega
    · split <;> omega
def shH (Hs : Int → Int) (n : Int) : Int → Int := fun j => if 0 ≤ j ∧ j < n then Hs (j + 780) else Hs j
theorem shH_0 (Hs : Int → Int) : shH Hs 0 = Hs := by
  funext j
  exact if_neg (by omega)
theorem shH_at (Hs : Int → Int) {n : Int} (h : 0 ≤ n) : shH Hs n (n + 780) = Hs (n + 780) := if_neg (by omega)
theorem shH_step (Hs : Int → Int) {n : Int} (h : 0 ≤ n) : uZ (shH Hs n) n (Hs (n + 780)) = shH Hs (n + 1) := by
  funext j
  unfold uZ shH
  by_cases e : j = n
  · rw [if_pos e, if_pos (by omega), e]
  · rw [if_neg e]
    by_cases e2 : 0 ≤ j ∧ j < n
    · rw [if_pos e2, if_pos (by omega)]
    · rw [if_neg e2, if_neg (by omega)]
def recH (M Hs : Int → Int) (st : Int) : Int → Int := if st = 4 then wrS (shH Hs 2340) 2340 780 M else wrS Hs (780 * st) 780 M
def clV (z : Int) : Int := if z = 0 then 0 else -1
theorem clR_of (M : Int → Int) (j : Int) (h0 : 0 ≤ j) (h1 : j < 780) : wrS (wrS (uZ (uZ (uZ (uZ M 8 0) 9 0) 10 0) 11 0) 572 32 clV) 684 96 (fun _ => 0) j = clR M j := by
  unfold wrS clR clV
  by_cases e1 : 684 ≤ j
  · rw [if_pos (show 684 ≤ j ∧ j < 684 + 96 by omega), if_neg (show ¬ (8 ≤ j ∧ j < 12) by omega), if_neg (show ¬ (572 ≤ j ∧ j < 604) by omega), if_pos (show 684 ≤ j ∧ j < 780 by omega)]
  · rw [if_neg (show ¬ (684 ≤ j ∧ j < 684 + 96) by omega)]
    by_cases e2 : 572 ≤ j ∧ j < 604
    · rw [if_pos (show 572 ≤ j ∧ j < 572 + 32 by omega), if_neg (show ¬ (8 ≤ j ∧ j < 12) by omega), if_pos e2]
      by_cases e3 : j = 572
      · rw [if_pos e3, if_pos (show j - 572 = 0 by omega)]
      · rw [if_neg e3, if_neg (show ¬ j - 572 = 0 by omega)]
    · rw [if_neg (by omega)]
      unfold uZ
      by_cases e4 : 8 ≤ j ∧ j < 12
      · rw [if_pos e4]
        rcases (show j = 8 ∨ j = 9 ∨ j = 10 ∨ j = 11 by omega) with rfl | rfl | rfl | rfl <;> rfl
      · rw [if_neg (by omega), if_neg (by omega), if_neg (by omega), if_neg (by omega), if_neg e4, if_neg e2, if_neg (by omega)]
/-- a bit of a walk in the reference's words -/
def wkB (M : Int → Int) (st pl : Int) : Int := M (684 + 3 * st + pl / 30) / p2 (pl % 30) % 2
def rl1 (M : Int → Int) (st : Int) : Int → Int := uZ (uZ M (604 + M 10) (wkB M st (M 10))) 10 (M 10 + 1)
def wr2 (M : Int → Int) (q k : Int) (V : Int → Int) : Int → Int := wrS (wrS M (92 + q) k V) (332 + q) k V
theorem wr2_0 (M : Int → Int) (q : Int) (V : Int → Int) : wr2 M q 0 V = M := by
  unfold wr2
  rw [wrS_0, wrS_0]
theorem wr2_low (M : Int → Int) (q k : Int) (V : Int → Int) (hq : 0 ≤ q) (j : Int) (h : j < 92) : wr2 M q k V j = M j := by
  unfold wr2 wrS
  rw [if_neg (by omega), if_neg (by omega)]
theorem wr2_step (M : Int → Int) (q k : Int) (V : Int → Int) (hq : 0 ≤ q) (hk : 0 ≤ k) (h : q + k < 240) : uZ (uZ (wr2 M q k V) (92 + (q + k)) (V k)) (332 + (q + k)) (V k) = wr2 M q (k + 1) V := by
  funext j
  unfold wr2 uZ wrS
  by_cases e1 : j = 332 + (q + k)
  · rw [if_pos e1, if_pos (by omega), show j - (332 + q) = k by omega]
  · rw [if_neg e1]
    by_cases e2 : j = 92 + (q + k)
    · rw [if_pos e2, if_neg (by omega), if_pos (by omega), show j - (92 + q) = k by omega]
    · rw [if_neg e2]
      by_cases e3 : 332 + q ≤ j ∧ j < 332 + q + k
      · rw [if_pos e3, if_pos (show 332 + q ≤ j ∧ j < 332 + q + (k + 1) by omega)]
      · rw [if_neg e3, if_neg (show ¬ (332 + q ≤ j ∧ j < 332 + q + (k + 1)) by omega)]
        by_cases e4 : 92 + q ≤ j ∧ j < 92 + q + k
        · rw [if_pos e4, if_pos (show 92 + q ≤ j ∧ j < 92 + q + (k + 1) by omega)]
        · rw [if_neg e4, if_neg (show ¬ (92 + q ≤ j ∧ j < 92 + q + (k + 1)) by omega)]
theorem sB_wr2 (M : Int → Int) (b : Int) : uZ (uZ (uZ (wr2 M (M 7 * M 1) (M 1) (vB M b)) (12 + M 7) b) 7 (M 7 + 1)) 6 (wn (M 0) (M 6) b / 2) = sB M b := rfl
