/-! states behind acts -/
def flM (M : Int → Int) (k : Int) : Int → Int := uZ M (92 + k) (1 - M (92 + k))
def erM (M : Int → Int) (k : Int) : Int → Int := uZ M (92 + k) 2
def sdM (M : Int → Int) (d : Int) : Int → Int := uZ M 5 d
def clR (M : Int → Int) : Int → Int := fun j => if 8 ≤ j ∧ j < 12 then 0 else if 572 ≤ j ∧ j < 604 then (if j = 572 then 0 else -1) else if 684 ≤ j ∧ j < 780 then 0 else M j
def scM (M : Int → Int) (m0 f1 f2 f3 : Int) : Int → Int := clR (uZ (uZ (uZ (uZ (uZ (uZ (uZ M 0 m0) 1 (oT f3)) 2 f1) 3 f2) 4 f3) 6 0) 7 0)
def vB (M : Int → Int) (b : Int) : Int → Int := fun k => sy (sl M 2 k) (wn (M 0) (M 6) b)
def sB (M : Int → Int) (b : Int) : Int → Int := uZ (uZ (uZ (wrS (wrS M (92 + M 7 * M 1) (M 1) (vB M b)) (332 + M 7 * M 1) (M 1) (vB M b)) (12 + M 7) b) 7 (M 7 + 1)) 6 (wn (M 0) (M 6) b / 2)
def sdN (M : Int → Int) (g : Int → Int) : Nat → (Int → Int)
  | 0 => M
  | n + 1 => sB (sdN M g n) (g (n : Int))
theorem sdN_at (M g : Int → Int) {i : Int} (h : 0 ≤ i) : sdN M g (i + 1).toNat = sB (sdN M g i.toNat) (g i) := by
  rw [show (i + 1).toNat = i.toNat + 1 by omega, sdN, Int.toNat_of_nonneg h]
theorem sdN_cong {M g g2 : Int → Int} : ∀ {n : Nat}, (∀ k : Int, 0 ≤ k → k < n → g k = g2 k) → sdN M g n = sdN M g2 n
  | 0, _ => rfl
  | n + 1, h => by rw [sdN, sdN, sdN_cong (n := n) (fun k h0 h1 => h k h0 (by omega)), h n (by omega) (by omega)]
/-- what a sender must hold -/
def sOk (M : Int → Int) : Prop := (1 ≤ M 0 ∧ M 0 ≤ 5) ∧ (2 ≤ M 1 ∧ M 1 ≤ 3) ∧ tpOk (sl M 2) ∧ (0 ≤ M 6 ∧ M 6 < p2 (M 0)) ∧ (0 ≤ M 7 ∧ M 7 ≤ 80)
theorem bo_le {a o : Int} (ho : 2 ≤ o ∧ o ≤ 3) (h0 : 0 ≤ a) (h1 : a < 80) : 0 ≤ a * o ∧ a * o + o ≤ 240 := by
  rcases (show o = 2 ∨ o = 3 by omega) with h | h <;> rw [h] <;> omega
theorem sB_low (M : Int → Int) (b j : Int) (h7 : 0 ≤ M 7) (ho : 2 ≤ M 1 ∧ M 1 ≤ 3) (h8 : M 7 < 80) (h : j < 12) : sB M b j = if j = 6 then wn (M 0) (M 6) b / 2 else if j = 7 then M 7 + 1 else M j := by
  have hb := bo_le ho h7 h8
  unfold sB uZ wrS
  by_cases e6 : j = 6
  · rw [if_pos e6, if_pos e6]
  · rw [if_neg e6, if_neg e6]
    by_cases e7 : j = 7
    · rw [if_pos e7, if_pos e7]
    · rw [if_neg e7, if_neg e7, if_neg (by omega), if_neg (by omega), if_neg (by omega)]
theorem sB_12 (M : Int → Int) (b j : Int) (h7 : 0 ≤ M 7) (ho : 2 ≤ M 1 ∧ M 1 ≤ 3) (h8 : M 7 < 80) (j0 : 0 ≤ j) (j1 : j < 80) : uZ (sl M 12) (M 7) b j = sl (sB M b) 12 j := by
  have hb := bo_le ho h7 h8
  unfold sl sB uZ wrS
  rw [if_neg (show ¬ 12 + j = 6 by omega), if_neg (show ¬ 12 + j = 7 by omega)]
  by_cases e : j = M 7
  · rw [if_pos e, if_pos (by omega)]
  · rw [if_neg e, if_neg (by omega), if_neg (by omega), if_neg (by omega)]
theorem sB_92 (M : Int → Int) (b j : Int) (h7 : 0 ≤ M 7) (ho : 2 ≤ M 1 ∧ M 1 ≤ 3) (h8 : M 7 < 80) (j0 : 0 ≤ j) (j1 : j < 240) : wrS (sl M 92) (M 7 * M 1) (M 1) (vB M b) j = sl (sB M b) 92 j := by
  have hb := bo_le ho h7 h8
  unfold sl sB uZ wrS
  rw [if_neg (show ¬ 92 + j = 6 by omega), if_neg (show ¬ 92 + j = 7 by omega), if_neg (show ¬ 92 + j = 12 + M 7 by omega), if_neg (show ¬ (332 + M 7 * M 1 ≤ 92 + j ∧ 92 + j < 332 + M 7 * M 1 + M 1) by omega)]
  by_cases e : M 7 * M 1 ≤ j ∧ j < M 7 * M 1 + M 1
  · rw [if_pos e, if_pos (by omega), show 92 + j - (92 + M 7 * M 1) = j - M 7 * M 1 by omega]
  · rw [if_neg e, if_neg (by omega)]
theorem sB_332 (M : Int → Int) (b j : Int) (h7 : 0 ≤ M 7) (ho : 2 ≤ M 1 ∧ M 1 ≤ 3) (h8 : M 7 < 80) (j0 : 0 ≤ j) (j1 : j < 240) : wrS (sl M 332) (M 7 * M 1) (M 1) (vB M b) j = sl (sB M b) 332 j := by
  have hb := bo_le ho h7 h8
  unfold sl sB uZ wrS
  rw [if_neg (show ¬ 332 + j = 6 by omega), if_neg (show ¬ 332 + j = 7 by omega), if_neg (show ¬ 332 + j = 12 + M 7 by omega)]
  by_cases e : M 7 * M 1 ≤ j ∧ j < M 7 * M 1 + M 1
  · rw [if_pos e, if_pos (by omega), show 332 + j - (332 + M 7 * M 1) = j - M 7 * M 1 by omega]
  · rw [if_neg e, if_neg (by omega), if_neg (by omega)]
theorem sB_hi (M : Int → Int) (b j : Int) (h7 : 0 ≤ M 7) (ho : 2 ≤ M 1 ∧ M 1 ≤ 3) (h8 : M 7 < 80) (h : 572 ≤ j) : sB M b j = M j := by
  have hb := bo_le ho h7 h8
  unfold sB uZ wrS
  rw [if_neg (by omega), if_neg (by omega), if_neg (by omega), if_neg (by omega), if_neg (by omega)]
theorem wn2_le {mm st b : Int} (h1 : 1 ≤ mm) (h2 : mm ≤ 5) (s0 : 0 ≤ st) (s1 : st < p2 mm) (b0 : 0 ≤ b) (b1 : b ≤ 1) : 0 ≤ wn mm st b / 2 ∧ wn mm st b / 2 < p2 mm := by
  have h := wn_le h1 h2 s0 s1 b0 b1
  omega
theorem sB_ok {M : Int → Int} {b : Int} (h : sOk M) (h8 : M 7 < 80) (hb : 0 ≤ b ∧ b ≤ 1) : sOk (sB M b) := by
  obtain ⟨hm, ho, ht, h6, h7⟩ := h
  have e := fun j h => sB_low M b j h7.1 ho h8 h
  have hw := wn2_le hm.1 hm.2 h6.1 h6.2 hb.1 hb.2
  refine ⟨?_, ?_, ?_, ?_, ?_⟩
  · rw [e 0 (by omega)]
    exact hm
  · rw [e 1 (by omega)]
    exact ho
  · intro k k0 k1
    have h2 := ht k k0 k1
    have h3 := e (2 + k) (by omega)
    rw [if_neg (by omega), if_neg (by omega)] at h3
    show 0 ≤ sB M b (2 + k) ∧ sB M b (2 + k) < 64
    rw [h3]
    exact h2
  · rw [e 0 (by omega), e 6 (by omega)]
    exact hw
  · rw [e 7 (by omega)]
    show 0 ≤ M 7 + 1 ∧ M 7 + 1 ≤ 80
    omega
theorem sdN_ok {M g : Int → Int} (h : sOk M) : ∀ n : Nat, M 7 + n ≤ 80 → (∀ k : Int, 0 ≤ k → k < n → 0 ≤ g k ∧ g k ≤ 1) → sOk (sdN M g n) ∧ (sdN M g n) 7 = M 7 + n
  | 0, _, _ => ⟨h, by simp [sdN]⟩
  | n + 1, h1, h2 => by
    have ih := sdN_ok h n (by omega) (fun k k0 k1 => h2 k k0 (by omega))
    have hb := h2 n (by omega) (by omega)
    rw [sdN]
    refine ⟨sB_ok ih.1 (by omega) hb, ?_⟩
    rw [sB_low _ _ 7 ih.1.2.2.2.2.1 ih.1.2.1 (by omega) (by omega)]
    show (sdN M g n) 7 + 1 = _
    omega
def sdNo (M : Int → Int) (d : Int) : Int := if ¬ (2 ≤ d ∧ d ≤ 40) then -2 else if 0 < M 9 then -4 else -5
def fNo (M : Int → Int) (k : Int) : Int := if ¬ (0 ≤ k ∧ k < M 7 * M 1) then -1 else -4
def eNo (M : Int → Int) (k : Int) : Int := if ¬ (0 ≤ k ∧ k < M 7 * M 1) then -1 else if k < M 8 then -4 else -5
def sNo (x : Int) : Int := if 0 ≤ x then -100 - x else -3
theorem clR_k (M : Int → Int) (j : Int) (h : j < 8 ∨ (12 ≤ j ∧ j < 572) ∨ (604 ≤ j ∧ j < 684) ∨ 780 ≤ j) : clR M j = M j := by
  unfold clR
  rw [if_neg (by omega), if_neg (by omega), if_neg (by omega)]
theorem clR_572 (M : Int → Int) (j : Int) (h0 : 0 ≤ j) (h1 : j < 32) : uZ (fun _ => -1) 0 0 j = sl (clR M) 572 j := by
  unfold uZ sl clR
  rw [if_neg (show ¬ (8 ≤ 572 + j ∧ 572 + j < 12) by omega), if_pos (show 572 ≤ 572 + j ∧ 572 + j < 604 by omega)]
  by_cases e : j = 0
  · rw [if_pos e, if_pos (by omega)]
  · rw [if_neg e, if_neg (by omega)]
theorem scM_k (M : Int → Int) (f0 f1 f2 f3 j : Int) (h : (12 ≤ j ∧ j < 572) ∨ (604 ≤ j ∧ j < 684)) : scM M f0 f1 f2 f3 j = M j := by
  unfold scM
  rw [clR_k _ _ (by omega)]
  unfold uZ
  rw [if_neg (by omega), if_neg (by omega), if_neg (by omega), if_neg (by omega), if_neg (by omega), if_neg (by omega), if_neg (by omega)]
theorem scM_tp (M : Int → Int) (f0 f1 f2 f3 j : Int) (h0 : 0 ≤ j) (h1 : j < 3) : uZ (uZ (uZ (sl M 2) 0 f1) 1 f2) 2 f3 j = sl (scM M f0 f1 f2 f3) 2 j := by
  rcases (show j = 0 ∨ j = 1 ∨ j = 2 by omega) with rfl | rfl | rfl <;> rfl
theorem uZ_k (M : Int → Int) (i x j : Int) (h : j ≠ i) : uZ M i x j = M j := if_neg h
theorem uZ_sl (M : Int → Int) (a k x j : Int) : uZ (sl M a) k x j = sl (uZ M (a + k) x) a j := by
  show (if j = k then x else M (a + j)) = if a + j = a + k then x else M (a + j)
  by_cases e : j = k
  · rw [if_pos e, if_pos (by omega)]
  · rw [if_neg e, if_neg (by omega)]
