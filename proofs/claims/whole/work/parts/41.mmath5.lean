/-! steps one after another -/
theorem mo_cong {oo : Int} {tp fm f g : Int → Int} {q y mm x b : Int} (h : ∀ k : Int, 0 ≤ k → k < oo → f (q + k) = g (y + k)) : mo oo tp fm f q mm x b = mo oo tp fm g y mm x b := by
  unfold mo
  rw [sm_cong (f := pr1 tp f q (wn mm x b)) (g := pr1 tp g y (wn mm x b)) (n := oo.toNat) (fun k k0 k1 => by unfold pr1; rw [h k k0 (by omega)])]
theorem nmF_cong {oo : Int} {tp fm f g : Int → Int} {q y mm t : Int} (h : ∀ k : Int, 0 ≤ k → k < oo → f (q + k) = g (y + k)) : nmF oo tp fm f q mm t = nmF oo tp fm g y mm t ∧ uB oo tp fm f q mm t = uB oo tp fm g y mm t := by
  have e1 : vL oo tp fm f q mm t = vL oo tp fm g y mm t := mo_cong h
  have e2 : vU oo tp fm f q mm t = vU oo tp fm g y mm t := mo_cong h
  unfold nmF uB
  rw [e1, e2]
  exact ⟨rfl, rfl⟩
theorem goM_cong {M hd h2 : Int → Int} (h : ∀ k : Int, 0 ≤ k → k < M 1 → hd k = h2 k) : goM M hd = goM M h2 := by
  have hh : ∀ k : Int, 0 ≤ k → k < M 1 → hd (0 + k) = h2 (0 + k) := fun k k0 k1 => by rw [Int.zero_add]; exact h k k0 k1
  have e1 : nmM M hd = nmM M h2 := funext fun t => (nmF_cong hh).1
  have e2 : ∀ t, uB (M 1) (sl M 2) (sl M 572) hd 0 (M 0) t = uB (M 1) (sl M 2) (sl M 572) h2 0 (M 0) t := fun t => (nmF_cong hh).2
  have e3 : ∀ t, frF M hd t = frF M h2 t := fun t => by unfold frF; rw [e1, e2]
  have e4 : ∀ t z, wkF M hd t z = wkF M h2 t z := fun t z => by unfold wkF wcF; rw [e3]
  have e5 : wkA M hd = wkA M h2 := funext fun j => e4 _ _
  have e6 : goM1 M hd = goM1 M h2 := by unfold goM1 goM0; rw [e1, e5]
  unfold goM bsM
  rw [e6]
theorem goM_low {M hd : Int → Int} (h : rdOk M) (hs : M 9 < 80) {j : Int} (h1 : j < 572) (h9 : j ≠ 9) (h10 : j ≠ 10) : goM M hd j = M j := by
  rw [goM_k M hd j h hs (by omega) h10, goM1_low M hd j h1, if_neg h9]
def hrd (M : Int → Int) : Int → Int := fun i => M (92 + M 8 + i)
def tkS (M : Int → Int) : Int → Int := goM (uZ M 8 (M 8 + M 1)) (hrd M)
def tkN (M : Int → Int) : Nat → (Int → Int)
  | 0 => M
  | n + 1 => tkS (tkN M n)
theorem tkN_at (M : Int → Int) {i : Int} (h : 0 ≤ i) : tkN M (i + 1).toNat = tkS (tkN M i.toNat) := by
  rw [show (i + 1).toNat = i.toNat + 1 by omega, tkN]
theorem tkS_ok {M : Int → Int} (h : rdOk M) (hs : M 9 < 80) : rdOk (tkS M) ∧ (tkS M) 9 = M 9 + 1 ∧ (tkS M) 8 = M 8 + M 1 ∧ ∀ j : Int, j < 572 → j ≠ 8 → j ≠ 9 → j ≠ 10 → tkS M j = M j := by
  have h8 := rdOk_8 (M 8 + M 1) h
  have hg := rdOk_go (hd := hrd M) h8 hs
  refine ⟨hg.1, hg.2.1, hg.2.2.1, fun j j1 j8 j9 j10 => ?_⟩
  have q := goM_low (hd := hrd M) h8 hs j1 j9 j10
  rw [uZ_k M 8 (M 8 + M 1) j j8] at q
  exact q
theorem tkN_ok {M : Int → Int} (h : rdOk M) : ∀ n : Nat, M 9 + n ≤ 80 → rdOk (tkN M n) ∧ (tkN M n) 9 = M 9 + n ∧ (tkN M n) 8 = M 8 + n * M 1 ∧ ∀ j : Int, j < 572 → j ≠ 8 → j ≠ 9 → j ≠ 10 → tkN M n j = M j
  | 0, _ => ⟨h, by simp [tkN], by simp [tkN], fun _ _ _ _ _ => rfl⟩
  | n + 1, hn => by
    have ih := tkN_ok h n (by omega)
    have hk := tkS_ok ih.1 (by omega)
    have e1 := ih.2.2.2 1 (by omega) (by omega) (by omega) (by omega)
    rw [tkN]
    refine ⟨hk.1, by rw [hk.2.1, ih.2.1]; omega, ?_, fun j j1 j8 j9 j10 => by rw [hk.2.2.2 j j1 j8 j9 j10, ih.2.2.2 j j1 j8 j9 j10]⟩
    rw [hk.2.2.1, ih.2.2.1, e1, show ((n + 1 : Nat) : Int) = (n : Int) + 1 by omega, Int.add_mul, Int.one_mul, Int.add_assoc]
def hv (x : Int) : Int := if x = 63 then 2 else x - 48
def hrN (M g : Int → Int) : Nat → (Int → Int)
  | 0 => M
  | n + 1 => goM (hrN M g n) (fun i => g ((n : Int) * M 1 + i))
theorem hrN_at (M g : Int → Int) {i : Int} (h : 0 ≤ i) : hrN M g (i + 1).toNat = goM (hrN M g i.toNat) (fun z => g (i * M 1 + z)) := by
  rw [show (i + 1).toNat = i.toNat + 1 by omega, hrN, Int.toNat_of_nonneg h]
theorem hrN_ok {M g : Int → Int} (h : rdOk M) : ∀ n : Nat, M 9 + n ≤ 80 → rdOk (hrN M g n) ∧ (hrN M g n) 9 = M 9 + n ∧ ∀ j : Int, j < 572 → j ≠ 9 → j ≠ 10 → hrN M g n j = M j
  | 0, _ => ⟨h, by simp [hrN], fun _ _ _ _ => rfl⟩
  | n + 1, hn => by
    have ih := hrN_ok (g := g) h n (by omega)
    have hg := rdOk_go (hd := fun i => g ((n : Int) * M 1 + i)) ih.1 (by omega)
    rw [hrN]
    refine ⟨hg.1, by rw [hg.2.1, ih.2.1]; omega, fun j j1 j9 j10 => ?_⟩
    rw [goM_low ih.1 (by omega) j1 j9 j10, ih.2.2 j j1 j9 j10]
theorem hrN_cong {M g g2 : Int → Int} (h : rdOk M) : ∀ {n : Nat}, M 9 + n ≤ 80 → (∀ k : Int, 0 ≤ k → k < n * M 1 → g k = g2 k) → hrN M g n = hrN M g2 n
  | 0, _, _ => rfl
  | n + 1, hn, hg => by
    have e0 : ((n + 1 : Nat) : Int) * M 1 = n * M 1 + M 1 := by rw [show ((n + 1 : Nat) : Int) = (n : Int) + 1 by omega, Int.add_mul, Int.one_mul]
    rw [e0] at hg
    have hm1 : 2 ≤ M 1 := h.2.1.1
    have hnn : 0 ≤ (n : Int) * M 1 := Int.mul_nonneg (by omega) (by omega)
    rw [hrN, hrN, hrN_cong h (n := n) (by omega) (fun k k0 k1 => hg k k0 (by omega))]
    have e1 := (hrN_ok (g := g2) h n (by omega)).2.2 1 (by omega) (by omega) (by omega)
    exact goM_cong (fun k k0 k1 => hg _ (by omega) (by omega))
def fnb (M : Int → Int) (x : Int) : Int := if x = 1 then 0 else bst (sl M 572) (p2 (M 0)).toNat
def fnM (M : Int → Int) (x : Int) : Int → Int := uZ (rlsM M (fnb M x) (M 9)) 11 1
theorem nO_le {n o : Int} (h0 : 0 ≤ n) (ho : 2 ≤ o ∧ o ≤ 3) (h1 : n ≤ 80) : 0 ≤ n * o ∧ n * o ≤ 240 := by
  rcases (show o = 2 ∨ o = 3 by omega) with h | h <;> rw [h] <;> omega
theorem kO_le {k n o : Int} (h : k < n) (ho : 2 ≤ o ∧ o ≤ 3) : k * o + o ≤ n * o := by
  rcases (show o = 2 ∨ o = 3 by omega) with e | e <;> rw [e] <;> omega
theorem wrS_in (M f : Int → Int) {q n : Int} (q0 : 0 ≤ q) (q1 : q < n) : wrS f 0 n (hrd M) q = hrd M q := by
  unfold wrS
  rw [if_pos (by omega), Int.sub_zero]
theorem take_hd {M Mv h5 : Int → Int} {k y : Int} (hrk : rdOk M) (hvo : rdOk Mv ∧ Mv 9 = M 9 + k ∧ Mv 8 = M 8 + k * M 1 ∧ ∀ j : Int, j < 572 → j ≠ 8 → j ≠ 9 → j ≠ 10 → Mv j = M j) (hh : hdOk h5) (hv1 : Mv 1 = M 1) (hv8 : Mv 8 = M 8 + k * M 1) (hli : ∀ j : Int, 0 ≤ j → j < 240 → 0 ≤ M (92 + j) ∧ M (92 + j) ≤ 2) (h8 : 0 ≤ M 8) (hkp : 0 ≤ k * M 1) (hy : y ≤ M 1) (hq : M 8 + k * M 1 + M 1 ≤ 240) : hdOk (wrS h5 0 y (hrd Mv)) := by
  intro q q0 q1
  unfold wrS
  by_cases e : 0 ≤ q ∧ q < 0 + y
  · rw [if_pos e, Int.sub_zero]
    have q2 := hli (M 8 + k * M 1 + q) (by omega) (by omega)
    have q3 : hrd Mv q = M (92 + (M 8 + k * M 1 + q)) := by
      unfold hrd
      rw [hvo.2.2.2 (92 + Mv 8 + q) (by omega) (by omega) (by omega) (by omega), hv8]
      congr 1
      omega
    rw [q3]
    omega
  · rw [if_neg e]
    exact hh q q0 q1
