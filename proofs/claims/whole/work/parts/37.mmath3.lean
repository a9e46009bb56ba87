/-! a step of the reference -/
def nmM (M hd : Int → Int) (t : Int) : Int := nmF (M 1) (sl M 2) (sl M 572) hd 0 (M 0) t
def frF (M hd : Int → Int) (t : Int) : Int := if nmM M hd t = -1 then -1 else 2 * t % p2 (M 0) + uB (M 1) (sl M 2) (sl M 572) hd 0 (M 0) t
def wcF (M hd : Int → Int) (t z : Int) : Int := if frF M hd t < 0 then 0 else M (684 + 3 * frF M hd t + z)
def wkF (M hd : Int → Int) (t z : Int) : Int := if z = M 9 / 30 ∧ 0 ≤ frF M hd t then wcF M hd t z + t / p2 (M 0 - 1) * p2 (M 9 % 30) else wcF M hd t z
def cl30 (z : Int) : Int := if z < 0 then 0 else if 30 < z then 30 else z
/-- the words of walks hold nothing behind the steps that were taken -/
def wdOk (M : Int → Int) : Prop := ∀ t z : Int, 0 ≤ t → t < 32 → 0 ≤ z → z < 3 → 0 ≤ M (684 + 3 * t + z) ∧ M (684 + 3 * t + z) < p2 (cl30 (M 9 - 30 * z))
theorem cl30_le (z : Int) : 0 ≤ cl30 z ∧ cl30 z ≤ 30 := by unfold cl30; split <;> (try split) <;> omega
theorem p2_30 {k : Int} (h0 : 0 ≤ k) (h : k ≤ 30) : p2 k ≤ 1073741824 := by
  have h1 := p2_mono h0 h
  have h2 : p2 30 = 1073741824 := by decide +kernel
  omega
theorem wdOk_lt {M : Int → Int} (h : wdOk M) : ∀ t z : Int, 0 ≤ t → t < 32 → 0 ≤ z → z < 3 → 0 ≤ M (684 + 3 * t + z) ∧ M (684 + 3 * t + z) < 1073741824 := by
  intro t z t0 t1 z0 z1
  have h1 := h t z t0 t1 z0 z1
  have h2 := cl30_le (M 9 - 30 * z)
  have h3 := p2_30 h2.1 h2.2
  omega
theorem frF_or (M hd : Int → Int) (t : Int) : (nmM M hd t = -1 ∧ frF M hd t = -1) ∨ (nmM M hd t ≠ -1 ∧ frF M hd t = 2 * t % p2 (M 0) + uB (M 1) (sl M 2) (sl M 572) hd 0 (M 0) t) := by
  unfold frF
  by_cases h : nmM M hd t = -1
  · exact Or.inl ⟨h, if_pos h⟩
  · exact Or.inr ⟨h, if_neg h⟩
theorem frF_le {M hd : Int → Int} {t : Int} (h1 : 1 ≤ M 0) (h2 : M 0 ≤ 5) : -1 ≤ frF M hd t ∧ frF M hd t < p2 (M 0) ∧ frF M hd t < 32 := by
  have hl := lo_le (t := t) h1 h2
  have hu := uB_le (M 1) (sl M 2) (sl M 572) hd 0 (M 0) t
  have hp := p2_all h1 h2
  have h := frF_or M hd t
  omega
theorem wcF_or (M hd : Int → Int) (t z : Int) : (frF M hd t < 0 ∧ wcF M hd t z = 0) ∨ (0 ≤ frF M hd t ∧ wcF M hd t z = M (684 + 3 * frF M hd t + z)) := by
  unfold wcF
  by_cases h : frF M hd t < 0
  · exact Or.inl ⟨h, if_pos h⟩
  · exact Or.inr ⟨by omega, if_neg h⟩
theorem lo_mod {mm t : Int} (h1 : 1 ≤ mm) (h2 : mm ≤ 5) : 2 * (t % p2 (mm - 1)) = 2 * t % p2 mm := by
  have hp := p2_all h1 h2
  rw [hp.2.2.1, Int.mul_emod_mul_of_pos _ _ (by omega)]
theorem wrS_put (f : Int → Int) (a n i x : Int) (v v2 : Int → Int) (h0 : 0 ≤ i) (h1 : i < n) (hx : x = v2 i) (hv : ∀ z, z ≠ i → v2 z = v z) : uZ (wrS f a n v) (a + i) x = wrS f a n v2 := by
  funext k
  unfold uZ wrS
  by_cases e : k = a + i
  · rw [if_pos e, if_pos (by omega), show k - a = i by omega, hx]
  · rw [if_neg e]
    by_cases e2 : a ≤ k ∧ k < a + n
    · rw [if_pos e2, if_pos e2, hv _ (by omega)]
    · rw [if_neg e2, if_neg e2]
def wkA (M hd : Int → Int) (j : Int) : Int := wkF M hd (j / 3) (j % 3)
theorem wkA_step (f : Int → Int) (M hd : Int → Int) (k : Int) (hk : 0 ≤ k) : wrS (cpZ (wkA M hd) f (3 * k)) (3 * k) 3 (wkF M hd k) = cpZ (wkA M hd) f (3 * (k + 1)) := by
  funext j
  unfold wrS cpZ
  by_cases e : 3 * k ≤ j ∧ j < 3 * k + 3
  · rw [if_pos e, if_pos (by omega)]
    unfold wkA
    rw [show j / 3 = k by omega, show j % 3 = j - 3 * k by omega]
  · rw [if_neg e]
    by_cases e2 : 0 ≤ j ∧ j < 3 * k
    · rw [if_pos e2, if_pos (by omega)]
    · rw [if_neg e2, if_neg (by omega)]
def goM0 (M hd : Int → Int) : Int → Int := wrS (wrS M 572 (p2 (M 0)) (nmM M hd)) 684 (3 * p2 (M 0)) (wkA M hd)
def goM1 (M hd : Int → Int) : Int → Int := uZ (goM0 M hd) 9 (M 9 + 1)
def rlsM (M : Int → Int) (b z : Int) : Int → Int := fun j => if 604 + M 10 ≤ j ∧ j < 604 + z then wkB M b (j - 604) else if j = 10 then z else M j
theorem rlsM_0 (M : Int → Int) (b : Int) : rlsM M b (M 10) = M := by
  funext j
  unfold rlsM
  rw [if_neg (by omega)]
  by_cases e : j = 10
  · rw [if_pos e, e]
  · rw [if_neg e]
theorem rlsM_k (M : Int → Int) (b z j : Int) (h : j < 604 ∨ 684 ≤ j) (h2 : j ≠ 10) (h3 : 0 ≤ M 10) (h4 : z ≤ 80) : rlsM M b z j = M j := by
  unfold rlsM
  rw [if_neg (by omega), if_neg h2]
theorem rlsM_10 (M : Int → Int) (b z : Int) (h3 : 0 ≤ M 10) : rlsM M b z 10 = z := by
  unfold rlsM
  rw [if_neg (by omega), if_pos rfl]
theorem rlsM_step (M : Int → Int) (b z : Int) (h0 : 0 ≤ M 10) (h1 : M 10 ≤ z) (h2 : z < 80) (hb : 0 ≤ b) : rl1 (rlsM M b z) b = rlsM M b (z + 1) := by
  have e10 := rlsM_10 M b z h0
  have ew : wkB (rlsM M b z) b z = wkB M b z := by
    unfold wkB
    rw [rlsM_k M b z _ (Or.inr (by omega)) (by omega) h0 (by omega)]
  unfold rl1
  rw [e10, ew]
  funext j
  unfold uZ rlsM
  by_cases e1 : j = 10
  · rw [if_pos e1, if_neg (by omega), if_pos e1]
  · rw [if_neg e1, if_neg e1, if_neg e1]
    by_cases e2 : j = 604 + z
    · rw [if_pos e2, if_pos (by omega), show j - 604 = z by omega]
    · rw [if_neg e2]
      by_cases e3 : 604 + M 10 ≤ j ∧ j < 604 + z
      · rw [if_pos e3, if_pos (by omega)]
      · rw [if_neg e3, if_neg (by omega)]
def bsM (M hd : Int → Int) : Int := bst (sl (goM1 M hd) 572) (p2 (M 0)).toNat
def goM (M hd : Int → Int) : Int → Int := rlsM (goM1 M hd) (bsM M hd) (nN (M 5) (M 9) (M 10))
theorem goM1_low (M hd : Int → Int) (j : Int) (h : j < 572) : goM1 M hd j = if j = 9 then M 9 + 1 else M j := by
  unfold goM1 goM0 uZ wrS
  rw [if_neg (show ¬ (684 ≤ j ∧ j < 684 + 3 * p2 (M 0)) by omega), if_neg (show ¬ (572 ≤ j ∧ j < 572 + p2 (M 0)) by omega)]
theorem goM1_met (M hd : Int → Int) (k : Int) (h1 : 1 ≤ M 0) (h2 : M 0 ≤ 5) (h0 : 0 ≤ k) (h3 : k < 32) : sl (goM1 M hd) 572 k = mF (M 1) (sl M 2) (sl M 572) hd 0 (M 0) k := by
  have hp := p2_all h1 h2
  unfold sl goM1 goM0 uZ wrS mF cpZ
  rw [if_neg (show ¬ 572 + k = 9 by omega), if_neg (show ¬ (684 ≤ 572 + k ∧ 572 + k < 684 + 3 * p2 (M 0)) by omega)]
  by_cases e : k < p2 (M 0)
  · rw [if_pos (show 572 ≤ 572 + k ∧ 572 + k < 572 + p2 (M 0) by omega), if_pos (show 0 ≤ k ∧ k < p2 (M 0) by omega), show 572 + k - 572 = k by omega]
    rfl
  · rw [if_neg (show ¬ (572 ≤ 572 + k ∧ 572 + k < 572 + p2 (M 0)) by omega), if_neg (show ¬ (0 ≤ k ∧ k < p2 (M 0)) by omega)]
theorem goM1_rel (M hd : Int → Int) (j : Int) (h1 : 1 ≤ M 0) (h2 : M 0 ≤ 5) (h0 : 604 ≤ j) (h3 : j < 684) : goM1 M hd j = M j := by
  have hp := p2_all h1 h2
  unfold goM1 goM0 uZ wrS
  rw [if_neg (by omega), if_neg (by omega), if_neg (by omega)]
theorem goM1_wk (M hd : Int → Int) (t z : Int) (h1 : 1 ≤ M 0) (h2 : M 0 ≤ 5) (t0 : 0 ≤ t) (t1 : t < 32) (z0 : 0 ≤ z) (z1 : z < 3) : goM1 M hd (684 + 3 * t + z) = if t < p2 (M 0) then wkF M hd t z else M (684 + 3 * t + z) := by
  have hp := p2_all h1 h2
  unfold goM1 goM0 uZ wrS
  rw [if_neg (show ¬ 684 + 3 * t + z = 9 by omega)]
  by_cases e : t < p2 (M 0)
  · rw [if_pos (show 684 ≤ 684 + 3 * t + z ∧ 684 + 3 * t + z < 684 + 3 * p2 (M 0) by omega), if_pos e]
    unfold wkA
    rw [show (684 + 3 * t + z - 684) / 3 = t by omega, show (684 + 3 * t + z - 684) % 3 = z by omega]
  · rw [if_neg (show ¬ (684 ≤ 684 + 3 * t + z ∧ 684 + 3 * t + z < 684 + 3 * p2 (M 0)) by omega), if_neg e, if_neg (show ¬ (572 ≤ 684 + 3 * t + z ∧ 684 + 3 * t + z < 572 + p2 (M 0)) by omega)]
theorem wkF_le {M hd : Int → Int} {t z : Int} (h1 : 1 ≤ M 0) (h2 : M 0 ≤ 5) (hw : wdOk M) (h9 : 0 ≤ M 9 ∧ M 9 < 80) (t0 : 0 ≤ t) (t1 : t < p2 (M 0)) (z0 : 0 ≤ z) (z1 : z < 3) : 0 ≤ wkF M hd t z ∧ wkF M hd t z < p2 (cl30 (M 9 + 1 - 30 * z)) := by
  have hf := frF_le (hd := hd) (t := t) h1 h2
  have hc := wcF_or M hd t z
  have hb := bi_le h1 h2 t0 t1
  have c1 : cl30 (M 9 - 30 * z) ≤ cl30 (M 9 + 1 - 30 * z) := by unfold cl30; (repeat' split) <;> omega
  have c0 := cl30_le (M 9 - 30 * z)
  have hpm := p2_mono c0.1 c1
  have hpp := p2_pos (cl30 (M 9 - 30 * z))
  unfold wkF
  split
  · rename_i h
    have hw1 := hw (frF M hd t) z h.2 (by omega) z0 z1
    have e1 : cl30 (M 9 - 30 * z) = M 9 % 30 := by unfold cl30; (repeat' split) <;> omega
    have e2 : cl30 (M 9 + 1 - 30 * z) = M 9 % 30 + 1 := by unfold cl30; (repeat' split) <;> omega
    have e3 := p2_s (M 9 % 30) (by omega)
    rw [e1] at hw1
    rw [e2, e3]
    rcases (show t / p2 (M 0 - 1) = 0 ∨ t / p2 (M 0 - 1) = 1 by omega) with e | e <;> rw [e] <;> omega
  · rcases hc with ⟨-, e⟩ | ⟨h, e⟩
    · omega
    · have hw1 := hw (frF M hd t) z h (by omega) z0 z1
      omega
theorem goM1_wd {M hd : Int → Int} (h1 : 1 ≤ M 0) (h2 : M 0 ≤ 5) (hw : wdOk M) (h9 : 0 ≤ M 9 ∧ M 9 < 80) : wdOk (goM1 M hd) := by
  intro t z t0 t1 z0 z1
  rw [goM1_wk M hd t z h1 h2 t0 t1 z0 z1, goM1_low M hd 9 (by omega), if_pos rfl]
  by_cases e : t < p2 (M 0)
  · rw [if_pos e]
    exact wkF_le h1 h2 hw h9 t0 e z0 z1
  · rw [if_neg e]
    have h := hw t z t0 t1 z0 z1
    have c1 : cl30 (M 9 - 30 * z) ≤ cl30 (M 9 + 1 - 30 * z) := by unfold cl30; (repeat' split) <;> omega
    have hpm := p2_mono (cl30_le (M 9 - 30 * z)).1 c1
    omega
theorem iI_orW {a b k : Int} (a0 : 0 ≤ a) (a1 : a < p2 k) (k0 : 0 ≤ k) (k1 : k < 31) (hb : b = 0 ∨ b = 1) : iI a ||| iI (b * p2 k) = iI (a + b * p2 k) := by
  rcases hb with rfl | rfl
  · rw [Int.zero_mul, Int.add_zero]
    have h0 : iI 0 = 0 := rfl
    rw [h0]
    simp
  · rw [Int.one_mul]
    exact iI_orb a0 a1 k0
theorem lay_or {M hd : Int → Int} {t y : Int} (hm : 1 ≤ M 0 ∧ M 0 ≤ 5) (hw : wdOk M) (h9 : 0 ≤ M 9 ∧ M 9 < 80) (htt : 0 ≤ t ∧ t < p2 (M 0)) (h : (frF M hd t < 0 ∧ y = 0) ∨ (0 ≤ frF M hd t ∧ y = t / p2 (M 0 - 1) * p2 (M 9 % 30))) : iI (wcF M hd t (M 9 / 30)) ||| iI y = iI (wkF M hd t (M 9 / 30)) := by
  have hf := frF_le (hd := hd) (t := t) hm.1 hm.2
  have hc := wcF_or M hd t (M 9 / 30)
  have hb := bi_le hm.1 hm.2 htt.1 htt.2
  rcases h with ⟨h1, rfl⟩ | ⟨h1, rfl⟩
  · have e1 : wcF M hd t (M 9 / 30) = 0 := by omega
    have e2 : wkF M hd t (M 9 / 30) = 0 := by
      unfold wkF
      rw [if_neg (fun q => by omega), e1]
    rw [e1, e2]
    decide +kernel
  · have e2 : wkF M hd t (M 9 / 30) = wcF M hd t (M 9 / 30) + t / p2 (M 0 - 1) * p2 (M 9 % 30) := by
      unfold wkF
      rw [if_pos ⟨rfl, h1⟩]
    have hw1 := hw (frF M hd t) (M 9 / 30) h1 (by omega) (by omega) (by omega)
    have e1 : cl30 (M 9 - 30 * (M 9 / 30)) = M 9 % 30 := by unfold cl30; (repeat' split) <;> omega
    rw [e1] at hw1
    rw [e2]
    exact iI_orW (by omega) (by omega) (by omega) (by omega) (by omega)
theorem wkF_ne {M hd : Int → Int} {t z : Int} (h : z ≠ M 9 / 30) : wkF M hd t z = wcF M hd t z := by
  unfold wkF
  rw [if_neg (fun q => h q.1)]
theorem bst_cong {f g : Int → Int} : ∀ {n : Nat}, (∀ k : Int, 0 ≤ k → k < n → f k = g k) → bst f n = bst g n
  | 0, _ => rfl
  | n + 1, h => by
    have ih := bst_cong (n := n) (fun k h0 h1 => h k h0 (by omega))
    have hb := bst_le g n
    rw [bst, bst, ih, h n (by omega) (by omega)]
    by_cases e : bst g n < 0
    · have e1 : (bst g n < 0 ∨ g (n : Int) < f (bst g n)) ↔ (bst g n < 0 ∨ g (n : Int) < g (bst g n)) := ⟨fun _ => Or.inl e, fun _ => Or.inl e⟩
      simp only [e1]
    · rw [h (bst g n) (by omega) (by omega)]
