/-! a reader's state, and the two ways to keep its walks -/
def hdOk (hd : Int → Int) : Prop := ∀ k : Int, 0 ≤ k → k < 3 → 0 ≤ hd k ∧ hd k ≤ 3
def rdOk (M : Int → Int) : Prop := (1 ≤ M 0 ∧ M 0 ≤ 5) ∧ (2 ≤ M 1 ∧ M 1 ≤ 3) ∧ tpOk (sl M 2) ∧ (2 ≤ M 5 ∧ M 5 ≤ 40) ∧ (0 ≤ M 9 ∧ M 9 ≤ 80) ∧ (0 ≤ M 10 ∧ M 10 ≤ M 9) ∧ mtOk (sl M 572) (M 9) ∧ wdOk M ∧ 0 ≤ bst (sl M 572) (p2 (M 0)).toNat
def wkRel (M fu : Int → Int) : Prop := ∀ t : Int, 0 ≤ t → t < p2 (M 0) → 0 ≤ M (572 + t) → ∀ z : Int, 0 ≤ z → z < M 9 → wkB M t z = sb (M 0) fu (M 9) t z
theorem bst_pos {f : Int → Int} {n : Nat} {t : Int} (t0 : 0 ≤ t) (t1 : t < n) (h : 0 ≤ f t) : 0 ≤ bst f n := by
  have hb := bst_le f n
  by_cases e : bst f n < 0
  · have := hb.2.2.2 e t t0 t1
    omega
  · omega
theorem nmM_src {M hd : Int → Int} {t : Int} (h : rdOk M) (hn : 0 ≤ nmM M hd t) : 0 ≤ frF M hd t ∧ frF M hd t < p2 (M 0) ∧ 0 ≤ M (572 + frF M hd t) := by
  obtain ⟨hm, ho, -, -, h9, -, hme, -, -⟩ := h
  have hp := p2_all hm.1 hm.2
  have hlo := lo_le (t := t) hm.1 hm.2
  have hub := uB_or (M 1) (sl M 2) (sl M 572) hd 0 (M 0) t
  have hfr := frF_or M hd t
  have enm : nmM M hd t = nmF (M 1) (sl M 2) (sl M 572) hd 0 (M 0) t := rfl
  rw [← enm] at hub
  have key : ∀ x b : Int, 0 ≤ x → x < 32 → mo (M 1) (sl M 2) (sl M 572) hd 0 (M 0) x b ≠ -1 → 0 ≤ M (572 + x) := by
    intro x b x0 x1 hx
    have hmx := hme x x0 x1
    have e9 : sl M 572 x = M (572 + x) := rfl
    unfold mo at hx
    by_cases e : sl M 572 x = -1
    · rw [if_pos e] at hx
      omega
    · omega
  have kL : vL (M 1) (sl M 2) (sl M 572) hd 0 (M 0) t ≠ -1 → 0 ≤ M (572 + 2 * t % p2 (M 0)) := key (2 * t % p2 (M 0)) _ (by omega) (by omega)
  have kU : vU (M 1) (sl M 2) (sl M 572) hd 0 (M 0) t ≠ -1 → 0 ≤ M (572 + (2 * t % p2 (M 0) + 1)) := key (2 * t % p2 (M 0) + 1) _ (by omega) (by omega)
  rcases hub with ⟨u1, u2, u3, -⟩ | ⟨u1, u2, u3⟩
  · have e : frF M hd t = 2 * t % p2 (M 0) + 1 := by omega
    rw [e]
    exact ⟨by omega, by omega, kU u3⟩
  · have e : frF M hd t = 2 * t % p2 (M 0) := by omega
    rw [e]
    exact ⟨by omega, by omega, kL (by omega)⟩
theorem nmM_any {M : Int → Int} (hd : Int → Int) (h : rdOk M) : ∃ t : Int, 0 ≤ t ∧ t < p2 (M 0) ∧ 0 ≤ nmM M hd t := by
  obtain ⟨hm, ho, -, -, h9, -, hme, -, hb⟩ := h
  have hp := p2_all hm.1 hm.2
  have hbl := bst_le (sl M 572) (p2 (M 0)).toNat
  have hbp := hbl.2.2.1 hb
  generalize bst (sl M 572) (p2 (M 0)).toNat = x at hb hbl hbp
  have hlo : 2 * (x / 2) % p2 (M 0) = 2 * (x / 2) := Int.emod_eq_of_lt (by omega) (by omega)
  have hub := uB_or (M 1) (sl M 2) (sl M 572) hd 0 (M 0) (x / 2)
  have enm : nmM M hd (x / 2) = nmF (M 1) (sl M 2) (sl M 572) hd 0 (M 0) (x / 2) := rfl
  rw [← enm] at hub
  have aL := mo_le (tp := sl M 2) (f := hd) (q := 0) (mm := M 0) (b := x / 2 / p2 (M 0 - 1)) ho hme (x := 2 * (x / 2)) (by omega) (by omega)
  have aU := mo_le (tp := sl M 2) (f := hd) (q := 0) (mm := M 0) (b := x / 2 / p2 (M 0 - 1)) ho hme (x := 2 * (x / 2) + 1) (by omega) (by omega)
  have eL : vL (M 1) (sl M 2) (sl M 572) hd 0 (M 0) (x / 2) = mo (M 1) (sl M 2) (sl M 572) hd 0 (M 0) (2 * (x / 2)) (x / 2 / p2 (M 0 - 1)) := by unfold vL; rw [hlo]
  have eU : vU (M 1) (sl M 2) (sl M 572) hd 0 (M 0) (x / 2) = mo (M 1) (sl M 2) (sl M 572) hd 0 (M 0) (2 * (x / 2) + 1) (x / 2 / p2 (M 0 - 1)) := by unfold vU; rw [hlo]
  have key : ∀ b : Int, mo (M 1) (sl M 2) (sl M 572) hd 0 (M 0) x b ≠ -1 := by
    intro b
    have hs := prS_le (sl M 2) hd 0 (wn (M 0) x b) (M 1) ho
    unfold mo
    rw [if_neg (by omega)]
    omega
  have kk := key (x / 2 / p2 (M 0 - 1))
  refine ⟨x / 2, by omega, by omega, ?_⟩
  rcases (show x = 2 * (x / 2) ∨ x = 2 * (x / 2) + 1 by omega) with e | e
  · have e2 : mo (M 1) (sl M 2) (sl M 572) hd 0 (M 0) (2 * (x / 2)) (x / 2 / p2 (M 0 - 1)) = mo (M 1) (sl M 2) (sl M 572) hd 0 (M 0) x (x / 2 / p2 (M 0 - 1)) := by rw [← e]
    omega
  · have e2 : mo (M 1) (sl M 2) (sl M 572) hd 0 (M 0) (2 * (x / 2) + 1) (x / 2 / p2 (M 0 - 1)) = mo (M 1) (sl M 2) (sl M 572) hd 0 (M 0) x (x / 2 / p2 (M 0 - 1)) := by rw [← e]
    omega
theorem bsM_pos {M : Int → Int} (hd : Int → Int) (h : rdOk M) : 0 ≤ bsM M hd := by
  obtain ⟨t, t0, t1, ht⟩ := nmM_any hd h
  have hm := h.1
  have hp := p2_all hm.1 hm.2
  refine bst_pos t0 (by omega) ?_
  rw [goM1_met M hd t hm.1 hm.2 t0 (by omega)]
  unfold mF cpZ
  rw [if_pos ⟨t0, t1⟩]
  exact ht
theorem goM_k (M hd : Int → Int) (j : Int) (h : rdOk M) (hs : M 9 < 80) (hj : j < 604 ∨ 684 ≤ j) (h10 : j ≠ 10) : goM M hd j = goM1 M hd j := by
  obtain ⟨-, -, -, h5, h9, h10', -, -, -⟩ := h
  have hn := nN_or (M 5) (M 9) (M 10)
  have e10 : goM1 M hd 10 = M 10 := goM1_low M hd 10 (by omega)
  exact rlsM_k _ _ _ j hj h10 (by omega) (by omega)
theorem goM_10 (M hd : Int → Int) (h : rdOk M) : goM M hd 10 = nN (M 5) (M 9) (M 10) := by
  have e10 : goM1 M hd 10 = M 10 := goM1_low M hd 10 (by omega)
  exact rlsM_10 _ _ _ (by have := h.2.2.2.2.2.1; omega)
theorem rdOk_go {M hd : Int → Int} (h : rdOk M) (hs : M 9 < 80) : rdOk (goM M hd) ∧ (goM M hd) 9 = M 9 + 1 ∧ (goM M hd) 8 = M 8 ∧ (goM M hd) 7 = M 7 := by
  have hk := fun j q1 q2 => goM_k M hd j h hs q1 q2
  have h10 := goM_10 M hd h
  have hb := bsM_pos hd h
  obtain ⟨hm, ho, ht, h5, h9, hN, hme, hw, hbs⟩ := h
  have hlow : ∀ j : Int, j < 572 → j ≠ 10 → goM M hd j = if j = 9 then M 9 + 1 else M j := fun j q1 q2 => by rw [hk j (by omega) q2, goM1_low M hd j q1]
  have e0 : goM M hd 0 = M 0 := hlow 0 (by omega) (by omega)
  have e1 : goM M hd 1 = M 1 := hlow 1 (by omega) (by omega)
  have e5 : goM M hd 5 = M 5 := hlow 5 (by omega) (by omega)
  have e7 : goM M hd 7 = M 7 := hlow 7 (by omega) (by omega)
  have e8 : goM M hd 8 = M 8 := hlow 8 (by omega) (by omega)
  have e9 : goM M hd 9 = M 9 + 1 := hlow 9 (by omega) (by omega)
  have hn := nN_or (M 5) (M 9) (M 10)
  refine ⟨⟨by rw [e0]; exact hm, by rw [e1]; exact ho, ?_, by rw [e5]; exact h5, by rw [e9]; omega, by rw [e9, h10]; omega, ?_, ?_, ?_⟩, e9, e8, e7⟩
  · intro k k0 k1
    have q := hlow (2 + k) (by omega) (by omega)
    rw [if_neg (by omega)] at q
    show 0 ≤ goM M hd (2 + k) ∧ goM M hd (2 + k) < 64
    rw [q]
    exact ht k k0 k1
  · intro k k0 k1
    have q := hk (572 + k) (by omega) (by omega)
    have q2 := goM1_met M hd k hm.1 hm.2 k0 k1
    have q3 := mF_ok (tp := sl M 2) (f := hd) (q := 0) hm.1 hm.2 ho hme k k0 k1
    show -1 ≤ goM M hd (572 + k) ∧ goM M hd (572 + k) ≤ 3 * goM M hd 9
    have q4 : sl (goM1 M hd) 572 k = goM1 M hd (572 + k) := rfl
    rw [q, e9]
    omega
  · intro t z t0 t1 z0 z1
    have q := hk (684 + 3 * t + z) (by omega) (by omega)
    have q2 := goM1_wd (hd := hd) hm.1 hm.2 hw ⟨h9.1, hs⟩ t z t0 t1 z0 z1
    have q3 : goM1 M hd 9 = M 9 + 1 := goM1_low M hd 9 (by omega)
    rw [q, e9]
    rw [q3] at q2
    exact q2
  · have hp := p2_all hm.1 hm.2
    rw [e0, bst_cong (f := sl (goM M hd) 572) (g := sl (goM1 M hd) 572) (n := (p2 (M 0)).toNat) (fun k k0 k1 => hk (572 + k) (by omega) (by omega))]
    exact hb
theorem rdOk_8 {M : Int → Int} (x : Int) (h : rdOk M) : rdOk (uZ M 8 x) := by
  obtain ⟨hm, ho, ht, h5, h9, hN, hme, hw, hbs⟩ := h
  refine ⟨hm, ho, ?_, h5, h9, hN, ?_, ?_, ?_⟩
  · intro k k0 k1
    show 0 ≤ uZ M 8 x (2 + k) ∧ uZ M 8 x (2 + k) < 64
    rw [uZ_k M 8 x (2 + k) (by omega)]
    exact ht k k0 k1
  · intro k k0 k1
    show -1 ≤ uZ M 8 x (572 + k) ∧ uZ M 8 x (572 + k) ≤ 3 * M 9
    rw [uZ_k M 8 x (572 + k) (by omega)]
    exact hme k k0 k1
  · intro t z t0 t1 z0 z1
    rw [uZ_k M 8 x (684 + 3 * t + z) (by omega)]
    exact hw t z t0 t1 z0 z1
  · have e : bst (sl (uZ M 8 x) 572) (p2 (M 0)).toNat = bst (sl M 572) (p2 (M 0)).toNat := bst_cong (fun k k0 k1 => uZ_k M 8 x (572 + k) (by omega))
    show 0 ≤ bst (sl (uZ M 8 x) 572) (p2 (M 0)).toNat
    rw [e]
    exact hbs
theorem bk_shift {mm U S t : Int} {fu : Int → Int} : ∀ n : Nat, (n : Int) ≤ S → bk mm (uZ fu S U) (S + 1) t (n + 1) = bk mm fu S (pv mm U t) n
  | 0, _ => by
    show pv mm (uZ fu S U (S + 1 - 1 - ((0 : Nat) : Int))) t = pv mm U t
    rw [show S + 1 - 1 - ((0 : Nat) : Int) = S by omega, uZ_s]
  | n + 1, h => by
    have ih := bk_shift (mm := mm) (U := U) (S := S) (t := t) (fu := fu) n (by omega)
    rw [bk, ih, bk, uZ_n (by omega), show S + 1 - 1 - ((n + 1 : Nat) : Int) = S - 1 - (n : Int) by omega]
theorem bit_lo {w b i n : Int} (i0 : 0 ≤ i) (h : i < n) : (w + b * p2 n) / p2 i % 2 = w / p2 i % 2 := by
  have a1 := p2_add (a := i) (b := n - i) i0 (by omega)
  have a2 := p2_s (n - 1 - i) (by omega)
  have hp := p2_pos i
  rw [show i + (n - i) = n by omega] at a1
  rw [show n - 1 - i + 1 = n - i by omega] at a2
  rw [a1, a2, show b * (p2 i * (2 * p2 (n - 1 - i))) = p2 i * (2 * (b * p2 (n - 1 - i))) by
    rw [Int.mul_left_comm, Int.mul_left_comm b 2], Int.add_mul_ediv_left _ _ (by omega)]
  omega
theorem wkRel_go1 {M hd fu : Int → Int} (h : rdOk M) (hs : M 9 < 80) (hr : wkRel M fu) : wkRel (goM1 M hd) (uZ fu (M 9) (uF (M 1) (sl M 2) (sl M 572) hd 0 (M 0))) := by
  intro t t0 t1 hmt z z0 z1
  have hm := h.1
  have h9 := h.2.2.2.2.1
  have hw := h.2.2.2.2.2.2.2.1
  have hp := p2_all hm.1 hm.2
  have e0 : goM1 M hd 0 = M 0 := goM1_low M hd 0 (by omega)
  have e9 : goM1 M hd 9 = M 9 + 1 := goM1_low M hd 9 (by omega)
  rw [e0] at t1
  rw [e9] at z1
  rw [e0, e9]
  have hmet : goM1 M hd (572 + t) = nmM M hd t := by
    have q := goM1_met M hd t hm.1 hm.2 t0 (by omega)
    unfold mF cpZ at q
    rw [if_pos ⟨t0, t1⟩] at q
    exact q
  rw [hmet] at hmt
  have hsrc := nmM_src (hd := hd) h hmt
  have hfr := frF_or M hd t
  have hub := uB_le (M 1) (sl M 2) (sl M 572) hd 0 (M 0) t
  have hpv : pv (M 0) (uF (M 1) (sl M 2) (sl M 572) hd 0 (M 0)) t = frF M hd t := by
    have q := csum_bit (u := uB (M 1) (sl M 2) (sl M 572) hd 0 (M 0)) (uB_le (M 1) (sl M 2) (sl M 572) hd 0 (M 0)) t0 (p2 (M 0)).toNat (by omega)
    unfold pv uF
    rw [q]
    omega
  have hbi := bi_le hm.1 hm.2 t0 t1
  have hwc : ∀ y : Int, 0 ≤ y → y < 3 → wcF M hd t y = M (684 + 3 * frF M hd t + y) := by
    intro y _ _
    have q := wcF_or M hd t y
    omega
  have hwv : wkB (goM1 M hd) t z = wkF M hd t (z / 30) / p2 (z % 30) % 2 := by
    unfold wkB
    rw [goM1_wk M hd t (z / 30) hm.1 hm.2 t0 (by omega) (by omega) (by omega), if_pos t1]
  rw [hwv]
  by_cases ez : z = M 9
  · have e1 : wkF M hd t (z / 30) = wcF M hd t (z / 30) + t / p2 (M 0 - 1) * p2 (M 9 % 30) := by
      unfold wkF
      rw [if_pos ⟨by rw [ez], hsrc.1⟩]
    have hw1 := hw (frF M hd t) (z / 30) hsrc.1 (by omega) (by omega) (by omega)
    rw [← hwc (z / 30) (by omega) (by omega)] at hw1
    have e2 : cl30 (M 9 - 30 * (z / 30)) = M 9 % 30 := by unfold cl30; (repeat' split) <;> omega
    rw [e2] at hw1
    have hpp := p2_pos (M 9 % 30)
    rw [e1, show z % 30 = M 9 % 30 by rw [ez], Int.add_mul_ediv_right _ _ (by omega), Int.ediv_eq_zero_of_lt hw1.1 hw1.2]
    unfold sb
    rw [show (M 9 + 1 - 1 - z).toNat = 0 by omega, bk]
    omega
  · have hz : z < M 9 := by omega
    have e1 : wkF M hd t (z / 30) / p2 (z % 30) % 2 = wcF M hd t (z / 30) / p2 (z % 30) % 2 := by
      unfold wkF
      by_cases e : z / 30 = M 9 / 30 ∧ 0 ≤ frF M hd t
      · rw [if_pos e, bit_lo (by omega) (by omega)]
      · rw [if_neg e]
    rw [e1, hwc (z / 30) (by omega) (by omega)]
    have hr1 := hr (frF M hd t) hsrc.1 hsrc.2.1 hsrc.2.2 z z0 hz
    have e3 : wkB M (frF M hd t) z = M (684 + 3 * frF M hd t + z / 30) / p2 (z % 30) % 2 := rfl
    rw [← e3, hr1]
    unfold sb
    rw [show (M 9 + 1 - 1 - z).toNat = (M 9 - 1 - z).toNat + 1 by omega, bk_shift _ (by omega), hpv]
theorem wkRel_go {M hd fu : Int → Int} (h : rdOk M) (hs : M 9 < 80) (hr : wkRel M fu) : wkRel (goM M hd) (uZ fu (M 9) (uF (M 1) (sl M 2) (sl M 572) hd 0 (M 0))) := by
  have h1 := wkRel_go1 (hd := hd) h hs hr
  have hk := fun j q1 q2 => goM_k M hd j h hs q1 q2
  have hm := h.1
  have hp := p2_all hm.1 hm.2
  have e0 : goM M hd 0 = goM1 M hd 0 := hk 0 (by omega) (by omega)
  have e9 : goM M hd 9 = goM1 M hd 9 := hk 9 (by omega) (by omega)
  have f0 : goM1 M hd 0 = M 0 := goM1_low M hd 0 (by omega)
  have f9 : goM1 M hd 9 = M 9 + 1 := goM1_low M hd 9 (by omega)
  intro t t0 t1 hmt z z0 z1
  rw [e0] at t1
  rw [e9] at z1
  have t2 := t1
  rw [f0] at t2
  rw [hk (572 + t) (by omega) (by omega)] at hmt
  rw [e0, e9, ← h1 t t0 t1 hmt z z0 z1]
  unfold wkB
  rw [hk (684 + 3 * t + z / 30) (by omega) (by omega)]
theorem goM_rel {M hd fu : Int → Int} (h : rdOk M) (hs : M 9 < 80) (hr : wkRel M fu) {j : Int} (j0 : 0 ≤ j) (j1 : j < 80) : rlF (M 0) (uZ fu (M 9) (uF (M 1) (sl M 2) (sl M 572) hd 0 (M 0))) (M 9 + 1) (bsM M hd) (sl M 604) (M 10) (nN (M 5) (M 9) (M 10)) (M 10 - 1) j = sl (goM M hd) 604 j := by
  have h1 := wkRel_go1 (hd := hd) h hs hr
  have hb := bsM_pos hd h
  have hm := h.1
  have h5 := h.2.2.2.1
  have h9 := h.2.2.2.2.1
  have hN := h.2.2.2.2.2.1
  have hp := p2_all hm.1 hm.2
  have hn := nN_or (M 5) (M 9) (M 10)
  have hbl := bst_le (sl (goM1 M hd) 572) (p2 (M 0)).toNat
  have ebs : bst (sl (goM1 M hd) 572) (p2 (M 0)).toNat = bsM M hd := rfl
  rw [ebs] at hbl
  have e0 : goM1 M hd 0 = M 0 := goM1_low M hd 0 (by omega)
  have e9 : goM1 M hd 9 = M 9 + 1 := goM1_low M hd 9 (by omega)
  have e10 : goM1 M hd 10 = M 10 := goM1_low M hd 10 (by omega)
  have er : goM1 M hd (604 + j) = M (604 + j) := goM1_rel M hd (604 + j) hm.1 hm.2 (by omega) (by omega)
  unfold rlF sl goM rlsM
  rw [e10]
  by_cases e : M 10 ≤ j ∧ j < nN (M 5) (M 9) (M 10)
  · rw [if_pos (by omega), if_pos (show 604 + M 10 ≤ 604 + j ∧ 604 + j < 604 + nN (M 5) (M 9) (M 10) by omega), show 604 + j - 604 = j by omega]
    have q := h1 (bsM M hd) hb (by rw [e0]; omega) (hbl.2.2.1 hb) j (by omega) (by rw [e9]; omega)
    rw [e0, e9] at q
    exact q.symm
  · rw [if_neg (by omega), if_neg (show ¬ (604 + M 10 ≤ 604 + j ∧ 604 + j < 604 + nN (M 5) (M 9) (M 10)) by omega), if_neg (show ¬ 604 + j = 10 by omega), er]
