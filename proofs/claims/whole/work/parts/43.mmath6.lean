/-! the reader's step, told of the reference's row -/
theorem mo_cong3 {oo : Int} {tp tp2 fm fm2 f g : Int → Int} {q y mm x b : Int} (h : ∀ k : Int, 0 ≤ k → k < oo → f (q + k) = g (y + k)) (ht : ∀ k : Int, 0 ≤ k → k < oo → tp k = tp2 k) (hm : fm x = fm2 x) : mo oo tp fm f q mm x b = mo oo tp2 fm2 g y mm x b := by
  unfold mo
  rw [hm, sm_cong (f := pr1 tp f q (wn mm x b)) (g := pr1 tp2 g y (wn mm x b)) (n := oo.toNat) (fun k k0 k1 => by unfold pr1; rw [h k k0 (by omega), ht k k0 (by omega)])]
theorem nmF_cong3 {oo : Int} {tp tp2 fm fm2 f g : Int → Int} {q y mm : Int} (h1 : 1 ≤ mm) (h2 : mm ≤ 5) (h : ∀ k : Int, 0 ≤ k → k < oo → f (q + k) = g (y + k)) (ht : ∀ k : Int, 0 ≤ k → k < oo → tp k = tp2 k) (hm : ∀ k : Int, 0 ≤ k → k < 32 → fm k = fm2 k) (t : Int) : nmF oo tp fm f q mm t = nmF oo tp2 fm2 g y mm t ∧ uB oo tp fm f q mm t = uB oo tp2 fm2 g y mm t := by
  have hl := lo_le (t := t) h1 h2
  have hp := p2_all h1 h2
  have e1 : vL oo tp fm f q mm t = vL oo tp2 fm2 g y mm t := mo_cong3 h ht (hm _ (by omega) (by omega))
  have e2 : vU oo tp fm f q mm t = vU oo tp2 fm2 g y mm t := mo_cong3 h ht (hm _ (by omega) (by omega))
  unfold nmF uB
  rw [e1, e2]
  exact ⟨rfl, rfl⟩
theorem adv_M {M Mx fu f hd : Int → Int} {q : Int} (h : rdOk Mx) (hx : ∀ j : Int, j ≠ 8 → Mx j = M j) (hs : M 9 < 80) (hr : wkRel Mx fu) (hf : ∀ k : Int, 0 ≤ k → k < M 1 → f (q + k) = hd k) :
    (∀ j : Int, 0 ≤ j → j < 32 → mF (M 1) (sl M 2) (sl M 572) f q (M 0) j = sl (goM Mx hd) 572 j) ∧ (∀ j : Int, 0 ≤ j → j < 80 → rlF (M 0) (uZ fu (M 9) (uF (M 1) (sl M 2) (sl M 572) f q (M 0))) (M 9 + 1) (bsc (mF (M 1) (sl M 2) (sl M 572) f q (M 0)) (p2 (M 0)).toNat) (sl M 604) (M 10) (nN (M 5) (M 9) (M 10)) (M 10 - 1) j = sl (goM Mx hd) 604 j) ∧ wkRel (goM Mx hd) (uZ fu (M 9) (uF (M 1) (sl M 2) (sl M 572) f q (M 0))) := by
  have x0 := hx 0 (by omega)
  have x1 := hx 1 (by omega)
  have x5 := hx 5 (by omega)
  have x9 := hx 9 (by omega)
  have x10 := hx 10 (by omega)
  have hm := h.1
  have ho := h.2.1
  have hp := p2_all hm.1 hm.2
  rw [← x0, ← x1, ← x5, ← x9, ← x10]
  have hs2 : Mx 9 < 80 := by omega
  have cc := nmF_cong3 (oo := Mx 1) (tp := sl M 2) (tp2 := sl Mx 2) (fm := sl M 572) (fm2 := sl Mx 572) (f := f) (g := hd) (q := q) (y := 0) hm.1 hm.2 (fun k k0 k1 => by rw [Int.zero_add]; exact hf k k0 (by omega)) (fun k k0 k1 => (hx (2 + k) (by omega)).symm) (fun k k0 k1 => (hx (572 + k) (by omega)).symm)
  have eu : uF (Mx 1) (sl M 2) (sl M 572) f q (Mx 0) = uF (Mx 1) (sl Mx 2) (sl Mx 572) hd 0 (Mx 0) := by
    unfold uF
    rw [show uB (Mx 1) (sl M 2) (sl M 572) f q (Mx 0) = uB (Mx 1) (sl Mx 2) (sl Mx 572) hd 0 (Mx 0) from funext fun t => (cc t).2]
  have em : ∀ j : Int, 0 ≤ j → j < 32 → mF (Mx 1) (sl M 2) (sl M 572) f q (Mx 0) j = sl (goM1 Mx hd) 572 j := by
    intro j j0 j1
    rw [goM1_met Mx hd j hm.1 hm.2 j0 j1]
    unfold mF cpZ
    rw [(cc j).1]
    by_cases e : 0 ≤ j ∧ j < p2 (Mx 0)
    · rw [if_pos e, if_pos e]
    · rw [if_neg e, if_neg e]
      exact (hx (572 + j) (by omega)).symm
  have hk := fun j q1 q2 => goM_k Mx hd j h hs2 q1 q2
  have eb : bsc (mF (Mx 1) (sl M 2) (sl M 572) f q (Mx 0)) (p2 (Mx 0)).toNat = bsM Mx hd := by
    have e1 : bst (mF (Mx 1) (sl M 2) (sl M 572) f q (Mx 0)) (p2 (Mx 0)).toNat = bsM Mx hd := bst_cong (fun k k0 k1 => em k k0 (by omega))
    rw [← bsc_bst (by rw [e1]; exact bsM_pos hd h), e1]
  refine ⟨fun j j0 j1 => ?_, fun j j0 j1 => ?_, ?_⟩
  · rw [em j j0 j1]
    exact (hk (572 + j) (by omega) (by omega)).symm
  · rw [eu, eb]
    have er : rlF (Mx 0) (uZ fu (Mx 9) (uF (Mx 1) (sl Mx 2) (sl Mx 572) hd 0 (Mx 0))) (Mx 9 + 1) (bsM Mx hd) (sl M 604) (Mx 10) (nN (Mx 5) (Mx 9) (Mx 10)) (Mx 10 - 1) j = rlF (Mx 0) (uZ fu (Mx 9) (uF (Mx 1) (sl Mx 2) (sl Mx 572) hd 0 (Mx 0))) (Mx 9 + 1) (bsM Mx hd) (sl Mx 604) (Mx 10) (nN (Mx 5) (Mx 9) (Mx 10)) (Mx 10 - 1) j := by
      unfold rlF
      rw [show sl M 604 j = sl Mx 604 j from (hx (604 + j) (by omega)).symm]
    rw [er]
    exact goM_rel h hs2 hr j0 j1
  · rw [eu]
    exact wkRel_go h hs2 hr
theorem wkRel_8 {M fu : Int → Int} (x : Int) (h : wkRel M fu) : wkRel (uZ M 8 x) fu := by
  intro t t0 t1 hm z z0 z1
  rw [uZ_k M 8 x (572 + t) (by omega)] at hm
  have q := h t t0 t1 hm z z0 z1
  have e0 : uZ M 8 x 0 = M 0 := rfl
  have e9 : uZ M 8 x 9 = M 9 := rfl
  rw [e0, e9, ← q]
  unfold wkB
  rw [uZ_k M 8 x _ (by omega)]
def huOk (fu : Int → Int) : Prop := ∀ k : Int, 0 ≤ k → k < 80 → 0 ≤ fu k ∧ fu k < 4294967296
theorem fnb_or (M : Int → Int) (x : Int) : (x = 1 ∧ fnb M x = 0) ∨ (x ≠ 1 ∧ fnb M x = bst (sl M 572) (p2 (M 0)).toNat) := by
  unfold fnb
  by_cases e : x = 1
  · exact Or.inl ⟨e, if_pos e⟩
  · exact Or.inr ⟨e, if_neg e⟩
theorem fnM_k (M : Int → Int) (x j : Int) (h0 : 0 ≤ M 10) (h9 : M 9 ≤ 80) (h : j < 604 ∨ 684 ≤ j) (h1 : j ≠ 10) (h2 : j ≠ 11) : fnM M x j = M j := by
  unfold fnM
  rw [uZ_k _ _ _ _ h2]
  exact rlsM_k M _ _ j h h1 h0 h9
theorem fnM_rel {M fu : Int → Int} {x b : Int} (h : rdOk M) (hr : wkRel M fu) (hb : b = fnb M x) (hb2 : 0 ≤ M (572 + b)) (hb3 : 0 ≤ b ∧ b < p2 (M 0)) {j : Int} (j0 : 0 ≤ j) (j1 : j < 80) : rlF (M 0) fu (M 9) b (sl M 604) (M 10) (M 9) (M 10 - 1) j = sl (fnM M x) 604 j := by
  have h10 := h.2.2.2.2.2.1
  have h9 := h.2.2.2.2.1
  unfold rlF sl fnM
  rw [uZ_k _ _ _ _ (show 604 + j ≠ 11 by omega), ← hb]
  unfold rlsM
  by_cases e : M 10 ≤ j ∧ j < M 9
  · rw [if_pos (by omega), if_pos (show 604 + M 10 ≤ 604 + j ∧ 604 + j < 604 + M 9 by omega), show 604 + j - 604 = j by omega]
    exact (hr b hb3.1 hb3.2 hb2 j j0 e.2).symm
  · rw [if_neg (by omega), if_neg (show ¬ (604 + M 10 ≤ 604 + j ∧ 604 + j < 604 + M 9) by omega), if_neg (show ¬ 604 + j = 10 by omega)]
theorem hear_hd {f h : Int → Int} {y : Int} (hf : hdOk f) (hh : ∀ q : Int, 0 ≤ q → q < y → 0 ≤ h q ∧ h q ≤ 3) : hdOk (wrS f 0 y h) := by
  intro q q0 q1
  unfold wrS
  by_cases e : 0 ≤ q ∧ q < 0 + y
  · rw [if_pos e, Int.sub_zero]
    exact hh q q0 (by omega)
  · rw [if_neg e]
    exact hf q q0 q1
theorem fnM_10 (M : Int → Int) (x : Int) (h0 : 0 ≤ M 10) : fnM M x 10 = M 9 := by
  unfold fnM
  rw [uZ_k _ _ _ _ (by omega)]
  exact rlsM_10 _ _ _ h0
def tkNo (M : Int → Int) (L n : Int) : Int := if ¬ (1 ≤ n ∧ n ≤ 80) then -2 else if M 11 = 1 ∨ M 7 < L + n then -4 else -3
def hrNo (M : Int → Int) (x ty : Int) : Int := if 0 ≤ x then -100 - x else if ¬ ty % M 1 = 0 then -2 else if M 11 = 1 then -4 else -3
theorem lin_take {a b n o : Int} (ho : 2 ≤ o ∧ o ≤ 3) : a * o - b * o < n * o ↔ a < b + n := by
  rcases (show o = 2 ∨ o = 3 by omega) with h | h <;> rw [h] <;> omega
theorem lin_div {a o : Int} (ho : 2 ≤ o ∧ o ≤ 3) : a / o * o = a ↔ a % o = 0 := by
  rcases (show o = 2 ∨ o = 3 by omega) with h | h <;> rw [h] <;> omega
theorem lin_pos {a o : Int} (ho : 2 ≤ o ∧ o ≤ 3) (h : 0 ≤ a) : 0 ≤ a / o ∧ a / o ≤ a ∧ 0 ≤ a / o * o ∧ a / o * o ≤ a ∧ 0 ≤ a % o ∧ a % o ≤ 2 := by
  rcases (show o = 2 ∨ o = 3 by omega) with e | e <;> rw [e] <;> omega
