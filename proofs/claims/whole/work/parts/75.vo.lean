/-! what a state must hold, and that every act keeps it -/
theorem rdOk_cong {M N : Int → Int} (h : rdOk M) (e : ∀ j : Int, (0 ≤ j ∧ j < 6) ∨ j = 9 ∨ j = 10 ∨ (572 ≤ j ∧ j < 604) ∨ (684 ≤ j ∧ j < 780) → N j = M j) : rdOk N := by
  obtain ⟨hm, ho, ht, h5, h9, hN, hme, hw, hbs⟩ := h
  have e0 := e 0 (by omega)
  have e9 := e 9 (by omega)
  refine ⟨by rw [e0]; exact hm, by rw [e 1 (by omega)]; exact ho, ?_, by rw [e 5 (by omega)]; exact h5, by rw [e9]; exact h9, by rw [e 10 (by omega), e9]; exact hN, ?_, ?_, ?_⟩
  · intro k k0 k1
    show 0 ≤ N (2 + k) ∧ N (2 + k) < 64
    rw [e (2 + k) (by omega)]
    exact ht k k0 k1
  · intro k k0 k1
    show -1 ≤ N (572 + k) ∧ N (572 + k) ≤ 3 * N 9
    rw [e (572 + k) (by omega), e9]
    exact hme k k0 k1
  · intro t z t0 t1 z0 z1
    rw [e (684 + 3 * t + z) (by omega), e9]
    exact hw t z t0 t1 z0 z1
  · have hp := p2_all hm.1 hm.2
    rw [e0, bst_cong (f := sl N 572) (g := sl M 572) (n := (p2 (M 0)).toNat) (fun k k0 k1 => e (572 + k) (by omega))]
    exact hbs
theorem wkRel_cong {M N fu : Int → Int} (hm : 1 ≤ M 0 ∧ M 0 ≤ 5) (h9 : M 9 ≤ 80) (h : wkRel M fu) (e : ∀ j : Int, j = 0 ∨ j = 9 ∨ (572 ≤ j ∧ j < 604) ∨ (684 ≤ j ∧ j < 780) → N j = M j) : wkRel N fu := by
  have hp := p2_all hm.1 hm.2
  intro t t0 t1 ht z z0 z1
  rw [e 0 (by omega)] at t1
  rw [e (572 + t) (by omega)] at ht
  rw [e 9 (by omega)] at z1
  have q := h t t0 t1 ht z z0 z1
  rw [e 0 (by omega), e 9 (by omega), ← q]
  unfold wkB
  rw [e (684 + 3 * t + z / 30) (by omega)]
theorem sOk_cong {M N : Int → Int} (h : sOk M) (e : ∀ j : Int, 0 ≤ j → j < 8 → N j = M j) : sOk N := by
  obtain ⟨hm, ho, ht, h6, h7⟩ := h
  refine ⟨by rw [e 0 (by omega) (by omega)]; exact hm, by rw [e 1 (by omega) (by omega)]; exact ho, ?_, by rw [e 0 (by omega) (by omega), e 6 (by omega) (by omega)]; exact h6, by rw [e 7 (by omega) (by omega)]; exact h7⟩
  intro k k0 k1
  show 0 ≤ N (2 + k) ∧ N (2 + k) < 64
  rw [e (2 + k) (by omega) (by omega)]
  exact ht k k0 k1
/-- the line, what was sent, the bits: their ranges -/
def lnOk (M : Int → Int) : Prop := (∀ j : Int, 0 ≤ j → j < 240 → 0 ≤ M (92 + j) ∧ M (92 + j) ≤ 2) ∧ (∀ j : Int, 0 ≤ j → j < 240 → 0 ≤ M (332 + j) ∧ M (332 + j) ≤ 1) ∧ (∀ j : Int, 0 ≤ j → j < 80 → 0 ≤ M (12 + j) ∧ M (12 + j) ≤ 1)
def rlOk (M : Int → Int) : Prop := ∀ j : Int, 0 ≤ j → j < 80 → 0 ≤ M (604 + j) ∧ M (604 + j) ≤ 1
def vO (M : Int → Int) (L : Int) (fu : Int → Int) : Prop := rdOk M ∧ wkRel M fu ∧ huOk fu ∧ sOk M ∧ M 1 = oT (M 4) ∧ (M 11 = 0 ∨ M 11 = 1) ∧ M 8 = L * M 1 ∧ (0 ≤ L ∧ L ≤ M 7) ∧ lnOk M ∧ rlOk M
theorem lnOk_cong {M N : Int → Int} (h : lnOk M) (e : ∀ j : Int, 12 ≤ j → j < 572 → N j = M j) : lnOk N := by
  refine ⟨fun j j0 j1 => ?_, fun j j0 j1 => ?_, fun j j0 j1 => ?_⟩
  · rw [e (92 + j) (by omega) (by omega)]
    exact h.1 j j0 j1
  · rw [e (332 + j) (by omega) (by omega)]
    exact h.2.1 j j0 j1
  · rw [e (12 + j) (by omega) (by omega)]
    exact h.2.2 j j0 j1
theorem rlOk_cong {M N : Int → Int} (h : rlOk M) (e : ∀ j : Int, 604 ≤ j → j < 684 → N j = M j) : rlOk N := fun j j0 j1 => by
  rw [e (604 + j) (by omega) (by omega)]
  exact h j j0 j1
/-- a change of the line alone -/
theorem vO_line {M N fu : Int → Int} {L : Int} (h : vO M L fu) (e : ∀ j : Int, j < 92 ∨ 332 ≤ j → N j = M j) (hl : ∀ j : Int, 0 ≤ j → j < 240 → 0 ≤ N (92 + j) ∧ N (92 + j) ≤ 2) : vO N L fu := by
  obtain ⟨h1, h2, h3, h4, h5, h6, h7, h8, h9, h10⟩ := h
  have n9 := h1.2.2.2.2.1
  refine ⟨rdOk_cong h1 (fun j q => e j (by omega)), wkRel_cong h1.1 n9.2 h2 (fun j q => e j (by omega)), h3, sOk_cong h4 (fun j _ _ => e j (by omega)), by rw [e 1 (by omega), e 4 (by omega)]; exact h5, by rw [e 11 (by omega)]; exact h6, by rw [e 8 (by omega), e 1 (by omega)]; exact h7, by rw [e 7 (by omega)]; exact h8, ⟨hl, ?_, ?_⟩, rlOk_cong h10 (fun j _ _ => e j (by omega))⟩
  · intro j j0 j1
    rw [e (332 + j) (by omega)]
    exact h9.2.1 j j0 j1
  · intro j j0 j1
    rw [e (12 + j) (by omega)]
    exact h9.2.2 j j0 j1
theorem vO_fl {M fu : Int → Int} {L k : Int} (h : vO M L fu) (k0 : 0 ≤ k) (k1 : k < 240) (h2 : M (92 + k) ≠ 2) : vO (flM M k) L fu := by
  refine vO_line h (fun j q => uZ_k M (92 + k) _ j (by omega)) (fun j j0 j1 => ?_)
  have a := h.2.2.2.2.2.2.2.2.1.1
  by_cases e : j = k
  · rw [e]
    have := a k k0 k1
    have e2 : flM M k (92 + k) = 1 - M (92 + k) := uZ_s
    rw [e2]
    omega
  · have e2 : flM M k (92 + j) = M (92 + j) := uZ_k M (92 + k) _ (92 + j) (by omega)
    rw [e2]
    exact a j j0 j1
theorem vO_er {M fu : Int → Int} {L k : Int} (h : vO M L fu) (k0 : 0 ≤ k) (k1 : k < 240) : vO (erM M k) L fu := by
  refine vO_line h (fun j q => uZ_k M (92 + k) _ j (by omega)) (fun j j0 j1 => ?_)
  have a := h.2.2.2.2.2.2.2.2.1.1
  by_cases e : j = k
  · rw [e]
    have e2 : erM M k (92 + k) = 2 := uZ_s
    rw [e2]
    omega
  · have e2 : erM M k (92 + j) = M (92 + j) := uZ_k M (92 + k) _ (92 + j) (by omega)
    rw [e2]
    exact a j j0 j1
theorem vO_sd {M fu : Int → Int} {L d : Int} (h : vO M L fu) (hd : 2 ≤ d ∧ d ≤ 40) : vO (sdM M d) L fu := by
  obtain ⟨h1, h2, h3, h4, h5, h6, h7, h8, h9, h10⟩ := h
  have n9 := h1.2.2.2.2.1
  have e : ∀ j : Int, j ≠ 5 → sdM M d j = M j := fun j q => uZ_k M 5 d j q
  have e5 : sdM M d 5 = d := uZ_s
  refine ⟨?_, wkRel_cong h1.1 n9.2 h2 (fun j q => e j (by omega)), h3, ?_, by rw [e 1 (by omega), e 4 (by omega)]; exact h5, by rw [e 11 (by omega)]; exact h6, by rw [e 8 (by omega), e 1 (by omega)]; exact h7, by rw [e 7 (by omega)]; exact h8, lnOk_cong h9 (fun j _ _ => e j (by omega)), rlOk_cong h10 (fun j _ _ => e j (by omega))⟩
  · obtain ⟨hm, ho, ht, -, h9', hN, hme, hw, hbs⟩ := h1
    refine ⟨by rw [e 0 (by omega)]; exact hm, by rw [e 1 (by omega)]; exact ho, ?_, by rw [e5]; exact hd, by rw [e 9 (by omega)]; exact h9', by rw [e 10 (by omega), e 9 (by omega)]; exact hN, ?_, ?_, ?_⟩
    · intro k k0 k1
      show 0 ≤ sdM M d (2 + k) ∧ sdM M d (2 + k) < 64
      rw [e (2 + k) (by omega)]
      exact ht k k0 k1
    · intro k k0 k1
      show -1 ≤ sdM M d (572 + k) ∧ sdM M d (572 + k) ≤ 3 * sdM M d 9
      rw [e (572 + k) (by omega), e 9 (by omega)]
      exact hme k k0 k1
    · intro t z t0 t1 z0 z1
      rw [e (684 + 3 * t + z) (by omega), e 9 (by omega)]
      exact hw t z t0 t1 z0 z1
    · have hp := p2_all hm.1 hm.2
      rw [e 0 (by omega), bst_cong (f := sl (sdM M d) 572) (g := sl M 572) (n := (p2 (M 0)).toNat) (fun k k0 k1 => e (572 + k) (by omega))]
      exact hbs
  · obtain ⟨hm, ho, ht, h6', h7'⟩ := h4
    refine ⟨by rw [e 0 (by omega)]; exact hm, by rw [e 1 (by omega)]; exact ho, ?_, by rw [e 0 (by omega), e 6 (by omega)]; exact h6', by rw [e 7 (by omega)]; exact h7'⟩
    intro k k0 k1
    show 0 ≤ sdM M d (2 + k) ∧ sdM M d (2 + k) < 64
    rw [e (2 + k) (by omega)]
    exact ht k k0 k1
/-- a reader that is reset -/
theorem rd_clR {M : Int → Int} (hm : 1 ≤ M 0 ∧ M 0 ≤ 5) (ho : 2 ≤ M 1 ∧ M 1 ≤ 3) (ht : tpOk (sl M 2)) (h5 : 2 ≤ M 5 ∧ M 5 ≤ 40) (fu : Int → Int) : rdOk (clR M) ∧ wkRel (clR M) fu := by
  have hp := p2_all hm.1 hm.2
  have e := fun j q => clR_k M j q
  have e9 : clR M 9 = 0 := by
    unfold clR
    rw [if_pos (by omega)]
  have e10 : clR M 10 = 0 := by
    unfold clR
    rw [if_pos (by omega)]
  have em := fun k k0 k1 => clR_572 M k k0 k1
  refine ⟨⟨by rw [e 0 (by omega)]; exact hm, by rw [e 1 (by omega)]; exact ho, ?_, by rw [e 5 (by omega)]; exact h5, by rw [e9]; omega, by rw [e10, e9]; omega, ?_, ?_, ?_⟩, ?_⟩
  · intro k k0 k1
    show 0 ≤ clR M (2 + k) ∧ clR M (2 + k) < 64
    rw [e (2 + k) (by omega)]
    exact ht k k0 k1
  · intro k k0 k1
    rw [← em k k0 k1, e9]
    unfold uZ
    dsimp only
    split <;> omega
  · intro t z t0 t1 z0 z1
    have e1 : clR M (684 + 3 * t + z) = 0 := by
      unfold clR
      rw [if_neg (by omega), if_neg (by omega), if_pos (by omega)]
    rw [e1, e9]
    have := p2_pos (cl30 (0 - 30 * z))
    omega
  · refine bst_pos (t := 0) (by omega) (by rw [e 0 (by omega)]; omega) ?_
    rw [← em 0 (by omega) (by omega), uZ_s]
    omega
  · intro t t0 t1 ht' z z0 z1
    rw [e9] at z1
    omega
theorem clR_lo (M : Int → Int) : clR M 8 = 0 ∧ clR M 11 = 0 := ⟨rfl, rfl⟩
theorem vO_cl {M fu : Int → Int} {L : Int} (h : vO M L fu) : vO (clR M) 0 fu := by
  obtain ⟨h1, h2, h3, h4, h5, h6, h7, h8, h9, h10⟩ := h
  have q := rd_clR h1.1 h1.2.1 h1.2.2.1 h1.2.2.2.1 fu
  have e := fun j q => clR_k M j q
  exact ⟨q.1, q.2, h3, sOk_cong h4 (fun j _ _ => e j (by omega)), by rw [e 1 (by omega), e 4 (by omega)]; exact h5, Or.inl (clR_lo M).2, by rw [(clR_lo M).1]; omega, by rw [e 7 (by omega)]; omega, lnOk_cong h9 (fun j _ _ => e j (by omega)), rlOk_cong h10 (fun j _ _ => e j (by omega))⟩
theorem tp_of {M : Int → Int} {f1 f2 f3 : Int} (h2 : M 2 = f1) (h3 : M 3 = f2) (h4 : M 4 = f3) (a1 : 0 ≤ f1 ∧ f1 < 64) (a2 : 0 ≤ f2 ∧ f2 < 64) (a3 : 0 ≤ f3 ∧ f3 < 64) : tpOk (sl M 2) := by
  intro k k0 k1
  rcases (show k = 0 ∨ k = 1 ∨ k = 2 by omega) with rfl | rfl | rfl
  · show 0 ≤ M 2 ∧ M 2 < 64
    rw [h2]
    exact a1
  · show 0 ≤ M 3 ∧ M 3 < 64
    rw [h3]
    exact a2
  · show 0 ≤ M 4 ∧ M 4 < 64
    rw [h4]
    exact a3
theorem vO_sc {M fu : Int → Int} {L f0 f1 f2 f3 : Int} (h : vO M L fu) (hf0 : 1 ≤ f0 ∧ f0 ≤ 5) (hf1 : 1 ≤ f1 ∧ f1 ≤ 2 * p2 f0 - 1) (hf2 : 1 ≤ f2 ∧ f2 ≤ 2 * p2 f0 - 1) (hf3 : 0 ≤ f3 ∧ f3 ≤ 2 * p2 f0 - 1) : vO (scM M f0 f1 f2 f3) 0 fu := by
  obtain ⟨h1, h2, h3, h4, h5, h6, h7, h8, h9, h10⟩ := h
  have hp := p2_all hf0.1 hf0.2
  have ho := oT_le f3
  have e := fun j q => scM_k M f0 f1 f2 f3 j q
  have q0 : scM M f0 f1 f2 f3 0 = f0 := rfl
  have q1 : scM M f0 f1 f2 f3 1 = oT f3 := rfl
  have q2 : scM M f0 f1 f2 f3 2 = f1 := rfl
  have q3 : scM M f0 f1 f2 f3 3 = f2 := rfl
  have q4 : scM M f0 f1 f2 f3 4 = f3 := rfl
  have q5 : scM M f0 f1 f2 f3 5 = M 5 := rfl
  have q6 : scM M f0 f1 f2 f3 6 = 0 := rfl
  have q7 : scM M f0 f1 f2 f3 7 = 0 := rfl
  have q8 : scM M f0 f1 f2 f3 8 = 0 := rfl
  have q11 : scM M f0 f1 f2 f3 11 = 0 := rfl
  have htp : tpOk (sl (scM M f0 f1 f2 f3) 2) := tp_of q2 q3 q4 (by omega) (by omega) (by omega)
  have htp2 : tpOk (sl (uZ (uZ (uZ (uZ (uZ (uZ (uZ M 0 f0) 1 (oT f3)) 2 f1) 3 f2) 4 f3) 6 0) 7 0) 2) := tp_of (f1 := f1) (f2 := f2) (f3 := f3) rfl rfl rfl (by omega) (by omega) (by omega)
  have q := rd_clR (M := uZ (uZ (uZ (uZ (uZ (uZ (uZ M 0 f0) 1 (oT f3)) 2 f1) 3 f2) 4 f3) 6 0) 7 0) hf0 ho htp2 h1.2.2.2.1 fu
  refine ⟨q.1, q.2, h3, ⟨by rw [q0]; exact hf0, by rw [q1]; exact ho, htp, by rw [q6, q0]; omega, by rw [q7]; omega⟩, by rw [q1, q4], Or.inl q11, by rw [q8]; omega, by rw [q7]; omega, ?_, rlOk_cong h10 (fun j _ _ => e j (by omega))⟩
  exact lnOk_cong h9 (fun j _ _ => e j (by omega))
