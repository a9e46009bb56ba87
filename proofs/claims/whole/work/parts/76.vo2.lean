theorem vB_le (M : Int → Int) (b k : Int) : 0 ≤ vB M b k ∧ vB M b k ≤ 1 := sy_le _ _
theorem vO_sB {M fu : Int → Int} {L b : Int} (h : vO M L fu) (h80 : M 7 < 80) (hb : 0 ≤ b ∧ b ≤ 1) : vO (sB M b) L fu := by
  obtain ⟨h1, h2, h3, h4, h5, h6, h7, h8, h9, h10⟩ := h
  have n9 := h1.2.2.2.2.1
  have n7 := h4.2.2.2.2
  have ho := h4.2.1
  have el : ∀ j : Int, j < 12 → j ≠ 6 → j ≠ 7 → sB M b j = M j := fun j q q6 q7 => by rw [sB_low M b j n7.1 ho h80 q, if_neg q6, if_neg q7]
  have eh : ∀ j : Int, 572 ≤ j → sB M b j = M j := fun j q => sB_hi M b j n7.1 ho h80 q
  have e7 : sB M b 7 = M 7 + 1 := by rw [sB_low M b 7 n7.1 ho h80 (by omega)]; rfl
  have ec : ∀ j : Int, (0 ≤ j ∧ j < 6) ∨ j = 9 ∨ j = 10 ∨ (572 ≤ j ∧ j < 604) ∨ (684 ≤ j ∧ j < 780) → sB M b j = M j := fun j q => by
    rcases (show j < 12 ∨ 572 ≤ j by omega) with w | w
    · exact el j w (by omega) (by omega)
    · exact eh j w
  refine ⟨rdOk_cong h1 ec, wkRel_cong h1.1 n9.2 h2 (fun j q => ec j (by omega)), h3, sB_ok h4 h80 hb, by rw [el 1 (by omega) (by omega) (by omega), el 4 (by omega) (by omega) (by omega)]; exact h5, by rw [el 11 (by omega) (by omega) (by omega)]; exact h6, by rw [el 8 (by omega) (by omega) (by omega), el 1 (by omega) (by omega) (by omega)]; exact h7, by rw [e7]; omega, ⟨fun j j0 j1 => ?_, fun j j0 j1 => ?_, fun j j0 j1 => ?_⟩, rlOk_cong h10 (fun j q _ => eh j (by omega))⟩
  · have e := sB_92 M b j n7.1 ho h80 j0 j1
    have e2 : sl (sB M b) 92 j = sB M b (92 + j) := rfl
    rw [← e2, ← e]
    unfold wrS
    split
    · have := vB_le M b (j - M 7 * M 1)
      omega
    · exact h9.1 j j0 j1
  · have e := sB_332 M b j n7.1 ho h80 j0 j1
    have e2 : sl (sB M b) 332 j = sB M b (332 + j) := rfl
    rw [← e2, ← e]
    unfold wrS
    split
    · exact vB_le M b _
    · exact h9.2.1 j j0 j1
  · have e := sB_12 M b j n7.1 ho h80 j0 j1
    have e2 : sl (sB M b) 12 j = sB M b (12 + j) := rfl
    rw [← e2, ← e]
    unfold uZ
    split
    · exact hb
    · exact h9.2.2 j j0 j1
theorem vO_sN {M fu g : Int → Int} {L : Int} (h : vO M L fu) : ∀ n : Nat, M 7 + n ≤ 80 → (∀ k : Int, 0 ≤ k → k < n → 0 ≤ g k ∧ g k ≤ 1) → vO (sdN M g n) L fu
  | 0, _, _ => h
  | n + 1, h1, h2 => by
    have ih := vO_sN h n (by omega) (fun k k0 k1 => h2 k k0 (by omega))
    have e := (sdN_ok (g := g) h.2.2.2.1 n (by omega) (fun k k0 k1 => h2 k k0 (by omega))).2
    exact vO_sB ih (by omega) (h2 n (by omega) (by omega))
theorem wkB_le (M : Int → Int) (t z : Int) : 0 ≤ wkB M t z ∧ wkB M t z ≤ 1 := bit_le _ _
theorem rlOk_rls {M : Int → Int} {b z : Int} (h : rlOk M) : rlOk (rlsM M b z) := fun j j0 j1 => by
  unfold rlsM
  split
  · exact wkB_le _ _ _
  · rw [if_neg (by omega)]
    exact h j j0 j1
theorem rlOk_go {M hd : Int → Int} (hm : 1 ≤ M 0 ∧ M 0 ≤ 5) (h : rlOk M) : rlOk (goM M hd) :=
  rlOk_rls (rlOk_cong h (fun j q1 q2 => goM1_rel M hd j hm.1 hm.2 q1 q2))
theorem rlOk_tkN {M : Int → Int} (hr : rdOk M) (h : rlOk M) : ∀ n : Nat, M 9 + n ≤ 80 → rlOk (tkN M n)
  | 0, _ => h
  | n + 1, hn => by
    have ih := rlOk_tkN hr h n (by omega)
    have hk := (tkN_ok hr n (by omega)).1
    rw [tkN]
    exact rlOk_go (M := uZ (tkN M n) 8 (tkN M n 8 + tkN M n 1)) hk.1 (rlOk_cong ih (fun j q1 _ => uZ_k _ 8 _ j (by omega)))
theorem rlOk_hrN {M g : Int → Int} (hr : rdOk M) (h : rlOk M) : ∀ n : Nat, M 9 + n ≤ 80 → rlOk (hrN M g n)
  | 0, _ => h
  | n + 1, hn => by
    have ih := rlOk_hrN (g := g) hr h n (by omega)
    have hk := (hrN_ok (g := g) hr n (by omega)).1
    rw [hrN]
    exact rlOk_go hk.1 ih
theorem vO_tk {M fu gu : Int → Int} {L : Int} (h : vO M L fu) (n : Nat) (h80 : M 9 + n ≤ 80) (hL : L + n ≤ M 7) (hw : wkRel (tkN M n) gu) (hu : huOk gu) : vO (tkN M n) (L + n) gu := by
  obtain ⟨h1, h2, h3, h4, h5, h6, h7, h8, h9, h10⟩ := h
  have k := tkN_ok h1 n h80
  have e := k.2.2.2
  refine ⟨k.1, hw, hu, sOk_cong h4 (fun j _ _ => e j (by omega) (by omega) (by omega) (by omega)), by rw [e 1 (by omega) (by omega) (by omega) (by omega), e 4 (by omega) (by omega) (by omega) (by omega)]; exact h5, by rw [e 11 (by omega) (by omega) (by omega) (by omega)]; exact h6, ?_, by rw [e 7 (by omega) (by omega) (by omega) (by omega)]; omega, lnOk_cong h9 (fun j _ _ => e j (by omega) (by omega) (by omega) (by omega)), rlOk_tkN h1 h10 n h80⟩
  rw [k.2.2.1, e 1 (by omega) (by omega) (by omega) (by omega), h7, Int.add_mul]
theorem vO_hr {M fu gu g : Int → Int} {L : Int} (h : vO M L fu) (n : Nat) (h80 : M 9 + n ≤ 80) (hw : wkRel (hrN M g n) gu) (hu : huOk gu) : vO (hrN M g n) L gu := by
  obtain ⟨h1, h2, h3, h4, h5, h6, h7, h8, h9, h10⟩ := h
  have k := hrN_ok (g := g) h1 n h80
  have e := k.2.2
  exact ⟨k.1, hw, hu, sOk_cong h4 (fun j _ _ => e j (by omega) (by omega) (by omega)), by rw [e 1 (by omega) (by omega) (by omega), e 4 (by omega) (by omega) (by omega)]; exact h5, by rw [e 11 (by omega) (by omega) (by omega)]; exact h6, by rw [e 8 (by omega) (by omega) (by omega), e 1 (by omega) (by omega) (by omega)]; exact h7, by rw [e 7 (by omega) (by omega) (by omega)]; omega, lnOk_cong h9 (fun j _ _ => e j (by omega) (by omega) (by omega)), rlOk_hrN h1 h10 n h80⟩
theorem vO_fn {M fu : Int → Int} {L x : Int} (h : vO M L fu) : vO (fnM M x) L fu := by
  obtain ⟨h1, h2, h3, h4, h5, h6, h7, h8, h9, h10⟩ := h
  have n9 := h1.2.2.2.2.1
  have n10 := h1.2.2.2.2.2.1
  have e := fun j q1 q2 q3 => fnM_k M x j n10.1 n9.2 q1 q2 q3
  have e10 := fnM_10 M x n10.1
  have e11 : fnM M x 11 = 1 := uZ_s
  have e9 := e 9 (by omega) (by omega) (by omega)
  refine ⟨?_, wkRel_cong h1.1 n9.2 h2 (fun j q => e j (by omega) (by omega) (by omega)), h3, sOk_cong h4 (fun j _ _ => e j (by omega) (by omega) (by omega)), by rw [e 1 (by omega) (by omega) (by omega), e 4 (by omega) (by omega) (by omega)]; exact h5, Or.inr e11, by rw [e 8 (by omega) (by omega) (by omega), e 1 (by omega) (by omega) (by omega)]; exact h7, by rw [e 7 (by omega) (by omega) (by omega)]; omega, lnOk_cong h9 (fun j _ _ => e j (by omega) (by omega) (by omega)), fun j j0 j1 => ?_⟩
  · obtain ⟨hm, ho, ht, h5', h9', hN, hme, hw, hbs⟩ := h1
    refine ⟨by rw [e 0 (by omega) (by omega) (by omega)]; exact hm, by rw [e 1 (by omega) (by omega) (by omega)]; exact ho, ?_, by rw [e 5 (by omega) (by omega) (by omega)]; exact h5', by rw [e9]; exact h9', by rw [e10, e9]; omega, ?_, ?_, ?_⟩
    · intro k k0 k1
      show 0 ≤ fnM M x (2 + k) ∧ fnM M x (2 + k) < 64
      rw [e (2 + k) (by omega) (by omega) (by omega)]
      exact ht k k0 k1
    · intro k k0 k1
      show -1 ≤ fnM M x (572 + k) ∧ fnM M x (572 + k) ≤ 3 * fnM M x 9
      rw [e (572 + k) (by omega) (by omega) (by omega), e9]
      exact hme k k0 k1
    · intro t z t0 t1 z0 z1
      rw [e (684 + 3 * t + z) (by omega) (by omega) (by omega), e9]
      exact hw t z t0 t1 z0 z1
    · have hp := p2_all hm.1 hm.2
      rw [e 0 (by omega) (by omega) (by omega), bst_cong (f := sl (fnM M x) 572) (g := sl M 572) (n := (p2 (M 0)).toNat) (fun k k0 k1 => e (572 + k) (by omega) (by omega) (by omega))]
      exact hbs
  · have q := rlOk_rls (b := fnb M x) (z := M 9) h10 j j0 j1
    have e2 : fnM M x (604 + j) = rlsM M (fnb M x) (M 9) (604 + j) := uZ_k _ 11 _ _ (by omega)
    rw [e2]
    exact q
theorem vO_0 : vO M_0 0 (fun _ => 0) := by
  have htp : tpOk (sl (uZ (uZ (uZ (uZ (uZ (fun _ => 0) 0 2) 1 2) 2 7) 3 5) 5 10) 2) := tp_of (f1 := 7) (f2 := 5) (f3 := 0) rfl rfl rfl (by omega) (by omega) (by omega)
  have htp2 : tpOk (sl M_0 2) := tp_of (f1 := 7) (f2 := 5) (f3 := 0) rfl rfl rfl (by omega) (by omega) (by omega)
  have q := rd_clR (M := uZ (uZ (uZ (uZ (uZ (fun _ => 0) 0 2) 1 2) 2 7) 3 5) 5 10) (by decide) (by decide) htp (by decide) (fun _ => 0)
  refine ⟨q.1, q.2, fun k _ _ => ⟨Int.le_refl 0, (by decide : (0 : Int) < 4294967296)⟩, ⟨by decide, by decide, htp2, by decide, by decide⟩, by decide, Or.inl rfl, by decide, by decide, ⟨fun j j0 j1 => ?_, fun j j0 j1 => ?_, fun j j0 j1 => ?_⟩, fun j j0 j1 => ?_⟩
  · rw [M0_0 (92 + j) (by omega)]
    omega
  · rw [M0_0 (332 + j) (by omega)]
    omega
  · rw [M0_0 (12 + j) (by omega)]
    omega
  · rw [M0_0 (604 + j) (by omega)]
    omega
