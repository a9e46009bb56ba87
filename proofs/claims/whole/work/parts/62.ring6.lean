/-! the class' sets end closed, and hold every closed set -/
theorem bz {x : Int} (x0 : 0 ≤ x) : ∀ n : Nat, x < p2 (n : Int) → (∀ s : Int, 0 ≤ s → s < n → x / p2 s % 2 = 0) → x = 0
  | 0 => fun h _ => by
    have e0 : p2 ((0 : Nat) : Int) = 1 := rfl
    omega
  | n + 1 => fun h hb => by
    have hp := p2_pos (n : Int)
    have e := p2_even (k := ((n + 1 : Nat) : Int)) (by omega)
    rw [show ((n + 1 : Nat) : Int) - 1 = (n : Int) by omega] at e
    have hn := hb (n : Int) (by omega) (by omega)
    have l0 := Int.ediv_nonneg x0 (show (0 : Int) ≤ p2 (n : Int) by omega)
    have l1 := Int.ediv_lt_of_lt_mul (a := x) (b := 2) (c := p2 (n : Int)) hp (by omega)
    have h0 : x / p2 (n : Int) = 0 := by omega
    have h1 := Int.mul_ediv_add_emod x (p2 (n : Int))
    rw [h0, Int.mul_zero] at h1
    have h2 := Int.emod_lt_of_pos x hp
    exact bz x0 n (by omega) (fun s s0 s1 => hb s s0 (by omega))
theorem sm_two {f g : Int → Int} : ∀ n : Nat, (∀ k : Int, 0 ≤ k → k < n → f k ≤ g k) → sm f n ≤ sm g n ∧ (sm f n = sm g n → ∀ k : Int, 0 ≤ k → k < n → f k = g k)
  | 0 => fun _ => ⟨Int.le_refl _, fun _ k k0 k1 => by omega⟩
  | n + 1 => fun h => by
    have ih := sm_two n (fun k k0 k1 => h k k0 (by omega))
    have hn := h (n : Int) (by omega) (by omega)
    rw [sm, sm]
    refine ⟨by omega, fun e k k0 k1 => ?_⟩
    rcases (show k < (n : Int) ∨ k = (n : Int) by omega) with q | q
    · exact ih.2 (by omega) k k0 q
    · rw [q]
      omega
theorem rg_bit {mm oo : Int} {tp : Int → Int} {n : Nat} {s : Int} (s0 : 0 ≤ s) (s1 : s < p2 mm) : rgN mm oo tp (n + 1) / p2 s % 2 = st1 mm oo tp (rgN mm oo tp n) s := by
  rw [rgN]
  exact csum_bit (st1_le _ _ _ _) s0 _ (by omega)
theorem st1_c {mm oo : Int} {tp : Int → Int} {X s : Int} : (st1 mm oo tp X s = 1 ∧ 1 ≤ s ∧ X / p2 s % 2 = 1 ∧ gz mm oo tp X s = 1) ∨ (st1 mm oo tp X s = 0 ∧ ¬ (1 ≤ s ∧ X / p2 s % 2 = 1 ∧ gz mm oo tp X s = 1)) := by
  unfold st1
  split
  · rename_i h
    exact Or.inl ⟨rfl, h⟩
  · rename_i h
    exact Or.inr ⟨rfl, h⟩
theorem rg_sub {mm oo : Int} {tp : Int → Int} {W : Int} (h1 : 1 ≤ mm) (h2 : mm ≤ 5) (hW : clW mm oo tp W) : ∀ n : Nat, sbW mm W (rgN mm oo tp n)
  | 0 => fun s s0 s1 hb => by
    have hs := (hW s s0 s1 hb).1
    have hp := p2_pos s
    rw [rgN]
    have e := p2_add (a := s) (b := p2 mm - s) s0 (by omega)
    rw [show s + (p2 mm - s) = p2 mm by omega] at e
    have e2 := p2_even (k := p2 mm - s) (by omega)
    have e3 := p2_even hs
    have e4 : (p2 (p2 mm) - 2) / p2 s = p2 (p2 mm - s) - 1 := by
      rw [e, show p2 s * p2 (p2 mm - s) - 2 = (p2 s - 2) + p2 s * (p2 (p2 mm - s) - 1) by rw [Int.mul_sub]; omega, Int.add_mul_ediv_left _ _ (by omega), Int.ediv_eq_zero_of_lt (by have := p2_pos (s - 1); omega) (by omega)]
      omega
    rw [e4]
    omega
  | n + 1 => fun s s0 s1 hb => by
    have ih := rg_sub h1 h2 hW n
    have g := hW s s0 s1 hb
    rw [rg_bit s0 s1]
    rcases st1_c (mm := mm) (oo := oo) (tp := tp) (X := rgN mm oo tp n) (s := s) with q | q
    · exact q.1
    · exact absurd ⟨g.1, ih s s0 s1 hb, gz_sub h1 h2 s0 s1 ih g.2⟩ q.2
theorem rg_cl {mm oo : Int} {tp : Int → Int} (h1 : 1 ≤ mm) (h2 : mm ≤ 5) {n : Nat} (h : clW mm oo tp (rgN mm oo tp n)) : clW mm oo tp (rgN mm oo tp (n + 1)) := by
  intro s s0 s1 hb
  rw [rg_bit s0 s1] at hb
  rcases st1_c (mm := mm) (oo := oo) (tp := tp) (X := rgN mm oo tp n) (s := s) with q | q
  · exact ⟨q.2.1, gz_sub h1 h2 s0 s1 (rg_sub h1 h2 h (n + 1)) q.2.2.2⟩
  · omega
theorem rg_step {mm oo : Int} {tp : Int → Int} (h1 : 1 ≤ mm) (h2 : mm ≤ 5) : ∀ n : Nat, clW mm oo tp (rgN mm oo tp n) ∨ sm (fun s => rgN mm oo tp n / p2 s % 2) (p2 mm).toNat + n ≤ p2 mm
  | 0 => by
    have hp := p2_all h1 h2
    have := sm_le (f := fun s => rgN mm oo tp 0 / p2 s % 2) (n := (p2 mm).toNat) (fun k _ _ => bit_le _ k)
    omega
  | n + 1 => by
    rcases rg_step h1 h2 n with h | h
    · exact Or.inl (rg_cl h1 h2 h)
    · have hp := p2_all h1 h2
      have hle : ∀ k : Int, 0 ≤ k → k < ((p2 mm).toNat : Nat) → (fun s => rgN mm oo tp (n + 1) / p2 s % 2) k ≤ (fun s => rgN mm oo tp n / p2 s % 2) k := fun k k0 k1 => by
        show rgN mm oo tp (n + 1) / p2 k % 2 ≤ rgN mm oo tp n / p2 k % 2
        rw [rg_bit k0 (by omega)]
        have hb := bit_le (rgN mm oo tp n) k
        rcases st1_c (mm := mm) (oo := oo) (tp := tp) (X := rgN mm oo tp n) (s := k) with q | q <;> omega
      have t := sm_two _ hle
      rcases (show sm (fun s => rgN mm oo tp (n + 1) / p2 s % 2) (p2 mm).toNat = sm (fun s => rgN mm oo tp n / p2 s % 2) (p2 mm).toNat ∨ sm (fun s => rgN mm oo tp (n + 1) / p2 s % 2) (p2 mm).toNat < sm (fun s => rgN mm oo tp n / p2 s % 2) (p2 mm).toNat by omega) with q | q
      · refine Or.inl (rg_cl h1 h2 (fun s s0 s1 hb => ?_))
        have e : rgN mm oo tp (n + 1) / p2 s % 2 = rgN mm oo tp n / p2 s % 2 := t.2 q s s0 (by omega)
        rw [rg_bit s0 s1] at e
        rcases st1_c (mm := mm) (oo := oo) (tp := tp) (X := rgN mm oo tp n) (s := s) with w | w
        · exact ⟨w.2.1, w.2.2.2⟩
        · omega
      · right
        omega
theorem rg_end {mm oo : Int} {tp : Int → Int} {x y : Int} (h1 : 1 ≤ mm) (h2 : mm ≤ 5) (h : rO mm oo tp x y) (e : x = y) : x = 0 ↔ rgN mm oo tp (p2 mm).toNat = 0 := by
  have hp := p2_all h1 h2
  have hx := h.2.2.2 e
  have hs := rg_sub h1 h2 hx (p2 mm).toNat
  have hc : clW mm oo tp (rgN mm oo tp (p2 mm).toNat) := by
    rcases rg_step (oo := oo) (tp := tp) h1 h2 (p2 mm).toNat with q | q
    · exact q
    · intro s s0 s1 hb
      have hz : ∀ k : Int, 0 ≤ k → k < ((p2 mm).toNat : Nat) → (fun _ => (0 : Int)) k ≤ (fun s => rgN mm oo tp (p2 mm).toNat / p2 s % 2) k := fun k _ _ => (bit_le _ k).1
      have t := sm_two _ hz
      have z := sm_le (f := fun _ => (0 : Int)) (n := (p2 mm).toNat) (fun _ _ _ => by omega)
      have b : (0 : Int) = rgN mm oo tp (p2 mm).toNat / p2 s % 2 := t.2 (by omega) s s0 (by omega)
      omega
  have hr := h.2.2.1 _ hc
  have z0 : ∀ s : Int, (0 : Int) / p2 s % 2 = 0 := fun s => by rw [Int.zero_ediv]; rfl
  have hN : ((p2 mm).toNat : Int) = p2 mm := by omega
  constructor
  · intro q
    rw [q] at hr
    have hl := rgN_le (oo := oo) (tp := tp) h1 h2 (p2 mm).toNat
    have hl2 : rgN mm oo tp (p2 mm).toNat < p2 (((p2 mm).toNat : Nat) : Int) := by
      obtain ⟨n, hn⟩ : ∃ n, (p2 mm).toNat = n + 1 := ⟨(p2 mm).toNat - 1, by omega⟩
      have hcl := csum_le (st1_le mm oo tp (rgN mm oo tp n)) (p2 mm).toNat
      have er : rgN mm oo tp (n + 1) = csum (st1 mm oo tp (rgN mm oo tp n)) (p2 mm).toNat := rfl
      rw [← er, ← hn] at hcl
      exact hcl.2
    refine bz hl.1 _ hl2 (fun s s0 s1 => ?_)
    have a := hr s s0 (by omega)
    have b := z0 s
    have c := bit_le (rgN mm oo tp (p2 mm).toNat) s
    omega
  · intro q
    rw [q] at hs
    refine bz h.1.1 (p2 mm).toNat (by rw [hN]; exact h.1.2) (fun s s0 s1 => ?_)
    have a := hs s s0 (by omega)
    have b := z0 s
    have c := bit_le x s
    omega
