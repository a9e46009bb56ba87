/-! the reference's set of states: what a state's leaving changes -/
theorem p2_even {k : Int} (k1 : 1 ≤ k) : p2 k = 2 * p2 (k - 1) := by
  have e := p2_add (a := 1) (b := k - 1) (by omega) (by omega)
  rw [show 1 + (k - 1) = k by omega] at e
  exact e
theorem bd_same {x k : Int} (h : x / p2 k % 2 = 1) : (x - p2 k) / p2 k % 2 = 0 := by
  have hp := p2_pos k
  have e := Int.sub_mul_ediv_left (a := x) (b := p2 k) (c := 1) (by omega)
  rw [Int.mul_one] at e
  rw [e]
  omega
theorem bd_low {x k s : Int} (s0 : 0 ≤ s) (sk : s < k) : (x - p2 k) / p2 s % 2 = x / p2 s % 2 := by
  have hp := p2_pos s
  have e := p2_add (a := s) (b := k - s) s0 (by omega)
  rw [show s + (k - s) = k by omega] at e
  have e2 := p2_even (k := k - s) (by omega)
  have e3 := Int.sub_mul_ediv_left (a := x) (b := p2 s) (c := p2 (k - s)) (by omega)
  rw [e, e3, e2]
  omega
theorem bd_next {x k : Int} (k0 : 0 ≤ k) (h : x / p2 k % 2 = 1) : (x - p2 k) / p2 (k + 1) = x / p2 (k + 1) := by
  have hp := p2_pos k
  have e := p2_add (a := k) (b := 1) k0 (by omega)
  have e1 : p2 1 = 2 := rfl
  rw [e, e1]
  have e2 := Int.sub_mul_ediv_left (a := x) (b := p2 k) (c := 1) (by omega)
  rw [Int.mul_one] at e2
  rw [← Int.ediv_ediv_of_nonneg (by omega), ← Int.ediv_ediv_of_nonneg (by omega), e2]
  omega
theorem bd_high {x k s : Int} (k0 : 0 ≤ k) (sk : k < s) (h : x / p2 k % 2 = 1) : (x - p2 k) / p2 s = x / p2 s := by
  have e := p2_add (a := k + 1) (b := s - (k + 1)) (by omega) (by omega)
  rw [show k + 1 + (s - (k + 1)) = s by omega] at e
  have h1 := p2_pos (k + 1)
  rw [e, ← Int.ediv_ediv_of_nonneg (by omega), ← Int.ediv_ediv_of_nonneg (by omega), bd_next k0 h]
theorem bd_ne {x k s : Int} (k0 : 0 ≤ k) (s0 : 0 ≤ s) (sk : s ≠ k) (h : x / p2 k % 2 = 1) : (x - p2 k) / p2 s % 2 = x / p2 s % 2 := by
  rcases (show s < k ∨ k < s by omega) with q | q
  · exact bd_low s0 q
  · rw [bd_high k0 q h]
/-- a set that goes on within itself -/
def clW (mm oo : Int) (tp : Int → Int) (W : Int) : Prop := ∀ s : Int, 0 ≤ s → s < p2 mm → W / p2 s % 2 = 1 → 1 ≤ s ∧ gz mm oo tp W s = 1
def sbW (mm W X : Int) : Prop := ∀ s : Int, 0 ≤ s → s < p2 mm → W / p2 s % 2 = 1 → X / p2 s % 2 = 1
theorem gz_sub {mm oo : Int} {tp : Int → Int} {W X s : Int} (h1 : 1 ≤ mm) (h2 : mm ≤ 5) (s0 : 0 ≤ s) (s1 : s < p2 mm) (hs : sbW mm W X) (h : gz mm oo tp W s = 1) : gz mm oo tp X s = 1 := by
  have a := gz_or mm oo tp W s
  have b := gz_or mm oo tp X s
  have n0 := nx_le (x := s) (b := 0) h1 h2 s0 s1 (by omega) (by omega)
  have n1 := nx_le (x := s) (b := 1) h1 h2 s0 s1 (by omega) (by omega)
  have c0 := hs (nx mm s 0) n0.1 n0.2
  have c1 := hs (nx mm s 1) n1.1 n1.2
  rcases a with ⟨_, a⟩ | ⟨a, _⟩
  · rcases b with ⟨b, _⟩ | ⟨_, b⟩
    · exact b
    · exact absurd (a.imp (fun q => ⟨q.1, c0 q.2⟩) (fun q => ⟨q.1, c1 q.2⟩)) b
  · omega
def rO (mm oo : Int) (tp : Int → Int) (x y : Int) : Prop := (0 ≤ x ∧ x < p2 (p2 mm)) ∧ x % 2 = 0 ∧ (∀ W : Int, clW mm oo tp W → sbW mm W x) ∧ (x = y → clW mm oo tp x)
def rI (mm oo : Int) (tp : Int → Int) (x y k : Int) : Prop := ((0 ≤ x ∧ x ≤ y) ∧ y < p2 (p2 mm)) ∧ x % 2 = 0 ∧ (∀ W : Int, clW mm oo tp W → sbW mm W x) ∧ (x = y → ∀ s : Int, 1 ≤ s → s < k → x / p2 s % 2 = 1 → gz mm oo tp x s = 1)
theorem rI_of {mm oo : Int} {tp : Int → Int} {x y : Int} (h : rO mm oo tp x y) : rI mm oo tp x x 1 := ⟨⟨⟨h.1.1, Int.le_refl _⟩, h.1.2⟩, h.2.1, h.2.2.1, fun _ s s0 s1 _ => by omega⟩
theorem rO_of {mm oo : Int} {tp : Int → Int} {x y k : Int} (h : rI mm oo tp x y k) (hk : p2 mm ≤ k) : rO mm oo tp x y := by
  refine ⟨⟨h.1.1.1, Int.lt_of_le_of_lt h.1.1.2 h.1.2⟩, h.2.1, h.2.2.1, fun e s s0 s1 hb => ?_⟩
  have e0 : p2 0 = 1 := rfl
  have s2 : 1 ≤ s := by
    rcases (show s = 0 ∨ 1 ≤ s by omega) with q | q
    · rw [q, e0, Int.ediv_one] at hb
      have := h.2.1
      omega
    · exact q
  exact ⟨s2, h.2.2.2 e s s2 (by omega) hb⟩
theorem rI_keep {mm oo : Int} {tp : Int → Int} {x y k : Int} (h : rI mm oo tp x y k) (hk : x / p2 k % 2 = 0 ∨ gz mm oo tp x k = 1) : rI mm oo tp x y (k + 1) := by
  refine ⟨h.1, h.2.1, h.2.2.1, fun e s s0 s1 hb => ?_⟩
  rcases (show s < k ∨ s = k by omega) with q | q
  · exact h.2.2.2 e s s0 q hb
  · rw [q] at hb ⊢
    omega
theorem rI_drop {mm oo : Int} {tp : Int → Int} {x y k : Int} (h1 : 1 ≤ mm) (h2 : mm ≤ 5) (h : rI mm oo tp x y k) (k0 : 1 ≤ k) (k1 : k < p2 mm) (hb : x / p2 k % 2 = 1) (hk : gz mm oo tp x k = 0) : rI mm oo tp (x - p2 k) y (k + 1) := by
  have hp := p2_pos k
  have e1 := p2_even k0
  obtain ⟨⟨⟨a0, a1⟩, a2⟩, b, c, d⟩ := h
  have hle : p2 k ≤ x := by
    rcases Int.lt_or_le x (p2 k) with q | q
    · rw [Int.ediv_eq_zero_of_lt a0 q] at hb
      omega
    · exact q
  refine ⟨⟨⟨by omega, by omega⟩, a2⟩, by omega, fun W hW s s0 s1 hs => ?_, fun e => by omega⟩
  have hx := c W hW
  rcases (show s = k ∨ s ≠ k by omega) with q | q
  · rw [q] at hs
    have g := gz_sub h1 h2 (by omega) k1 hx (hW k (by omega) k1 hs).2
    omega
  · rw [bd_ne (by omega) s0 q hb]
    exact hx s s0 s1 hs
