/-! how many bits a word holds -/
def nb16 (f : Nat → Nat) : Nat → Nat
  | 0 => 0
  | n + 1 => f 0 + 16 * nb16 (fun i => f (i + 1)) n
theorem and_low {m a b x y : Nat} (ha : a < 2 ^ m) (hb : b < 2 ^ m) : (a + 2 ^ m * x) &&& (b + 2 ^ m * y) = (a &&& b) + 2 ^ m * (x &&& y) := by
  have hab : a &&& b < 2 ^ m := Nat.lt_of_le_of_lt Nat.and_le_left ha
  rw [Nat.add_comm a, Nat.add_comm b, Nat.add_comm (a &&& b)]
  rw [Nat.two_pow_add_eq_or_of_lt ha, Nat.two_pow_add_eq_or_of_lt hb, Nat.two_pow_add_eq_or_of_lt hab]
  apply Nat.eq_of_testBit_eq
  intro i
  simp only [Nat.testBit_and, Nat.testBit_or, Nat.testBit_two_pow_mul]
  by_cases h : m ≤ i
  · have h1 : a.testBit i = false := Nat.testBit_lt_two_pow (Nat.lt_of_lt_of_le ha (Nat.pow_le_pow_right (by omega) h))
    have h2 : b.testBit i = false := Nat.testBit_lt_two_pow (Nat.lt_of_lt_of_le hb (Nat.pow_le_pow_right (by omega) h))
    simp [h, h1, h2]
  · simp [h]
theorem and_nib {a b x y : Nat} (ha : a < 16) (hb : b < 16) : (a + 16 * x) &&& (b + 16 * y) = (a &&& b) + 16 * (x &&& y) := and_low (m := 4) ha hb
theorem n16_half : ∀ a, a < 16 → ∀ r, r < 2 → (a / 2 + 8 * r) &&& 5 = a / 2 &&& 5 := by decide +kernel
theorem n16_q : ∀ a, a < 16 → ∀ r, r < 4 → (a / 4 + 4 * r) &&& 3 = a / 4 &&& 3 := by decide +kernel
theorem nb16_half : ∀ (n k : Nat) (f : Nat → Nat), (∀ i, f i < 16) → nb16 f n / 2 &&& nb16 (fun _ => 5) (n + k) = nb16 (fun i => f i / 2 &&& 5) n
  | 0, k, f, _ => by simp [nb16]
  | n + 1, k, f, h => by
    have ih := nb16_half n k (fun i => f (i + 1)) (fun i => h (i + 1))
    have h0 := h 0
    rw [show n + 1 + k = (n + k) + 1 by omega, nb16, nb16, nb16]
    generalize hR : nb16 (fun i => f (i + 1)) n = R at ih
    rw [show (f 0 + 16 * R) / 2 = (f 0 / 2 + 8 * (R % 2)) + 16 * (R / 2) by omega, and_nib (by omega) (by omega), n16_half _ h0 _ (by omega), ih]
theorem nb16_q : ∀ (n k : Nat) (f : Nat → Nat), (∀ i, f i < 16) → nb16 f n / 4 &&& nb16 (fun _ => 3) (n + k) = nb16 (fun i => f i / 4 &&& 3) n
  | 0, k, f, _ => by simp [nb16]
  | n + 1, k, f, h => by
    have ih := nb16_q n k (fun i => f (i + 1)) (fun i => h (i + 1))
    have h0 := h 0
    rw [show n + 1 + k = (n + k) + 1 by omega, nb16, nb16, nb16]
    generalize hR : nb16 (fun i => f (i + 1)) n = R at ih
    rw [show (f 0 + 16 * R) / 4 = (f 0 / 4 + 4 * (R % 4)) + 16 * (R / 4) by omega, and_nib (by omega) (by omega), n16_q _ h0 _ (by omega), ih]
theorem nb16_and : ∀ (n k : Nat) (f : Nat → Nat), (∀ i, f i < 16) → nb16 f n &&& nb16 (fun _ => 3) (n + k) = nb16 (fun i => f i &&& 3) n
  | 0, k, f, _ => by simp [nb16]
  | n + 1, k, f, h => by
    have ih := nb16_and n k (fun i => f (i + 1)) (fun i => h (i + 1))
    rw [show n + 1 + k = (n + k) + 1 by omega, nb16, nb16, nb16, and_nib (h 0) (by omega), ih]
theorem nb16_sub : ∀ (n : Nat) (f g : Nat → Nat), (∀ i, g i ≤ f i) → nb16 f n - nb16 g n = nb16 (fun i => f i - g i) n ∧ nb16 g n ≤ nb16 f n
  | 0, _, _, _ => ⟨rfl, Nat.le_refl _⟩
  | n + 1, f, g, h => by
    have ih := nb16_sub n (fun i => f (i + 1)) (fun i => g (i + 1)) (fun i => h (i + 1))
    have h0 := h 0
    rw [nb16, nb16, nb16]
    omega
theorem nb16_add : ∀ (n : Nat) (f g : Nat → Nat), nb16 f n + nb16 g n = nb16 (fun i => f i + g i) n
  | 0, _, _ => rfl
  | n + 1, f, g => by
    have ih := nb16_add n (fun i => f (i + 1)) (fun i => g (i + 1))
    rw [nb16, nb16, nb16, ← ih]
    omega
def pc4 (x : Nat) : Nat := ((x - (x / 2 &&& 5)) &&& 3) + ((x - (x / 2 &&& 5)) / 4 &&& 3)
theorem pc4_ok : ∀ x, x < 16 → pc4 x = x % 2 + x / 2 % 2 + x / 4 % 2 + x / 8 ∧ pc4 x ≤ 4 ∧ x / 2 &&& 5 ≤ x ∧ x - (x / 2 &&& 5) < 16 := by decide +kernel
theorem pop_b {f : Nat → Nat} {n : Nat} (hn : n ≤ 16) (h : ∀ i, f i < 16) : ((nb16 f n - (nb16 f n / 2 &&& nb16 (fun _ => 5) 16)) &&& nb16 (fun _ => 3) 16) + ((nb16 f n - (nb16 f n / 2 &&& nb16 (fun _ => 5) 16)) / 4 &&& nb16 (fun _ => 3) 16) = nb16 (fun i => pc4 (f i)) n := by
  have e1 := nb16_half n (16 - n) f h
  rw [show n + (16 - n) = 16 by omega] at e1
  rw [e1, (nb16_sub n f _ (fun i => (pc4_ok _ (h i)).2.2.1)).1]
  have e2 := nb16_and n (16 - n) (fun i => f i - (f i / 2 &&& 5)) (fun i => (pc4_ok _ (h i)).2.2.2)
  have e3 := nb16_q n (16 - n) (fun i => f i - (f i / 2 &&& 5)) (fun i => (pc4_ok _ (h i)).2.2.2)
  rw [show n + (16 - n) = 16 by omega] at e2 e3
  rw [e2, e3, nb16_add]
  rfl
/-- the last part of the count, over eight small digits -/
theorem pop_d {a0 a1 a2 a3 a4 a5 a6 a7 : Nat} (h0 : a0 ≤ 4) (h1 : a1 ≤ 4) (h2 : a2 ≤ 4) (h3 : a3 ≤ 4) (h4 : a4 ≤ 4) (h5 : a5 ≤ 4) (h6 : a6 ≤ 4) (h7 : a7 ≤ 4) : ∀ b, b = a0 + 16 * (a1 + 16 * (a2 + 16 * (a3 + 16 * (a4 + 16 * (a5 + 16 * (a6 + 16 * a7)))))) → (b + b / 16) &&& 1085102592571150095 = (a0 + a1) + 256 * ((a2 + a3) + 256 * ((a4 + a5) + 256 * (a6 + a7))) := by
  intro b hb
  have e1 : b + b / 16 = ((a0 + a1) + 16 * (a1 + a2)) + 256 * (((a2 + a3) + 16 * (a3 + a4)) + 256 * (((a4 + a5) + 16 * (a5 + a6)) + 256 * ((a6 + a7) + 16 * a7))) := by omega
  have am : ∀ s t : Nat, s ≤ 8 → t ≤ 8 → (s + 16 * t) &&& 15 = s := by
    intro s t hs ht
    have : (s + 16 * t) &&& (2 ^ 4 - 1) = (s + 16 * t) % 2 ^ 4 := Nat.and_two_pow_sub_one_eq_mod _ 4
    have e : (s + 16 * t) % 2 ^ 4 = s := by omega
    rw [e] at this
    exact this
  have ab : ∀ {a m x y : Nat}, a < 256 → m < 256 → (a + 256 * x) &&& (m + 256 * y) = (a &&& m) + 256 * (x &&& y) := fun ha hm => and_low (m := 8) ha hm
  have em : 1085102592571150095 = 15 + 256 * (15 + 256 * (15 + 256 * (15 + 256 * 252645135))) := by decide
  rw [e1, em, ab (by omega) (by omega), am _ _ (by omega) (by omega), ab (by omega) (by omega), am _ _ (by omega) (by omega), ab (by omega) (by omega), am _ _ (by omega) (by omega)]
  have e2 : ((a6 + a7) + 16 * a7) &&& (15 + 256 * 252645135) = a6 + a7 := by
    have q := ab (a := (a6 + a7) + 16 * a7) (m := 15) (x := 0) (y := 252645135) (by omega) (by omega)
    rw [am _ _ (by omega) (by omega)] at q
    simpa using q
  rw [e2]
theorem pop_e {s0 s1 s2 s3 : Nat} (h0 : s0 ≤ 8) (h1 : s1 ≤ 8) (h2 : s2 ≤ 8) (h3 : s3 ≤ 8) : ∀ d g h w : Nat, d = s0 + 256 * (s1 + 256 * (s2 + 256 * s3)) → g = d + d / 256 → h = g + g / 65536 → w = h + h / 4294967296 → w % 128 = s0 + s1 + s2 + s3 := by
  intro d g h w e1 e2 e3 e4
  have q1 : d / 256 = s1 + 256 * (s2 + 256 * s3) := by omega
  have q2 : g = (s0 + s1) + 256 * (s1 + s2) + 65536 * ((s2 + s3) + 256 * s3) := by omega
  have q3 : g / 65536 = (s2 + s3) + 256 * s3 := by omega
  have q4 : h = (s0 + s1 + s2 + s3) + 128 * (2 * (s1 + s2 + s3) + 512 * (s2 + s3) + 131072 * s3) := by omega
  have q5 : h < 4294967296 := by omega
  have q6 : h / 4294967296 = 0 := Nat.div_eq_of_lt q5
  have q7 : w = h := by omega
  rw [q7, q4, Nat.add_mul_mod_self_left]
  omega
def fb_sm (f : Nat → Nat) : Nat → Nat
  | 0 => 0
  | n + 1 => fb_sm f n + f n
def cb4 (u : Int → Int) (i : Nat) : Nat := (u (4 * i : Nat)).toNat + 2 * (u (4 * i + 1 : Nat)).toNat + 4 * (u (4 * i + 2 : Nat)).toNat + 8 * (u (4 * i + 3 : Nat)).toNat
theorem cb4_lt {u : Int → Int} (h : ∀ k, 0 ≤ u k ∧ u k ≤ 1) (i : Nat) : cb4 u i < 16 := by
  have h0 := h (4 * i : Nat)
  have h1 := h (4 * i + 1 : Nat)
  have h2 := h (4 * i + 2 : Nat)
  have h3 := h (4 * i + 3 : Nat)
  unfold cb4
  omega
theorem pc4_cb {u : Int → Int} (h : ∀ k, 0 ≤ u k ∧ u k ≤ 1) (i : Nat) : (pc4 (cb4 u i) : Int) = u (4 * i : Nat) + u (4 * i + 1 : Nat) + u (4 * i + 2 : Nat) + u (4 * i + 3 : Nat) := by
  have h0 := h (4 * i : Nat)
  have h1 := h (4 * i + 1 : Nat)
  have h2 := h (4 * i + 2 : Nat)
  have h3 := h (4 * i + 3 : Nat)
  have q := (pc4_ok _ (cb4_lt h i)).1
  rw [q]
  unfold cb4
  omega
theorem nb16_snoc : ∀ (n : Nat) (f : Nat → Nat), nb16 f (n + 1) = nb16 f n + 16 ^ n * f n
  | 0, f => by simp [nb16]
  | n + 1, f => by
    have ih := nb16_snoc n (fun i => f (i + 1))
    rw [nb16, ih, nb16, Nat.pow_succ, Nat.mul_comm (16 ^ n) 16, Nat.mul_assoc]
    omega
theorem csum_nb {u : Int → Int} (h : ∀ k, 0 ≤ u k ∧ u k ≤ 1) : ∀ n : Nat, csum u (4 * n) = (nb16 (cb4 u) n : Int) ∧ sm u (4 * n) = (fb_sm (fun i => pc4 (cb4 u i)) n : Int)
  | 0 => ⟨rfl, rfl⟩
  | n + 1 => by
    have ih := csum_nb h n
    have hc := pc4_cb h n
    have e1 : p2 ((4 * n : Nat) : Int) = ((16 ^ n : Nat) : Int) := by
      rw [p2_nat, Int.toNat_natCast, Nat.pow_mul]
    have e2 := p2_s ((4 * n : Nat) : Int) (by omega)
    have e3 := p2_s ((4 * n + 1 : Nat) : Int) (by omega)
    have e4 := p2_s ((4 * n + 2 : Nat) : Int) (by omega)
    rw [show ((4 * n : Nat) : Int) + 1 = ((4 * n + 1 : Nat) : Int) by omega] at e2
    rw [show ((4 * n + 1 : Nat) : Int) + 1 = ((4 * n + 2 : Nat) : Int) by omega] at e3
    rw [show ((4 * n + 2 : Nat) : Int) + 1 = ((4 * n + 3 : Nat) : Int) by omega] at e4
    have h0 := h (4 * n : Nat)
    have h1 := h (4 * n + 1 : Nat)
    have h2 := h (4 * n + 2 : Nat)
    have h3 := h (4 * n + 3 : Nat)
    rw [show 4 * (n + 1) = 4 * n + 1 + 1 + 1 + 1 by omega]
    refine ⟨?_, ?_⟩
    · rw [csum, csum, csum, csum, ih.1, nb16_snoc, e4, e3, e2, e1]
      have ec : ((16 ^ n * cb4 u n : Nat) : Int) = ((16 ^ n : Nat) : Int) * (u (4 * n : Nat) + 2 * u (4 * n + 1 : Nat) + 4 * u (4 * n + 2 : Nat) + 8 * u (4 * n + 3 : Nat)) := by
        rw [Int.natCast_mul]
        congr 1
        unfold cb4
        omega
      rw [Int.natCast_add (nb16 (cb4 u) n) (16 ^ n * cb4 u n), ec]
      generalize ((16 ^ n : Nat) : Int) = z
      generalize u (4 * n : Nat) = a
      generalize u (4 * n + 1 : Nat) = b
      generalize u (4 * n + 2 : Nat) = c
      generalize u (4 * n + 3 : Nat) = d
      rw [Int.mul_add, Int.mul_add, Int.mul_add, Int.mul_comm a z, Int.mul_comm z (2 * b), Int.mul_comm z (4 * c), Int.mul_comm z (8 * d), Int.mul_left_comm b 2 z, Int.mul_assoc 2 b z, Int.mul_assoc 4 c z, Int.mul_assoc 8 d z, Int.mul_left_comm c 2, Int.mul_left_comm c 2, Int.mul_left_comm d 2, Int.mul_left_comm d 2, Int.mul_left_comm d 2]
      omega
    · rw [sm, sm, sm, sm, ih.2, fb_sm, Int.natCast_add (fb_sm (fun i => pc4 (cb4 u i)) n) (pc4 (cb4 u n)), hc]
      omega
