/-! texts, first places, rows written -/
def vc (x : Int) : Int := if x = 48 then 0 else if x = 49 then 1 else if x = 63 then 2 else 3
theorem vc_le (x : Int) : 0 ≤ vc x ∧ vc x ≤ 3 := by unfold vc; split <;> (try split) <;> (try split) <;> omega
def fs (q : Int → Bool) : Nat → Int
  | 0 => -1
  | n + 1 => if 0 ≤ fs q n then fs q n else if q (n : Int) then (n : Int) else -1
theorem fs_no {q : Int → Bool} {i : Int} (h0 : 0 ≤ i) (h : fs q i.toNat = -1) (hq : q i = false) : fs q (i + 1).toNat = -1 := by
  rw [show (i + 1).toNat = i.toNat + 1 by omega, fs, h, Int.toNat_of_nonneg h0, hq]
  simp
theorem fs_yes {q : Int → Bool} {i : Int} (h0 : 0 ≤ i) (h : fs q i.toNat = -1) (hq : q i = true) : fs q (i + 1).toNat = i := by
  rw [show (i + 1).toNat = i.toNat + 1 by omega, fs, h, Int.toNat_of_nonneg h0, hq]
  simp
theorem fs_mono {q : Int → Bool} {n : Nat} (h : 0 ≤ fs q n) : ∀ m : Nat, fs q (n + m) = fs q n
  | 0 => rfl
  | m + 1 => by
    have h1 := fs_mono h m
    rw [show n + (m + 1) = (n + m) + 1 by omega, fs, h1, if_pos h]
theorem fs_at {q : Int → Bool} {i : Int} {n : Nat} (h0 : 0 ≤ i) (h : fs q i.toNat = -1) (hq : q i = true) (hn : i < n) : fs q n = i := by
  have h1 := fs_yes h0 h hq
  have h2 := fs_mono (q := q) (n := (i + 1).toNat) (by omega) (n - (i + 1).toNat)
  rw [show (i + 1).toNat + (n - (i + 1).toNat) = n by omega] at h2
  omega
theorem fs_cong {q q2 : Int → Bool} : ∀ {n : Nat}, (∀ k : Int, 0 ≤ k → k < n → q k = q2 k) → fs q n = fs q2 n
  | 0, _ => rfl
  | n + 1, h => by rw [fs, fs, fs_cong (n := n) (fun k h0 h1 => h k h0 (by omega)), h n (by omega) (by omega)]
theorem fs_le (q : Int → Bool) : ∀ n : Nat, -1 ≤ fs q n ∧ fs q n < n
  | 0 => by simp [fs]
  | n + 1 => by
    have h := fs_le q n
    rw [fs]
    split
    · omega
    · split <;> omega
def ff (f : Int → Int) (n hi : Int) : Int := if n = 0 then 0 else fs (fun k => decide (hi < f k)) n.toNat
def wrS (f : Int → Int) (a n : Int) (v : Int → Int) : Int → Int := fun k => if a ≤ k ∧ k < a + n then v (k - a) else f k
theorem wrS_0 (f : Int → Int) (a : Int) (v : Int → Int) : wrS f a 0 v = f := by
  funext k
  unfold wrS
  rw [if_neg (by omega)]
theorem wrS_step (f : Int → Int) (a n : Int) (v : Int → Int) (h : 0 ≤ n) : uZ (wrS f a n v) (a + n) (v n) = wrS f a (n + 1) v := by
  funext k
  unfold uZ wrS
  by_cases e : k = a + n
  · rw [if_pos e, if_pos (by omega), show k - a = n by omega]
  · rw [if_neg e]
    by_cases e2 : a ≤ k ∧ k < a + n
    · rw [if_pos e2, if_pos (by omega)]
    · rw [if_neg e2, if_neg (by omega)]
def flF (f : Int → Int) (n v : Int) : Int → Int := fun k => if 0 ≤ k ∧ k < n then v else f k
theorem flF_step (f : Int → Int) (n v : Int) (h : 0 ≤ n) : uZ (flF f n v) n v = flF f (n + 1) v := by
  funext k
  unfold uZ flF
  by_cases e : k = n
  · rw [if_pos e, if_pos (by omega)]
  · rw [if_neg e]
    by_cases e2 : 0 ≤ k ∧ k < n
    · rw [if_pos e2, if_pos (by omega)]
    · rw [if_neg e2, if_neg (by omega)]
theorem flF_0 (f : Int → Int) (v : Int) : flF f 0 v = f := by
  funext k
  unfold flF
  rw [if_neg (by omega)]
/-! a step of the reader -/
def mtOk (f : Int → Int) (S : Int) : Prop := ∀ k : Int, 0 ≤ k → k < 32 → -1 ≤ f k ∧ f k ≤ 3 * S
def mo (oo : Int) (tp fm f : Int → Int) (q mm x b : Int) : Int := if fm x = -1 then -1 else fm x + sm (pr1 tp f q (wn mm x b)) oo.toNat
theorem pr1_le (tp f : Int → Int) (q w k : Int) : 0 ≤ pr1 tp f q w k ∧ pr1 tp f q w k ≤ 1 := by
  unfold pr1
  split <;> omega
theorem prS_le (tp f : Int → Int) (q w oo : Int) (h : 2 ≤ oo ∧ oo ≤ 3) : 0 ≤ sm (pr1 tp f q w) oo.toNat ∧ sm (pr1 tp f q w) oo.toNat ≤ 3 := by
  have h1 := sm_le (f := pr1 tp f q w) (n := oo.toNat) (fun k _ _ => pr1_le tp f q w k)
  omega
theorem mo_le {oo : Int} {tp fm f : Int → Int} {q mm x b S : Int} (h : 2 ≤ oo ∧ oo ≤ 3) (hm : mtOk fm S) (x0 : 0 ≤ x) (x1 : x < 32) : -1 ≤ mo oo tp fm f q mm x b ∧ mo oo tp fm f q mm x b ≤ 3 * (S + 1) ∧ (mo oo tp fm f q mm x b = -1 ∨ 0 ≤ mo oo tp fm f q mm x b) := by
  have h1 := prS_le tp f q (wn mm x b) oo h
  have h2 := hm x x0 x1
  unfold mo
  split <;> omega
def vL (oo : Int) (tp fm f : Int → Int) (q mm t : Int) : Int := mo oo tp fm f q mm (2 * t % p2 mm) (t / p2 (mm - 1))
def vU (oo : Int) (tp fm f : Int → Int) (q mm t : Int) : Int := mo oo tp fm f q mm (2 * t % p2 mm + 1) (t / p2 (mm - 1))
def nmF (oo : Int) (tp fm f : Int → Int) (q mm t : Int) : Int := if vU oo tp fm f q mm t ≠ -1 ∧ (vL oo tp fm f q mm t = -1 ∨ vU oo tp fm f q mm t < vL oo tp fm f q mm t) then vU oo tp fm f q mm t else vL oo tp fm f q mm t
def uB (oo : Int) (tp fm f : Int → Int) (q mm t : Int) : Int := if vU oo tp fm f q mm t ≠ -1 ∧ (vL oo tp fm f q mm t = -1 ∨ vU oo tp fm f q mm t < vL oo tp fm f q mm t) then 1 else 0
def csum (u : Int → Int) : Nat → Int
  | 0 => 0
  | n + 1 => csum u n + u (n : Int) * p2 (n : Int)
theorem csum_le {u : Int → Int} (h : ∀ k, 0 ≤ u k ∧ u k ≤ 1) : ∀ n : Nat, 0 ≤ csum u n ∧ csum u n < p2 (n : Int)
  | 0 => by simp [csum, p2]
  | n + 1 => by
    have h1 := csum_le h n
    have h2 := p2_s (n : Int) (by omega)
    have h3 := h (n : Int)
    rw [csum, show ((n + 1 : Nat) : Int) = (n : Int) + 1 by omega, h2]
    rcases (show u (n : Int) = 0 ∨ u (n : Int) = 1 by omega) with e | e <;> rw [e] <;> omega
theorem csum_at (u : Int → Int) {i : Int} (h : 0 ≤ i) : csum u (i + 1).toNat = csum u i.toNat + u i * p2 i := by
  rw [show (i + 1).toNat = i.toNat + 1 by omega, csum, Int.toNat_of_nonneg h]
theorem csum_bit {u : Int → Int} (h : ∀ k, 0 ≤ u k ∧ u k ≤ 1) {t : Int} (t0 : 0 ≤ t) : ∀ n : Nat, t < n → csum u n / p2 t % 2 = u t
  | 0, hn => by omega
  | n + 1, hn => by
    have hp := p2_pos t
    have h1 := csum_le h n
    rw [csum]
    by_cases e : t = n
    · subst e
      rw [Int.add_mul_ediv_right _ _ (by omega), Int.ediv_eq_zero_of_lt h1.1 h1.2]
      have h3 := h (n : Int)
      omega
    · have ih := csum_bit h t0 n (by omega)
      have e2 : p2 (n : Int) = p2 t * (2 * p2 (n - 1 - t)) := by
        have a1 := p2_add (a := t) (b := n - t) t0 (by omega)
        have a2 := p2_s (n - 1 - t) (by omega)
        rw [show t + ((n : Int) - t) = n by omega] at a1
        rw [show (n : Int) - 1 - t + 1 = n - t by omega] at a2
        rw [a1, a2]
      rw [e2, show u (n : Int) * (p2 t * (2 * p2 (n - 1 - t))) = p2 t * (2 * (u n * p2 (n - 1 - t))) by
        rw [Int.mul_left_comm, Int.mul_left_comm (u (n : Int)) 2], Int.add_mul_ediv_left _ _ (by omega)]
      omega
theorem p2_mono {a b : Int} (h0 : 0 ≤ a) (h : a ≤ b) : p2 a ≤ p2 b := by
  have h1 := p2_add (a := a) (b := b - a) h0 (by omega)
  rw [show a + (b - a) = b by omega] at h1
  have h2 := p2_pos a
  have h3 := p2_pos (b - a)
  rw [h1]
  have h4 : p2 a * 1 ≤ p2 a * p2 (b - a) := Int.mul_le_mul_of_nonneg_left (by omega) (by omega)
  omega
theorem p2_31 {k : Int} (h0 : 0 ≤ k) (h : k < 32) : p2 k ≤ 2147483648 := by
  have h1 := p2_mono h0 (show k ≤ 31 by omega)
  have h2 : p2 31 = 2147483648 := by decide +kernel
  omega
theorem iI_1k {k : Int} (h0 : 0 ≤ k) (h : k < 32) : iI 1 <<< (iI k &&& 31) = iI (p2 k) := by
  have h1 := p2_31 h0 h
  rw [iI_shl (by omega) h0 h (by omega), Int.one_mul]
theorem iI_orb {x k : Int} (x0 : 0 ≤ x) (x1 : x < p2 k) (k0 : 0 ≤ k) : iI x ||| iI (p2 k) = iI (x + p2 k) := by
  have hp := p2_pos k
  rw [iI_nat x0, iI_nat (show 0 ≤ p2 k by omega), iI_nat (show 0 ≤ x + p2 k by omega)]
  rw [← Int32.toBitVec_inj]
  have e2 : (p2 k).toNat = 2 ^ k.toNat := by rw [p2_nat, Int.toNat_natCast]
  have e3 : x.toNat < 2 ^ k.toNat := by omega
  have e1 : x.toNat ||| 2 ^ k.toNat = x.toNat + 2 ^ k.toNat := by
    have := Nat.two_pow_add_eq_or_of_lt e3 1
    rw [Nat.mul_one] at this
    rw [Nat.or_comm, ← this]
    omega
  have e4 : (x + p2 k).toNat = x.toNat ||| 2 ^ k.toNat := by omega
  rw [e4, e2]
  show (nI x.toNat).toBitVec ||| (nI (2 ^ k.toNat)).toBitVec = (nI (x.toNat ||| 2 ^ k.toNat)).toBitVec
  simp [nI, BitVec.ofNat_or]
/-- the least metric, of several the lowest state; -1 if there is none -/
def bst (f : Int → Int) : Nat → Int
  | 0 => -1
  | n + 1 => if 0 ≤ f (n : Int) ∧ (bst f n < 0 ∨ f (n : Int) < f (bst f n)) then (n : Int) else bst f n
def bsc (f : Int → Int) (n : Nat) : Int := if bst f n < 0 then 0 else bst f n
theorem bst_le (f : Int → Int) : ∀ n : Nat, -1 ≤ bst f n ∧ bst f n < n ∧ (0 ≤ bst f n → 0 ≤ f (bst f n)) ∧ (bst f n < 0 → ∀ k : Int, 0 ≤ k → k < n → f k < 0)
  | 0 => ⟨by simp [bst], by simp [bst], by simp [bst], fun _ k h0 h1 => by omega⟩
  | n + 1 => by
    have ih := bst_le f n
    rw [bst]
    split
    · rename_i h
      exact ⟨by omega, by omega, fun _ => h.1, fun h2 => by omega⟩
    · rename_i h
      refine ⟨ih.1, by omega, ih.2.2.1, fun h2 k h0 h1 => ?_⟩
      by_cases e : k = n
      · subst e
        omega
      · exact ih.2.2.2 h2 k h0 (by omega)
theorem bsc_step {f : Int → Int} {i : Int} (h0 : 1 ≤ i) : bsc f (i + 1).toNat = if 0 ≤ f i ∧ (f (bsc f i.toNat) < 0 ∨ f i < f (bsc f i.toNat)) then i else bsc f i.toNat := by
  have h := bst_le f i.toNat
  have e : bst f (i + 1).toNat = if 0 ≤ f i ∧ (bst f i.toNat < 0 ∨ f i < f (bst f i.toNat)) then i else bst f i.toNat := by
    rw [show (i + 1).toNat = i.toNat + 1 by omega, bst, Int.toNat_of_nonneg (by omega)]
  unfold bsc
  rw [e]
  generalize bst f i.toNat = b at h
  by_cases hb : b < 0
  · have h2 := h.2.2.2 hb 0 (by omega) (by omega)
    have e1 : (if b < 0 then (0 : Int) else b) = 0 := if_pos hb
    rw [e1]
    by_cases h3 : 0 ≤ f i
    · have e2 : 0 ≤ f i ∧ (b < 0 ∨ f i < f b) := ⟨h3, Or.inl hb⟩
      have e3 : 0 ≤ f i ∧ (f 0 < 0 ∨ f i < f 0) := ⟨h3, Or.inl h2⟩
      rw [if_pos e2, if_pos e3, if_neg (by omega)]
    · have e2 : ¬ (0 ≤ f i ∧ (b < 0 ∨ f i < f b)) := fun q => h3 q.1
      have e3 : ¬ (0 ≤ f i ∧ (f 0 < 0 ∨ f i < f 0)) := fun q => h3 q.1
      rw [if_neg e2, if_neg e3, if_pos hb]
  · have h2 := h.2.2.1 (by omega)
    have e1 : (if b < 0 then (0 : Int) else b) = b := if_neg hb
    rw [e1]
    by_cases h3 : 0 ≤ f i ∧ f i < f b
    · have e2 : 0 ≤ f i ∧ (b < 0 ∨ f i < f b) := ⟨h3.1, Or.inr h3.2⟩
      have e3 : 0 ≤ f i ∧ (f b < 0 ∨ f i < f b) := ⟨h3.1, Or.inr h3.2⟩
      rw [if_pos e2, if_pos e3, if_neg (by omega)]
    · have e2 : ¬ (0 ≤ f i ∧ (b < 0 ∨ f i < f b)) := by omega
      have e3 : ¬ (0 ≤ f i ∧ (f b < 0 ∨ f i < f b)) := by omega
      rw [if_neg e2, if_neg e3, if_neg hb]
theorem bsc_le (f : Int → Int) {n : Nat} (h : 0 < n) : 0 ≤ bsc f n ∧ bsc f n < n := by
  have h1 := bst_le f n
  unfold bsc
  split <;> omega
theorem bsc_1 (f : Int → Int) : bsc f 1 = 0 := by
  unfold bsc bst bst
  simp
  split <;> simp_all
