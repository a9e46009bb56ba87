/-! what the code's symbols are -/
def par6 (n : Nat) : Int := (((n + n / 2 + n / 4 + n / 8 + n / 16 + n / 32) % 2 : Nat) : Int)
def sy (t w : Int) : Int := par6 (t.toNat &&& w.toNat)
def sm (f : Int → Int) : Nat → Int
  | 0 => 0
  | n + 1 => sm f n + f (n : Int)
def nb (f : Int → Int) : Nat → Int
  | 0 => 0
  | n + 1 => 2 * nb f n + f (n : Int)
def oT (t : Int) : Int := if t = 0 then 2 else 3
def wn (mm st b : Int) : Int := b * p2 mm + st
def tpOk (tp : Int → Int) : Prop := ∀ k : Int, 0 ≤ k → k < 3 → 0 ≤ tp k ∧ tp k < 64
theorem par6_le (n : Nat) : 0 ≤ par6 n ∧ par6 n ≤ 1 := by unfold par6; omega
theorem sy_le (t w : Int) : 0 ≤ sy t w ∧ sy t w ≤ 1 := par6_le _
theorem oT_le (t : Int) : 2 ≤ oT t ∧ oT t ≤ 3 := by unfold oT; split <;> omega
theorem p2_0 : p2 0 = 1 := rfl
theorem p2_1 : p2 1 = 2 := rfl
theorem p2_2 : p2 2 = 4 := rfl
theorem p2_3 : p2 3 = 8 := rfl
theorem p2_4 : p2 4 = 16 := rfl
theorem p2_5 : p2 5 = 32 := rfl
theorem p2_all {mm : Int} (h1 : 1 ≤ mm) (h2 : mm ≤ 5) : 2 ≤ p2 mm ∧ p2 mm ≤ 32 ∧ p2 mm = 2 * p2 (mm - 1) ∧ 1 ≤ p2 (mm - 1) := by
  rcases (show mm = 1 ∨ mm = 2 ∨ mm = 3 ∨ mm = 4 ∨ mm = 5 by omega) with rfl | rfl | rfl | rfl | rfl <;> decide
theorem wn_le {mm st b : Int} (h1 : 1 ≤ mm) (h2 : mm ≤ 5) (s0 : 0 ≤ st) (s1 : st < p2 mm) (b0 : 0 ≤ b) (b1 : b ≤ 1) : 0 ≤ wn mm st b ∧ wn mm st b < 2 * p2 mm ∧ wn mm st b < 64 := by
  have h := p2_all h1 h2
  unfold wn
  rcases (show b = 0 ∨ b = 1 by omega) with rfl | rfl <;> omega
theorem iI_1shl {mm : Int} (h1 : 1 ≤ mm) (h2 : mm ≤ 5) : iI 1 <<< (iI mm &&& 31) = iI (p2 mm) := by
  have h := p2_all h1 h2
  have e := iI_shl (a := 1) (k := mm) (by omega) (by omega) (by omega) (by omega)
  rw [e, Int.one_mul]
theorem iI_bshl {mm b : Int} (h1 : 1 ≤ mm) (h2 : mm ≤ 5) (b0 : 0 ≤ b) (b1 : b ≤ 1) : iI b <<< (iI mm &&& 31) = iI (b * p2 mm) := by
  have h := p2_all h1 h2
  have hb : b * p2 mm ≤ 32 := by rcases (show b = 0 ∨ b = 1 by omega) with rfl | rfl <;> omega
  exact iI_shl b0 (by omega) (by omega) (by omega)
theorem iI_mask {mm a : Int} (h1 : 1 ≤ mm) (h2 : mm ≤ 5) (a0 : 0 ≤ a) (a1 : a < 2147483648) : iI a &&& iI (p2 mm - 1) = iI (a % p2 mm) := by
  have h := p2_all h1 h2
  have hk : (iI (p2 mm - 1)).toBitVec.toNat = 2 ^ mm.toNat - 1 := by
    rcases (show mm = 1 ∨ mm = 2 ∨ mm = 3 ∨ mm = 4 ∨ mm = 5 by omega) with rfl | rfl | rfl | rfl | rfl <;> decide +kernel
  have e := pk_andN (n := a.toNat) (by omega) (m := iI (p2 mm - 1)) mm.toNat hk
  rw [iI_nat a0, e, iI_nI]
  congr 1
  rw [Int.natCast_emod, Int.toNat_of_nonneg a0, p2]
  norm_cast
theorem iI_and1 {a : Int} (a0 : 0 ≤ a) (a1 : a < 2147483648) : iI a &&& iI 1 = iI (a % 2) := iI_mask (mm := 1) (by omega) (by omega) a0 a1
theorem iI_land {a b : Int} (a0 : 0 ≤ a) (b0 : 0 ≤ b) : iI a &&& iI b = iI ((a.toNat &&& b.toNat : Nat) : Int) := by
  rw [iI_nat a0, iI_nat b0, ← iI_nI, ← Int32.toBitVec_inj]
  apply BitVec.eq_of_toNat_eq
  simp [nI, Nat.and_mod_two_pow]
theorem land_lt {a b : Int} (a0 : 0 ≤ a) (a1 : a < 64) : (a.toNat &&& b.toNat) < 64 := Nat.lt_of_le_of_lt Nat.and_le_left (by omega)
theorem sm_cong {f g : Int → Int} : ∀ {n : Nat}, (∀ k : Int, 0 ≤ k → k < n → f k = g k) → sm f n = sm g n
  | 0, _ => rfl
  | n + 1, h => by
    rw [sm, sm, sm_cong (n := n) (fun k h0 h1 => h k h0 (by omega)), h n (by omega) (by omega)]
theorem sm_le {f : Int → Int} : ∀ {n : Nat}, (∀ k : Int, 0 ≤ k → k < n → 0 ≤ f k ∧ f k ≤ 1) → 0 ≤ sm f n ∧ sm f n ≤ n
  | 0, _ => by simp [sm]
  | n + 1, h => by
    have h1 := sm_le (f := f) (n := n) (fun k h0 h1 => h k h0 (by omega))
    have h2 := h n (by omega) (by omega)
    rw [sm]
    omega
theorem nb_le {f : Int → Int} : ∀ {n : Nat}, (∀ k : Int, 0 ≤ k → k < n → 0 ≤ f k ∧ f k ≤ 1) → n ≤ 3 → 0 ≤ nb f n ∧ nb f n ≤ 7
  | 0, _, _ => by simp [nb]
  | 1, h, _ => by
    have h0 := h 0 (by omega) (by omega)
    simp [nb]
    omega
  | 2, h, _ => by
    have h0 := h 0 (by omega) (by omega)
    have h1 := h 1 (by omega) (by omega)
    simp [nb]
    omega
  | 3, h, _ => by
    have h0 := h 0 (by omega) (by omega)
    have h1 := h 1 (by omega) (by omega)
    have h2 := h 2 (by omega) (by omega)
    simp [nb]
    omega
theorem sm_at (f : Int → Int) {i : Int} (h : 0 ≤ i) : sm f (i + 1).toNat = sm f i.toNat + f i := by
  rw [show (i + 1).toNat = i.toNat + 1 by omega, sm, Int.toNat_of_nonneg h]
theorem nb_at (f : Int → Int) {i : Int} (h : 0 ≤ i) : nb f (i + 1).toNat = 2 * nb f i.toNat + f i := by
  rw [show (i + 1).toNat = i.toNat + 1 by omega, nb, Int.toNat_of_nonneg h]
def pop6 (n : Int) : Int := n % 2 + n / 2 % 2 + n / 4 % 2 + n / 8 % 2 + n / 16 % 2 + n / 32 % 2
theorem pop6_nb {f : Int → Int} {n : Nat} (h : ∀ k : Int, 0 ≤ k → k < n → 0 ≤ f k ∧ f k ≤ 1) (hn : n ≤ 3) : pop6 (nb f n) = sm f n := by
  match n, hn with
  | 0, _ => rfl
  | 1, _ =>
    have h0 := h 0 (by omega) (by omega)
    simp [nb, sm, pop6]
    omega
  | 2, _ =>
    have h0 := h 0 (by omega) (by omega)
    have h1 := h 1 (by omega) (by omega)
    simp [nb, sm, pop6]
    omega
  | 3, _ =>
    have h0 := h 0 (by omega) (by omega)
    have h1 := h 1 (by omega) (by omega)
    have h2 := h 2 (by omega) (by omega)
    simp [nb, sm, pop6]
    omega
theorem pop6_par (n : Nat) (h : n < 64) : pop6 (n : Int) % 2 = par6 n := by
  unfold pop6 par6
  omega
def ib (x : Int32) : Int32 :=
  let a := x - ((x.toUInt32 >>> ((iI 1).toUInt32 &&& Int32.toUInt32 31)).toInt32 &&& 1431655765)
  let b := (a &&& 858993459) + ((a.toUInt32 >>> ((iI 2).toUInt32 &&& Int32.toUInt32 31)).toInt32 &&& 858993459)
  let d := (b + (b.toUInt32 >>> ((iI 4).toUInt32 &&& Int32.toUInt32 31)).toInt32) &&& 252645135
  let g := d + (d.toUInt32 >>> ((iI 8).toUInt32 &&& Int32.toUInt32 31)).toInt32
  let h := g + (g.toUInt32 >>> ((iI 16).toUInt32 &&& Int32.toUInt32 31)).toInt32
  h &&& iI 63
theorem ib_64 : ∀ n : Nat, n < 64 → ib (nI n) = iI (pop6 (n : Int)) := by decide +kernel
theorem ib_pop {a : Int} (h0 : 0 ≤ a) (h1 : a < 64) : ib (iI a) = iI (pop6 a) := by
  rw [iI_nat h0, ib_64 a.toNat (by omega), Int.toNat_of_nonneg h0]
def pr1 (tp f : Int → Int) (q w k : Int) : Int := if f (q + k) = 2 ∨ f (q + k) = sy (tp k) w then 0 else 1
def rwOk (f : Int → Int) (n : Nat) : Prop := ∀ k : Int, 0 ≤ k → k < n → 0 ≤ f k ∧ f k ≤ 3
