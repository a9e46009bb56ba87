theorem bi_le {mm t : Int} (h1 : 1 ≤ mm) (h2 : mm ≤ 5) (t0 : 0 ≤ t) (t1 : t < p2 mm) : 0 ≤ t / p2 (mm - 1) ∧ t / p2 (mm - 1) ≤ 1 := by
  have hp := p2_all h1 h2
  have hq : 0 < p2 (mm - 1) := by omega
  refine ⟨Int.ediv_nonneg t0 (by omega), ?_⟩
  have h3 : t / p2 (mm - 1) < 2 := Int.ediv_lt_of_lt_mul hq (by omega)
  omega
theorem lo_le {mm t : Int} (h1 : 1 ≤ mm) (h2 : mm ≤ 5) : 0 ≤ 2 * t % p2 mm ∧ 2 * t % p2 mm + 1 < p2 mm := by
  have hp := p2_all h1 h2
  have h3 : 0 ≤ 2 * t % p2 mm := Int.emod_nonneg _ (by omega)
  refine ⟨h3, ?_⟩
  rw [hp.2.2.1, Int.mul_emod_mul_of_pos _ _ (by omega)]
  have h5 := Int.emod_lt_of_pos t (show 0 < p2 (mm - 1) by omega)
  omega
theorem uB_or (oo : Int) (tp fm f : Int → Int) (q mm k : Int) : (uB oo tp fm f q mm k = 1 ∧ nmF oo tp fm f q mm k = vU oo tp fm f q mm k ∧ vU oo tp fm f q mm k ≠ -1 ∧ (vL oo tp fm f q mm k = -1 ∨ vU oo tp fm f q mm k < vL oo tp fm f q mm k)) ∨ (uB oo tp fm f q mm k = 0 ∧ nmF oo tp fm f q mm k = vL oo tp fm f q mm k ∧ ¬ (vU oo tp fm f q mm k ≠ -1 ∧ (vL oo tp fm f q mm k = -1 ∨ vU oo tp fm f q mm k < vL oo tp fm f q mm k))) := by
  unfold uB nmF
  by_cases h : vU oo tp fm f q mm k ≠ -1 ∧ (vL oo tp fm f q mm k = -1 ∨ vU oo tp fm f q mm k < vL oo tp fm f q mm k)
  · exact Or.inl ⟨if_pos h, if_pos h, h⟩
  · exact Or.inr ⟨if_neg h, if_neg h, h⟩
theorem uB_le (oo : Int) (tp fm f : Int → Int) (q mm k : Int) : 0 ≤ uB oo tp fm f q mm k ∧ uB oo tp fm f q mm k ≤ 1 := by
  have h := uB_or oo tp fm f q mm k
  omega
theorem cpZ_0 (f g : Int → Int) : cpZ f g 0 = g := by
  funext k
  exact if_neg (by omega)
theorem cpZ_step (f g : Int → Int) (n : Int) (h : 0 ≤ n) : uZ (cpZ f g n) n (f n) = cpZ f g (n + 1) := by
  funext k
  unfold uZ cpZ
  by_cases e : k = n
  · rw [if_pos e, if_pos (by omega), e]
  · rw [if_neg e]
    by_cases e2 : 0 ≤ k ∧ k < n
    · rw [if_pos e2, if_pos (by omega)]
    · rw [if_neg e2, if_neg (by omega)]
/-- the metrics behind a step, and the word of its choices -/
def mF (oo : Int) (tp fm f : Int → Int) (q mm : Int) : Int → Int := cpZ (nmF oo tp fm f q mm) fm (p2 mm)
def uF (oo : Int) (tp fm f : Int → Int) (q mm : Int) : Int := csum (uB oo tp fm f q mm) (p2 mm).toNat
def nN (d S N : Int) : Int := if d ≤ S + 1 - N then S + 2 - d else N
theorem nN_or (d S N : Int) : (d ≤ S + 1 - N ∧ nN d S N = S + 2 - d) ∨ (S + 1 - N < d ∧ nN d S N = N) := by
  unfold nN
  by_cases h : d ≤ S + 1 - N
  · exact Or.inl ⟨h, if_pos h⟩
  · exact Or.inr ⟨by omega, if_neg h⟩
theorem nmF_le {oo : Int} {tp fm f : Int → Int} {q mm k S : Int} (h1 : 1 ≤ mm) (h2 : mm ≤ 5) (h : 2 ≤ oo ∧ oo ≤ 3) (hm : mtOk fm S) : -1 ≤ nmF oo tp fm f q mm k ∧ nmF oo tp fm f q mm k ≤ 3 * (S + 1) := by
  have hp := p2_all h1 h2
  have hl := lo_le (t := k) h1 h2
  have a1 := mo_le (tp := tp) (f := f) (q := q) (mm := mm) (b := k / p2 (mm - 1)) h hm (x := 2 * k % p2 mm) (by omega) (by omega)
  have a2 := mo_le (tp := tp) (f := f) (q := q) (mm := mm) (b := k / p2 (mm - 1)) h hm (x := 2 * k % p2 mm + 1) (by omega) (by omega)
  have a3 := uB_or oo tp fm f q mm k
  have e1 : vL oo tp fm f q mm k = mo oo tp fm f q mm (2 * k % p2 mm) (k / p2 (mm - 1)) := rfl
  have e2 : vU oo tp fm f q mm k = mo oo tp fm f q mm (2 * k % p2 mm + 1) (k / p2 (mm - 1)) := rfl
  rw [← e1] at a1
  rw [← e2] at a2
  omega
theorem mF_ok {oo : Int} {tp fm f : Int → Int} {q mm S : Int} (h1 : 1 ≤ mm) (h2 : mm ≤ 5) (h : 2 ≤ oo ∧ oo ≤ 3) (hm : mtOk fm S) : mtOk (mF oo tp fm f q mm) (S + 1) := by
  intro k k0 k1
  have a1 := nmF_le (tp := tp) (f := f) (q := q) (k := k) h1 h2 h hm
  have a2 := hm k k0 k1
  unfold mF cpZ
  split <;> omega
theorem uF_le (oo : Int) (tp fm f : Int → Int) (q mm : Int) (h1 : 1 ≤ mm) (h2 : mm ≤ 5) : 0 ≤ uF oo tp fm f q mm ∧ uF oo tp fm f q mm < 4294967296 := by
  have hp := p2_all h1 h2
  have h := csum_le (uB_le oo tp fm f q mm) (p2 mm).toNat
  have h3 := p2_mono (a := (((p2 mm).toNat : Nat) : Int)) (b := 32) (by omega) (by omega)
  have h4 : p2 32 = 4294967296 := by decide +kernel
  unfold uF
  omega
theorem uOk {fu : Int → Int} {S x : Int} (hu : ∀ k : Int, 0 ≤ k → k < 80 → 0 ≤ fu k ∧ fu k < 4294967296) (h : 0 ≤ x ∧ x < 4294967296) : ∀ k : Int, 0 ≤ k → k < 80 → 0 ≤ uZ fu S x k ∧ uZ fu S x k < 4294967296 := by
  intro k k0 k1
  have := hu k k0 k1
  unfold uZ
  split <;> omega
def rB (fm : Int → Int) (k : Int) : Int := if fm k = -1 then 0 else 1
theorem rB_le (fm : Int → Int) (k : Int) : 0 ≤ rB fm k ∧ rB fm k ≤ 1 := by
  unfold rB
  split <;> omega
theorem lI_lN (n : Nat) : lN n = lI (n : Int) := by
  rw [← Int64.toBitVec_inj]
  simp [lN, lI]
theorem lI_nat {a : Int} (h : 0 ≤ a) : lI a = lN a.toNat := by
  rw [lI_lN, Int.toNat_of_nonneg h]
theorem nI_63 : ∀ k : Nat, k < 64 → (nI k).toInt64 &&& 63 = lN k := by decide +kernel
theorem lI_shl {a k : Int} (a0 : 0 ≤ a) (k0 : 0 ≤ k) (k1 : k < 63) (h : a * p2 k < 9223372036854775808) : lI a <<< ((iI k).toInt64 &&& 63) = lI (a * p2 k) := by
  rw [lI_nat a0, iI_nat k0, nI_63 _ (by omega)]
  have hp := p2_nat k
  rw [lI_nat (Int.mul_nonneg a0 (by have := p2_pos k; omega))]
  have e1 : (a * p2 k).toNat = a.toNat * 2 ^ k.toNat := by
    rw [Int.toNat_mul a0 (by have := p2_pos k; omega), hp, Int.toNat_natCast]
  rw [e1, ← Int64.toBitVec_inj]
  apply BitVec.eq_of_toNat_eq
  rw [Int64.toBitVec_shiftLeft]
  have e2 : ((BitVec.ofNat 64 k.toNat).smod 64#64).toNat = k.toNat := by
    have : ∀ j : Nat, j < 63 → ((BitVec.ofNat 64 j).smod 64#64).toNat = j := by decide +kernel
    exact this _ (by omega)
  simp [lN, Nat.shiftLeft_eq]
  rw [e2]
theorem lI_1k {k : Int} (h0 : 0 ≤ k) (h : k < 32) : lI 1 <<< ((iI k).toInt64 &&& 63) = lI (p2 k) := by
  have h1 := p2_31 h0 h
  rw [lI_shl (by omega) h0 (by omega) (by omega), Int.one_mul]
theorem lI_orb {x k : Int} (x0 : 0 ≤ x) (x1 : x < p2 k) (k0 : 0 ≤ k) : lI x ||| lI (p2 k) = lI (x + p2 k) := by
  have hp := p2_pos k
  rw [lI_nat x0, lI_nat (show 0 ≤ p2 k by omega), lI_nat (show 0 ≤ x + p2 k by omega)]
  rw [← Int64.toBitVec_inj]
  have e2 : (p2 k).toNat = 2 ^ k.toNat := by rw [p2_nat, Int.toNat_natCast]
  have e3 : x.toNat < 2 ^ k.toNat := by omega
  have e1 : x.toNat ||| 2 ^ k.toNat = x.toNat + 2 ^ k.toNat := by
    have := Nat.two_pow_add_eq_or_of_lt e3 1
    rw [Nat.mul_one] at this
    rw [Nat.or_comm, ← this]
    omega
  have e4 : (x + p2 k).toNat = x.toNat ||| 2 ^ k.toNat := by omega
  rw [e4, e2]
  show (lN x.toNat).toBitVec ||| (lN (2 ^ k.toNat)).toBitVec = (lN (x.toNat ||| 2 ^ k.toNat)).toBitVec
  simp [lN, BitVec.ofNat_or]
