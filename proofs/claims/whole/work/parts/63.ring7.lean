/-! a bit taken out of a word -/
theorem tb_Z (X i : Nat) : X.testBit i = decide ((X : Int) / p2 (i : Int) % 2 = 1) := by
  rw [Nat.testBit_eq_decide_div_mod_eq]
  have e : (X : Int) / p2 (i : Int) = ((X / 2 ^ i : Nat) : Int) := by
    rw [p2_nat, Int.toNat_natCast]
    norm_cast
  rw [e]
  exact decide_eq_decide.mpr (by omega)
theorem bw_out {X k : Nat} (hk : k < 32) (hb : (X : Int) / p2 (k : Int) % 2 = 1) (hle : 2 ^ k ≤ X) : BitVec.ofNat 32 X &&& ~~~ (BitVec.ofNat 32 (2 ^ k)) = BitVec.ofNat 32 (X - 2 ^ k) := by
  apply BitVec.eq_of_getLsbD_eq
  intro i hi
  have e : ((X - 2 ^ k : Nat) : Int) = (X : Int) - p2 (k : Int) := by
    rw [p2_nat, Int.toNat_natCast]
    omega
  rw [BitVec.getLsbD_and, BitVec.getLsbD_not, BitVec.getLsbD_ofNat, BitVec.getLsbD_ofNat, BitVec.getLsbD_ofNat, Nat.testBit_two_pow, tb_Z X i, tb_Z (X - 2 ^ k) i, e]
  by_cases q : k = i
  · subst q
    have h := bd_same hb
    simp [h, hi]
  · have h := bd_ne (s := (i : Int)) (by omega) (by omega) (by omega) hb
    rw [h]
    simp [hi, q]
theorem iI_xorm {k : Int} (k0 : 0 ≤ k) (k1 : k < 32) : iI (p2 k) ^^^ iI (-1) = iI (-1 - p2 k) := by
  have h : ∀ j : Fin 32, iI (p2 ((j : Nat) : Int)) ^^^ iI (-1) = iI (-1 - p2 ((j : Nat) : Int)) := by decide +kernel
  have e := h ⟨k.toNat, by omega⟩
  rw [show ((k.toNat : Nat) : Int) = k by omega] at e
  exact e
theorem iI_notm {k : Int} (k0 : 0 ≤ k) (k1 : k < 32) : (iI (-1 - p2 k)).toBitVec = ~~~ (BitVec.ofNat 32 (2 ^ k.toNat)) := by
  have h : ∀ j : Fin 32, (iI (-1 - p2 ((j : Nat) : Int))).toBitVec = ~~~ (BitVec.ofNat 32 (2 ^ (j : Nat))) := by decide +kernel
  have e := h ⟨k.toNat, by omega⟩
  rw [show ((k.toNat : Nat) : Int) = k by omega] at e
  exact e
theorem iI_outm {x k : Int} (x0 : 0 ≤ x) (k0 : 0 ≤ k) (k1 : k < 32) (hb : x / p2 k % 2 = 1) : iI x &&& iI (-1 - p2 k) = iI (x - p2 k) := by
  have hp := p2_pos k
  have hle : p2 k ≤ x := by
    rcases Int.lt_or_le x (p2 k) with q | q
    · rw [Int.ediv_eq_zero_of_lt x0 q] at hb
      omega
    · exact q
  have en := p2_nat k
  have hle2 : 2 ^ k.toNat ≤ x.toNat := by omega
  have e := bw_out (X := x.toNat) (k := k.toNat) (by omega) (by rw [Int.toNat_of_nonneg x0, Int.toNat_of_nonneg k0]; exact hb) hle2
  have w : ∀ z : Int, 0 ≤ z → (iI z).toBitVec = BitVec.ofNat 32 z.toNat := fun z z0 => by
    obtain ⟨n, rfl⟩ := Int.eq_ofNat_of_zero_le z0
    simp [iI]
  apply Int32.toBitVec_inj.mp
  rw [Int32.toBitVec_and, w x x0, iI_notm k0 k1, e, w (x - p2 k) (by omega)]
  congr 1
  omega
theorem rO_init {mm oo : Int} {tp : Int → Int} (h1 : 1 ≤ mm) (h2 : mm ≤ 5) : rO mm oo tp (p2 (p2 mm) - 2) 0 := by
  have hp := p2_all h1 h2
  have e := p2_mono (a := 2) (b := p2 mm) (by omega) (by omega)
  have e4 : p2 2 = 4 := rfl
  have e2 := p2_even (k := p2 mm) (by omega)
  exact ⟨⟨by omega, by omega⟩, by omega, fun W hW => rg_sub h1 h2 hW 0, fun q => by omega⟩
