theorem ex_skip {X : Nat} {t : Int} {Q : Int → Prop} (h : ¬ X.testBit t.toNat = true) : (∃ u : Int, 0 ≤ u ∧ u < t + 1 ∧ X.testBit u.toNat = true ∧ Q u) ↔ ∃ u : Int, 0 ≤ u ∧ u < t ∧ X.testBit u.toNat = true ∧ Q u := by
  constructor
  · rintro ⟨u, u0, u1, hu, hq⟩
    by_cases e : u = t
    · subst e
      exact absurd hu h
    · exact ⟨u, u0, by omega, hu, hq⟩
  · rintro ⟨u, u0, u1, hu, hq⟩
    exact ⟨u, u0, by omega, hu, hq⟩
theorem ex_add {X : Nat} {t : Int} {Q : Int → Prop} (t0 : 0 ≤ t) (h : X.testBit t.toNat = true) : (∃ u : Int, 0 ≤ u ∧ u < t + 1 ∧ X.testBit u.toNat = true ∧ Q u) ↔ (∃ u : Int, 0 ≤ u ∧ u < t ∧ X.testBit u.toNat = true ∧ Q u) ∨ Q t := by
  constructor
  · rintro ⟨u, u0, u1, hu, hq⟩
    by_cases e : u = t
    · subst e
      exact Or.inr hq
    · exact Or.inl ⟨u, u0, by omega, hu, hq⟩
  · rintro (⟨u, u0, u1, hu, hq⟩ | hq)
    · exact ⟨u, u0, by omega, hu, hq⟩
    · exact ⟨t, t0, by omega, h, hq⟩
theorem vo_0 {v b : Int} (hv : 0 ≤ v ∧ v ≤ 3) (hb : 0 ≤ b ∧ b ≤ 1) : vo v b % 2 = 1 ↔ v % 2 = 1 ∨ b = 0 := by
  unfold vo
  split <;> omega
theorem vo_1 {v b : Int} (hv : 0 ≤ v ∧ v ≤ 3) (hb : 0 ≤ b ∧ b ≤ 1) : vo v b / 2 = 1 ↔ v / 2 = 1 ∨ b = 1 := by
  unfold vo
  split <;> omega
theorem vo_le {v b : Int} (hv : 0 ≤ v ∧ v ≤ 3) (hb : 0 ≤ b ∧ b ≤ 1) : 0 ≤ vo v b ∧ vo v b ≤ 3 := by
  unfold vo
  split <;> omega
theorem cb_set {X : Nat} {N : Int} {Wp Q : Int → Prop} (hX : ∀ t : Nat, X.testBit t = true ↔ Wp (t : Int)) (hW : ∀ t, Wp t → 0 ≤ t ∧ t < N) : (∃ u : Int, 0 ≤ u ∧ u < N ∧ X.testBit u.toNat = true ∧ Q u) ↔ ∃ u : Int, Wp u ∧ Q u := by
  constructor
  · rintro ⟨u, u0, u1, hu, hq⟩
    have h := (hX u.toNat).mp hu
    rw [Int.toNat_of_nonneg u0] at h
    exact ⟨u, h, hq⟩
  · rintro ⟨u, hu, hq⟩
    have h := hW u hu
    refine ⟨u, h.1, h.2, (hX u.toNat).mpr ?_, hq⟩
    rw [Int.toNat_of_nonneg h.1]
    exact hu
theorem rB_1 {fm : Int → Int} {S k : Int} (h : -1 ≤ fm k) : rB fm k = 1 ↔ 0 ≤ fm k := by
  unfold rB
  split <;> omega
theorem cb_lt {fm : Int → Int} {mm : Int} (h1 : 1 ≤ mm) (h2 : mm ≤ 5) : (csum (rB fm) (p2 mm).toNat).toNat < 4294967296 := by
  have hp := p2_all h1 h2
  have h := csum_le (rB_le fm) (p2 mm).toNat
  have h3 := p2_mono (a := (((p2 mm).toNat : Nat) : Int)) (b := 32) (by omega) (by omega)
  have h4 : p2 32 = 4294967296 := by decide +kernel
  omega
theorem cb_init {fm fu : Int → Int} {mm S : Int} (h1 : 1 ≤ mm) (h2 : mm ≤ 5) (hme : mtOk fm S) (t : Nat) : (csum (rB fm) (p2 mm).toNat).toNat.testBit t = true ↔ wSt mm S fm fu (S - 1) (t : Int) := by
  have hp := p2_all h1 h2
  have e0 : (S - 1 - (S - 1)).toNat = 0 := by omega
  by_cases ht : t < (p2 mm).toNat
  · rw [csum_tb (rB_le fm) _ t ht, rB_1 (S := S) (hme t (by omega) (by omega)).1]
    constructor
    · intro h
      exact ⟨t, by omega, by omega, h, by rw [e0]; rfl⟩
    · rintro ⟨x, x0, x1, hx, e⟩
      rw [e0] at e
      have e2 : x = (t : Int) := e
      rw [← e2]
      exact hx
  · constructor
    · intro h
      exfalso
      have hc := csum_le (rB_le fm) (p2 mm).toNat
      have e9 := p2_nat (((p2 mm).toNat : Nat) : Int)
      rw [Int.toNat_natCast] at e9
      have hl1 : (csum (rB fm) (p2 mm).toNat).toNat < 2 ^ (p2 mm).toNat := by
        have := hc.2
        generalize 2 ^ (p2 mm).toNat = z at e9
        omega
      have hlt : (csum (rB fm) (p2 mm).toNat).toNat < 2 ^ t := Nat.lt_of_lt_of_le hl1 (Nat.pow_le_pow_right (by omega) (by omega))
      rw [Nat.testBit_lt_two_pow hlt] at h
      cases h
    · rintro ⟨x, x0, x1, hx, e⟩
      rw [e0] at e
      have e2 : x = (t : Int) := e
      omega
section ZTL
variable {p : Program} {l : Launch} {e : Env} {R : Room} {s : State} {m : MethodId} {args : Array Value} {below : List Frame} {meth : Method} {c : Code} {H : Heap} {locs : List Loc} {cells slots : Nat} {Q : State → Prop}
variable {pc : Nat} {ls : Array Slot} {rest : List Value}
theorem z_topL {a b : Int} (h : a = b) (k : W p l e R s m args below meth c H locs cells slots Q (F0 m pc ls (.long (lI b) :: rest))) : W p l e R s m args below meth c H locs cells slots Q (F0 m pc ls (.long (lI a) :: rest)) := by
  subst h
  exact k
end ZTL
