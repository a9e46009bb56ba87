/-! rings of zeros -/
def zw (mm oo : Int) (tp : Int → Int) (x b : Int) : Int := sm (fun k => sy (tp k) (wn mm x b)) oo.toNat
def nx (mm x b : Int) : Int := wn mm x b / 2
def gz (mm oo : Int) (tp : Int → Int) (X x : Int) : Int := if (zw mm oo tp x 0 = 0 ∧ X / p2 (nx mm x 0) % 2 = 1) ∨ (zw mm oo tp x 1 = 0 ∧ X / p2 (nx mm x 1) % 2 = 1) then 1 else 0
theorem gz_or (mm oo : Int) (tp : Int → Int) (X x : Int) : (gz mm oo tp X x = 1 ∧ ((zw mm oo tp x 0 = 0 ∧ X / p2 (nx mm x 0) % 2 = 1) ∨ (zw mm oo tp x 1 = 0 ∧ X / p2 (nx mm x 1) % 2 = 1))) ∨ (gz mm oo tp X x = 0 ∧ ¬ ((zw mm oo tp x 0 = 0 ∧ X / p2 (nx mm x 0) % 2 = 1) ∨ (zw mm oo tp x 1 = 0 ∧ X / p2 (nx mm x 1) % 2 = 1))) := by
  unfold gz
  by_cases h : (zw mm oo tp x 0 = 0 ∧ X / p2 (nx mm x 0) % 2 = 1) ∨ (zw mm oo tp x 1 = 0 ∧ X / p2 (nx mm x 1) % 2 = 1)
  · exact Or.inl ⟨if_pos h, h⟩
  · exact Or.inr ⟨if_neg h, h⟩
theorem nb_sm0 {f : Int → Int} (h : ∀ k, 0 ≤ f k ∧ f k ≤ 1) : ∀ n : Nat, 0 ≤ nb f n ∧ 0 ≤ sm f n ∧ (nb f n = 0 ↔ sm f n = 0)
  | 0 => ⟨Int.le_refl _, Int.le_refl _, Iff.rfl⟩
  | n + 1 => by
    have ih := nb_sm0 h n
    have hn := h (n : Int)
    rw [nb, sm]
    omega
theorem nx_le {mm x b : Int} (h1 : 1 ≤ mm) (h2 : mm ≤ 5) (s0 : 0 ≤ x) (s1 : x < p2 mm) (b0 : 0 ≤ b) (b1 : b ≤ 1) : 0 ≤ nx mm x b ∧ nx mm x b < p2 mm := wn2_le h1 h2 s0 s1 b0 b1
theorem iI_eqW {a b : Int} (a0 : 0 ≤ a ∧ a < 4294967296) (b0 : 0 ≤ b ∧ b < 4294967296) : iI a = iI b ↔ a = b := by
  constructor
  · intro h
    have e := congrArg (fun z : Int32 => z.toBitVec.toNat) h
    simp [iI, BitVec.toNat_ofInt] at e
    omega
  · intro h
    rw [h]
section ZW
variable {p : Program} {l : Launch} {e : Env} {R : Room} {s : State} {m : MethodId} {args : Array Value} {below : List Frame} {meth : Method} {c : Code} {H : Heap} {locs : List Loc} {cells slots : Nat} {Q : State → Prop} {cc : ByteArray} {nL : Nat} {Ts : List Cond} {own : String}
variable {pc : Nat} {ls : Array Slot} {rest : List Value}
theorem z_icmpW_eq (C : CallFix p m c cc nL s args Ts own) {a b : Int} {off : Int} {tgt : Nat} (hdg : decode cc pc = .ok (.if_icmp .eq off, 3)) (ht : (pc : Int) + off = (tgt : Int)) (r : (0 ≤ a ∧ a < 4294967296) ∧ 0 ≤ b ∧ b < 4294967296)
    (kt : a = b → W p l e R s m args below meth c H locs cells slots Q (F0 m tgt ls rest)) (kf : ¬ a = b → W p l e R s m args below meth c H locs cells slots Q (F0 m (pc + 3) ls rest)) : W p l e R s m args below meth c H locs cells slots Q (F0 m pc ls (.int (iI b) :: .int (iI a) :: rest)) := by
  have e0 := iI_eqW r.1 r.2
  exact lv_icmp_eq C.1 C.2.1 hdg ht (fun h => kt (e0.mp h)) (fun h => kf (fun q => h (e0.mpr q)))
theorem z_ifW_ne (C : CallFix p m c cc nL s args Ts own) {a : Int} {off : Int} {tgt : Nat} (hdg : decode cc pc = .ok (.ifCond .ne off, 3)) (ht : (pc : Int) + off = (tgt : Int)) (r : 0 ≤ a ∧ a < 4294967296)
    (kt : ¬ a = 0 → W p l e R s m args below meth c H locs cells slots Q (F0 m tgt ls rest)) (kf : a = 0 → W p l e R s m args below meth c H locs cells slots Q (F0 m (pc + 3) ls rest)) : W p l e R s m args below meth c H locs cells slots Q (F0 m pc ls (.int (iI a) :: rest)) := by
  have e0 : iI a = iI 0 ↔ a = 0 := iI_eqW r (by omega)
  rw [iI_0] at e0
  exact lv_if_ne C.1 C.2.1 hdg ht (fun h => kt (fun q => h (e0.mpr q))) (fun h => kf (e0.mp h))
end ZW
theorem lI_1N {mm : Int} (h1 : 1 ≤ mm) (h2 : mm ≤ 5) : lI 1 <<< ((iI (p2 mm)).toInt64 &&& 63) = lI (p2 (p2 mm)) := by
  rcases (show mm = 1 ∨ mm = 2 ∨ mm = 3 ∨ mm = 4 ∨ mm = 5 by omega) with rfl | rfl | rfl | rfl | rfl <;> decide +kernel
theorem lI_sub (a b : Int) : lI a - lI b = lI (a - b) := (Int64.ofInt_sub a b).symm
/-- the next set of the class, and its sets round by round -/
def st1 (mm oo : Int) (tp : Int → Int) (X x : Int) : Int := if 1 ≤ x ∧ X / p2 x % 2 = 1 ∧ gz mm oo tp X x = 1 then 1 else 0
def rgN (mm oo : Int) (tp : Int → Int) : Nat → Int
  | 0 => p2 (p2 mm) - 2
  | n + 1 => csum (st1 mm oo tp (rgN mm oo tp n)) (p2 mm).toNat
theorem st1_le (mm oo : Int) (tp : Int → Int) (X x : Int) : 0 ≤ st1 mm oo tp X x ∧ st1 mm oo tp X x ≤ 1 := by
  unfold st1
  split <;> omega
theorem rgN_le {mm oo : Int} {tp : Int → Int} (h1 : 1 ≤ mm) (h2 : mm ≤ 5) : ∀ n : Nat, 0 ≤ rgN mm oo tp n ∧ rgN mm oo tp n < 4294967296
  | 0 => by
    rw [rgN]
    rcases (show mm = 1 ∨ mm = 2 ∨ mm = 3 ∨ mm = 4 ∨ mm = 5 by omega) with rfl | rfl | rfl | rfl | rfl <;> decide +kernel
  | n + 1 => by
    have hp := p2_all h1 h2
    have h := csum_le (st1_le mm oo tp (rgN mm oo tp n)) (p2 mm).toNat
    have h3 := p2_mono (a := (((p2 mm).toNat : Nat) : Int)) (b := 32) (by omega) (by omega)
    have h4 : p2 32 = 4294967296 := by decide +kernel
    rw [rgN]
    omega
theorem rgN_at {mm oo : Int} {tp : Int → Int} {i : Int} (h : 0 ≤ i) : rgN mm oo tp (i + 1).toNat = csum (st1 mm oo tp (rgN mm oo tp i.toNat)) (p2 mm).toNat := by
  rw [show (i + 1).toNat = i.toNat + 1 by omega, rgN]
theorem lg_c0 {a : Int} (h : 0 ≤ a ∧ a < 4294967296) : lg_cmp (lI a) (lI 0) = iI (if a = 0 then 0 else 1) := by
  have e0 : lI a = lI 0 ↔ a = 0 := by
    rw [← Int64.toInt_inj, lI, lI, Int64.toInt_ofInt_of_le (by omega) (by omega), Int64.toInt_ofInt_of_le (by omega) (by omega)]
  have e1 : lI a > lI 0 ↔ 0 < a := by
    show lI 0 < lI a ↔ 0 < a
    rw [Int64.lt_iff_toInt_lt, lI, lI, Int64.toInt_ofInt_of_le (by omega) (by omega), Int64.toInt_ofInt_of_le (by omega) (by omega)]
  unfold lg_cmp
  by_cases h0 : a = 0
  · rw [if_neg (fun q => by have := e1.mp q; omega), if_pos (e0.mpr h0), if_pos h0]
    rfl
  · rw [if_pos (e1.mpr (by omega)), if_neg h0]
    rfl
