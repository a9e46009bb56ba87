theorem bI_01 (P : Prop) [Decidable P] : bI P = 0 ∨ bI P = 1 := by unfold bI; split <;> omega
theorem bI_iff {P Q : Prop} [Decidable P] [Decidable Q] (h : P ↔ Q) : bI P = bI Q := by
  by_cases hp : P
  · rw [bI_t hp, bI_t (h.mp hp)]
  · rw [bI_f hp, bI_f (fun q => hp (h.mpr q))]
def rdSurM (M : Int → Int) (st x : Int) : Int := if ¬ (0 ≤ st ∧ st < p2 (M 0)) then -1 else if x < 0 then -2 else if M (572 + st) < 0 ∨ M 9 ≤ x then -5 else wkB M st (M 9 - 1 - x)
def rdCount (M : Int → Int) (st ty x : Int) : Int :=
  if x = 0 then M 0 else if x = 1 then M 1 else if x = 2 then M 2 else if x = 3 then M 3 else if x = 4 then (if M 1 = 2 then -5 else M 4) else if x = 5 then M 5 else if x = 6 then M 7 else if x = 7 then M 7 * M 1 else if x = 8 then M 6 else if x = 9 then cntE M else if x = 10 then cntF M else if x = 11 then M 9 else if x = 12 then M 10 else if x = 13 then bsc (sl M 572) (p2 (M 0)).toNat else if x = 14 then sl M 572 (bsc (sl M 572) (p2 (M 0)).toNat) else if x = 15 then sm (rB (sl M 572)) (p2 (M 0)).toNat else if x = 16 then M 11 else if x = 17 then st else if x = 18 then ty else -2
theorem bsc_bst {f : Int → Int} {n : Nat} (h : 0 ≤ bst f n) : bst f n = bsc f n := by
  unfold bsc
  rw [if_neg (by omega)]
theorem sdN_0 {M g : Int → Int} (h : sOk M) (n : Nat) (h1 : M 7 + n ≤ 80) (h2 : ∀ k : Int, 0 ≤ k → k < n → 0 ≤ g k ∧ g k ≤ 1) : (sdN M g n) 0 = M 0 := by
  induction n with
  | zero => rfl
  | succ n ih =>
    have hk := sdN_ok h n (by omega) (fun k k0 k1 => h2 k k0 (by omega))
    rw [sdN, sB_low _ _ 0 hk.1.2.2.2.2.1 hk.1.2.1 (by omega) (by omega)]
    exact ih (by omega) (fun k k0 k1 => h2 k k0 (by omega))
