theorem pf_ushr {a d : Nat} {D : UInt64} (hD : D.toNat % 64 = d) (h : a < 2 ^ 62) : ((lN a).toUInt64 >>> D).toInt64 = lN (a / 2 ^ d) := by
  have hd : a / 2 ^ d ≤ a := Nat.div_le_self _ _
  have e : (lN a).toUInt64 >>> D = UInt64.ofNat (a / 2 ^ d) := UInt64.toNat_inj.mp (by
    rw [UInt64.toNat_shiftRight, hD, Nat.shiftRight_eq_div_pow, UInt64.toNat_ofNat']
    show (UInt64.ofNat a).toNat / 2 ^ d = _
    rw [UInt64.toNat_ofNat', Nat.mod_eq_of_lt (by omega), Nat.mod_eq_of_lt (by omega)])
  rw [e]
  rfl
theorem lI_ushr {X d n : Nat} {k : Int} (hk : ((iI k).toInt64.toUInt64 &&& Int64.toUInt64 63).toNat % 64 = d) (hn : 2 ^ d = n) (h : X < 4611686018427387904) : ((lI (X : Int)).toUInt64 >>> ((iI k).toInt64.toUInt64 &&& Int64.toUInt64 63)).toInt64 = lI ((X / n : Nat) : Int) := by
  rw [← lI_lN, pf_ushr hk h, hn, lI_lN]
theorem lI_andN {X m : Nat} {z : Int} (hz : lI z = lN m) : lI (X : Int) &&& lI z = lI ((X &&& m : Nat) : Int) := by
  rw [← lI_lN, hz, fb_andL, lI_lN]
theorem lI_addN (X Y : Nat) : lI (X : Int) + lI (Y : Int) = lI ((X + Y : Nat) : Int) := by
  rw [← lI_lN, ← lI_lN, lN_add, lI_lN]
theorem lI_subN {X Y : Nat} (h : Y ≤ X) : lI (X : Int) - lI (Y : Int) = lI ((X - Y : Nat) : Int) := by
  rw [← lI_lN, ← lI_lN, lN_sub h, lI_lN]
def pm5 : Nat := nb16 (fun _ => 5) 16
def pm3 : Nat := nb16 (fun _ => 3) 16
theorem pm5_ok : lI 6148914691236517205 = lN pm5 := by decide +kernel
theorem pm3_ok : lI 3689348814741910323 = lN pm3 := by decide +kernel
theorem pm15_ok : lI 1085102592571150095 = lN 1085102592571150095 := by decide +kernel
def pA (X : Nat) : Nat := X - (X / 2 &&& pm5)
def pB (X : Nat) : Nat := (pA X &&& pm3) + (pA X / 4 &&& pm3)
def pD (X : Nat) : Nat := (pB X + pB X / 16) &&& 1085102592571150095
def pG (X : Nat) : Nat := pD X + pD X / 256
def pH (X : Nat) : Nat := pG X + pG X / 65536
def pW (X : Nat) : Nat := pH X + pH X / 4294967296
theorem csum_ext {u : Int → Int} (n : Nat) : ∀ m : Nat, csum (fun k => if k < (n : Int) then u k else 0) m = csum u (if m < n then m else n) ∧ sm (fun k => if k < (n : Int) then u k else 0) m = sm u (if m < n then m else n)
  | 0 => by
    by_cases h : 0 < n
    · rw [if_pos h]; exact ⟨rfl, rfl⟩
    · have : n = 0 := by omega
      subst this
      exact ⟨rfl, rfl⟩
  | m + 1 => by
    have ih := csum_ext (u := u) n m
    rw [csum, sm, ih.1, ih.2]
    by_cases h : m < n
    · rw [if_pos h, if_pos (show (m : Int) < n by omega)]
      by_cases h2 : m + 1 < n
      · rw [if_pos h2]; exact ⟨rfl, rfl⟩
      · rw [if_neg h2, show n = m + 1 by omega]; exact ⟨rfl, rfl⟩
    · rw [if_neg h, if_neg (show ¬ (m : Int) < n by omega), if_neg (show ¬ m + 1 < n by omega)]
      exact ⟨by omega, by omega⟩
theorem pop_fin {a0 a1 a2 a3 a4 a5 a6 a7 d g h w : Nat} (c0 : a0 ≤ 4) (c1 : a1 ≤ 4) (c2 : a2 ≤ 4) (c3 : a3 ≤ 4) (c4 : a4 ≤ 4) (c5 : a5 ≤ 4) (c6 : a6 ≤ 4) (c7 : a7 ≤ 4) (hd : d = (a0 + a1) + 256 * ((a2 + a3) + 256 * ((a4 + a5) + 256 * (a6 + a7)))) (hg : g = d + d / 256) (hh : h = g + g / 65536) (hw : w = h + h / 4294967296) : w % 128 = a0 + a1 + a2 + a3 + a4 + a5 + a6 + a7 ∧ d < 4294967296 ∧ g < 8589934592 ∧ h < 17179869184 ∧ w < 2147483648 := by
  have hW := pop_e (s0 := a0 + a1) (s1 := a2 + a3) (s2 := a4 + a5) (s3 := a6 + a7) (by omega) (by omega) (by omega) (by omega) d g h w hd hg hh hw
  have hd2 : d < 268435456 := by omega
  clear hd
  have hg2 : g < 270532608 := by omega
  clear hg
  have hh2 : h < 270600000 := by omega
  clear hh
  have hh3 : h / 4294967296 = 0 := Nat.div_eq_of_lt (by omega)
  rw [hh3] at hw
  exact ⟨by omega, by omega, by omega, by omega, by omega⟩
theorem pop_Bx {f : Nat → Nat} (hl : ∀ i, f i < 16) : pB (nb16 f 8) = nb16 (fun i => pc4 (f i)) 8 := by
  unfold pB pA pm5 pm3
  exact pop_b (by omega) hl
theorem nb16_8 (g : Nat → Nat) : nb16 g 8 = g 0 + 16 * (g 1 + 16 * (g 2 + 16 * (g 3 + 16 * (g 4 + 16 * (g 5 + 16 * (g 6 + 16 * g 7)))))) := by
  simp only [nb16, Nat.mul_zero, Nat.add_zero, Nat.zero_add, Nat.reduceAdd]
theorem pop_Dx {f : Nat → Nat} (hl : ∀ i, f i < 16) : pD (nb16 f 8) = (pc4 (f 0) + pc4 (f 1)) + 256 * ((pc4 (f 2) + pc4 (f 3)) + 256 * ((pc4 (f 4) + pc4 (f 5)) + 256 * (pc4 (f 6) + pc4 (f 7)))) := by
  have c := fun i => (pc4_ok _ (hl i)).2.1
  unfold pD
  exact pop_d (c 0) (c 1) (c 2) (c 3) (c 4) (c 5) (c 6) (c 7) _ ((pop_Bx hl).trans (nb16_8 _))
theorem pop_Wx {f : Nat → Nat} (hl : ∀ i, f i < 16) : pW (nb16 f 8) % 128 = pc4 (f 0) + pc4 (f 1) + pc4 (f 2) + pc4 (f 3) + pc4 (f 4) + pc4 (f 5) + pc4 (f 6) + pc4 (f 7) ∧ pD (nb16 f 8) < 4294967296 ∧ pG (nb16 f 8) < 8589934592 ∧ pH (nb16 f 8) < 17179869184 ∧ pW (nb16 f 8) < 2147483648 := by
  have c := fun i => (pc4_ok _ (hl i)).2.1
  exact pop_fin (c 0) (c 1) (c 2) (c 3) (c 4) (c 5) (c 6) (c 7) (pop_Dx hl) (by unfold pG; rfl) (by unfold pH; rfl) (by unfold pW; rfl)
theorem fb_sm8 (g : Nat → Nat) : fb_sm g 8 = g 0 + g 1 + g 2 + g 3 + g 4 + g 5 + g 6 + g 7 := by
  simp only [fb_sm, Nat.zero_add]
theorem pop_Bl {f : Nat → Nat} (hl : ∀ i, f i < 16) : pB (nb16 f 8) < 4294967296 := by
  rw [pop_Bx hl, nb16_8]
  have c0 := (pc4_ok _ (hl 0)).2.1
  have c1 := (pc4_ok _ (hl 1)).2.1
  have c2 := (pc4_ok _ (hl 2)).2.1
  have c3 := (pc4_ok _ (hl 3)).2.1
  have c4 := (pc4_ok _ (hl 4)).2.1
  have c5 := (pc4_ok _ (hl 5)).2.1
  have c6 := (pc4_ok _ (hl 6)).2.1
  have c7 := (pc4_ok _ (hl 7)).2.1
  omega
theorem pop_all {u : Int → Int} (h : ∀ k, 0 ≤ u k ∧ u k ≤ 1) {n : Nat} (hn : n ≤ 32) : ((pW (csum u n).toNat % 128 : Nat) : Int) = sm u n ∧ (csum u n).toNat < 4294967296 ∧ pA (csum u n).toNat < 4294967296 ∧ pB (csum u n).toNat < 4294967296 ∧ pD (csum u n).toNat < 4294967296 ∧ pG (csum u n).toNat < 8589934592 ∧ pH (csum u n).toNat < 17179869184 ∧ pW (csum u n).toNat < 2147483648 := by
  have hx := csum_ext (u := u) n 32
  rw [if_neg (show ¬ 32 < n by omega)] at hx
  have hu2 : ∀ k, 0 ≤ (fun k : Int => if k < (n : Int) then u k else 0) k ∧ (fun k : Int => if k < (n : Int) then u k else 0) k ≤ 1 := by
    intro k
    have := h k
    show 0 ≤ (if k < (n : Int) then u k else 0) ∧ (if k < (n : Int) then u k else 0) ≤ 1
    split <;> omega
  have hc := csum_nb hu2 8
  have hl := fun i => cb4_lt hu2 i
  have hX : (csum u n).toNat = nb16 (cb4 (fun k : Int => if k < (n : Int) then u k else 0)) 8 := by
    rw [← hx.1, show (32 : Nat) = 4 * 8 from rfl, hc.1, Int.toNat_natCast]
  have hs : sm u n = (fb_sm (fun i => pc4 (cb4 (fun k : Int => if k < (n : Int) then u k else 0) i)) 8 : Int) := by
    rw [← hx.2, show (32 : Nat) = 4 * 8 from rfl, hc.2]
  have hXl : (csum u n).toNat < 4294967296 := by
    have hcl := csum_le h n
    have hp := p2_mono (a := (n : Int)) (b := 32) (by omega) (by omega)
    have h32 : p2 32 = 4294967296 := by decide +kernel
    omega
  have hW := pop_Wx hl
  have hB := pop_Bl hl
  rw [hX] at hXl ⊢
  rw [hs, hW.1, fb_sm8]
  exact ⟨rfl, hXl, Nat.lt_of_le_of_lt (Nat.sub_le _ _) hXl, hB, hW.2.1, hW.2.2.1, hW.2.2.2.1, hW.2.2.2.2⟩
theorem iI_127 (w : Nat) (h : w < 2147483648) : iI (w : Int) &&& iI 127 = iI ((w % 128 : Nat) : Int) := by
  have hm : (iI 127).toBitVec.toNat = 2 ^ 7 - 1 := by decide +kernel
  rw [← iI_nI, pk_andN (by omega) 7 hm, iI_nI]
theorem lI_i (w : Nat) : (lI (w : Int)).toInt32 = iI (w : Int) := by
  rw [← lI_lN, lN_i, iI_nI]
section ZLA
variable {p : Program} {l : Launch} {e : Env} {R : Room} {s : State} {m : MethodId} {args : Array Value} {below : List Frame} {meth : Method} {c : Code} {H : Heap} {locs : List Loc} {cells slots : Nat} {Q : State → Prop} {cc : ByteArray} {nL : Nat} {Ts : List Cond} {own : String}
variable {pc : Nat} {ls : Array Slot} {rest : List Value}
theorem z_ladd (C : CallFix p m c cc nL s args Ts own) {a b : Int} (v : Int) (hdg : decode cc pc = .ok (.ladd, 1)) (h : lI a + lI b = lI v)
    (k : W p l e R s m args below meth c H locs cells slots Q (F0 m (pc + 1) ls (.long (lI v) :: rest))) : W p l e R s m args below meth c H locs cells slots Q (F0 m pc ls (.long (lI b) :: .long (lI a) :: rest)) := by
  refine lv_ladd C.1 C.2.1 hdg ?_
  rw [h]
  exact k
end ZLA
