section ZX
variable {p : Program} {l : Launch} {e : Env} {R : Room} {s : State} {m : MethodId} {args : Array Value} {below : List Frame} {meth : Method} {c : Code} {H : Heap} {locs : List Loc} {cells slots : Nat} {Q : State → Prop} {cc : ByteArray} {nL : Nat} {Ts : List Cond} {own : String}
variable {pc : Nat} {ls : Array Slot} {rest st : List Value} {D : va_G} {T : List (ClassId × FieldType)} {A : Nat → Prop} {H0 : Heap} {ws ws2 : va_W} {cy cs : ClassId}
theorem z_fld (wd : Wd D T A H0 s ws H locs) {c1 c2 : Nat × va_E} (q0 : Nat) (he : ws[q0]? = some c1) (e0 : c1 = c2) (hs : ws.set q0 c2 = ws2) : Wd D T A H0 s ws2 H locs := by
  subst e0
  have h1 : ws.set q0 c1 = ws := by
    obtain ⟨hlt, hg⟩ := List.getElem?_eq_some_iff.mp he
    rw [← hg]
    exact List.set_getElem_self hlt
  rw [← hs, h1]
  exact wd
def cpZ (f g : Int → Int) (n : Int) : Int → Int := fun k => if 0 ≤ k ∧ k < n then f k else g k
theorem z_copy (C : CallFix p m c cc nL s args Ts own) (wd : Wd D (zT cy cs) A H0 s ws H locs) (q0 q1 : Nat) {a0 a1 n0 n1 : Nat} {f g : Int → Int} (he0 : ws[q0]? = some (zA cy a0 n0 f)) (he1 : ws[q1]? = some (zA cy a1 n1 g)) {index : Nat} (hlink : (Cond.methodLink own index arraycopyName).before args s = true) (hnat : (Cond.native arraycopyName).before args s = true) (hstat : (Cond.static arraycopyName).before args s = true) (hini : (Cond.initialized "java/lang/System").before args s = true) {n : Int} (hn : 0 ≤ n ∧ n ≤ n0 ∧ n ≤ n1 ∧ n < 2147483648) (hfr : 1 ≤ R.frames) (hlo : (rest.map fun v => v.category).sum + 18 ≤ R.locals) (hsz : ls.size = nL) (hs : ws.set q1 (zA cy a1 n1 (cpZ f g n)) = ws2) (hdg : decode cc pc = .ok (.invokestatic index, 3))
    (k : ∀ (H : Heap) (locs : List Loc), Wd D (zT cy cs) A H0 s ws2 H locs → W p l e R s m args below meth c H locs cells slots Q (F0 m (pc + 3) ls rest)) : W p l e R s m args below meth c H locs cells slots Q (F0 m pc ls (.int (iI n) :: .int (iI 0) :: .ref a1 :: .int (iI 0) :: .ref a0 :: rest)) := by
  have c0 : (iI 0).toNatClampNeg = 0 := by decide +kernel
  have cn : (iI n).toNatClampNeg = n.toNat := by
    rw [iI_nat hn.1]
    exact nI_clamp (by omega)
  have hneg : ¬ iI n < 0 := by
    have h1 := iI_lt (a := n) (b := 0) (by omega) (by omega)
    rw [iI_0] at h1
    rw [h1]
    omega
  have e0 : ((a1, .inl (cy, n1, .inl (va_cpy (fun j : Nat => iI (f (j : Int))) (fun j : Nat => iI (g (j : Int))) (iI 0).toNatClampNeg (iI 0).toNatClampNeg (iI n).toNatClampNeg))) : Nat × va_E) = zA cy a1 n1 (cpZ f g n) := by
    have e9 : va_cpy (fun j : Nat => iI (f (j : Int))) (fun j : Nat => iI (g (j : Int))) 0 0 n.toNat = fun j : Nat => iI (cpZ f g n (j : Int)) := by
      funext j
      unfold va_cpy cpZ
      by_cases h : 0 ≤ j ∧ j < 0 + n.toNat
      · rw [if_pos h, if_pos (by omega)]
        simp
      · rw [if_neg h, if_neg (by omega)]
    unfold zA
    rw [c0, cn, e9]
  refine va_copyi (f := fun j : Nat => iI (f (j : Int))) (g := fun j : Nat => iI (g (j : Int))) C.1 C.2.1 (by rw [C.2.2.1, hsz]) C.2.2.2.1 hlink hnat hstat hini wd.2.2.2 wd.1 wd.2.1 wd.2.2.1 q0 q1 0 0 he0 he1 rfl rfl rfl (by decide +kernel) (by decide +kernel) hneg (by rw [c0, cn]; omega) (by rw [c0, cn]; omega) (fun _ _ => rfl) hfr hlo hdg (fun H1 locs1 hP hD hS => k H1 locs1 ⟨?_, ?_, hS, wd.2.2.2⟩)
  · rw [e0, hs] at hP
    exact hP
  · rw [e0, hs] at hD
    exact hD
theorem z_land (C : CallFix p m c cc nL s args Ts own) {a b : Int} (v : Int) (hdg : decode cc pc = .ok (.land, 1)) (h : lI a &&& lI b = lI v)
    (k : W p l e R s m args below meth c H locs cells slots Q (F0 m (pc + 1) ls (.long (lI v) :: rest))) : W p l e R s m args below meth c H locs cells slots Q (F0 m pc ls (.long (lI b) :: .long (lI a) :: rest)) := by
  refine lv_land C.1 C.2.1 hdg ?_
  rw [h]
  exact k
theorem z_lor (C : CallFix p m c cc nL s args Ts own) {a b : Int} (v : Int) (hdg : decode cc pc = .ok (.lor, 1)) (h : lI a ||| lI b = lI v)
    (k : W p l e R s m args below meth c H locs cells slots Q (F0 m (pc + 1) ls (.long (lI v) :: rest))) : W p l e R s m args below meth c H locs cells slots Q (F0 m pc ls (.long (lI b) :: .long (lI a) :: rest)) := by
  refine lv_lor C.1 C.2.1 hdg ?_
  rw [h]
  exact k
theorem z_lsub (C : CallFix p m c cc nL s args Ts own) {a b : Int} (v : Int) (hdg : decode cc pc = .ok (.lsub, 1)) (h : lI a - lI b = lI v)
    (k : W p l e R s m args below meth c H locs cells slots Q (F0 m (pc + 1) ls (.long (lI v) :: rest))) : W p l e R s m args below meth c H locs cells slots Q (F0 m pc ls (.long (lI b) :: .long (lI a) :: rest)) := by
  refine lv_lsub C.1 C.2.1 hdg ?_
  rw [h]
  exact k
theorem z_lcmp (C : CallFix p m c cc nL s args Ts own) {a b : Int} (v : Int) (hdg : decode cc pc = .ok (.lcmp, 1)) (h : lg_cmp (lI a) (lI b) = iI v)
    (k : W p l e R s m args below meth c H locs cells slots Q (F0 m (pc + 1) ls (.int (iI v) :: rest))) : W p l e R s m args below meth c H locs cells slots Q (F0 m pc ls (.long (lI b) :: .long (lI a) :: rest)) := by
  refine W.lcmp C.1 C.2.1 hdg ?_
  rw [h]
  exact k
end ZX
/-! bits of words: a word stands for an integer from 0 to 2^32 less 1 -/
def sg (x : Int) : Int := if x < 2147483648 then x else x - 4294967296
theorem iI_ext {a b : Int} (h : a % 4294967296 = b % 4294967296) : iI a = iI b := by
  rw [← Int32.toBitVec_inj]
  apply BitVec.eq_of_toNat_eq
  simp [iI, BitVec.toNat_ofInt, h]
theorem iI_sg (x : Int) : iI x = iI (sg x) := iI_ext (by unfold sg; split <;> omega)
theorem iI_shrS {a k : Int} (h1 : -2147483648 ≤ a) (h2 : a < 2147483648) (k0 : 0 ≤ k) (k1 : k < 32) : iI a >>> (iI k &&& 31) = iI (a / p2 k) := by
  have e := iI_sm k.toNat (by omega)
  rw [← iI_nat k0] at e
  have h := pk_shr (iI a) (iI k &&& 31) k.toNat e
  rw [iI_toInt h1 h2, Int.shiftRight_eq_div_pow] at h
  rw [← iI_of (iI a >>> (iI k &&& 31)), h]
  rfl
theorem iI_and1S (a : Int) : iI a &&& iI 1 = iI (a % 2) := by
  have h := pk_and (iI a) (m := iI 1) 1 (by decide +kernel)
  rw [h, iI_nI]
  congr 1
  simp [iI, BitVec.toNat_ofInt]
  omega
theorem p2_s (k : Int) (h : 0 ≤ k) : p2 (k + 1) = 2 * p2 k := by
  unfold p2
  rw [show (k + 1).toNat = k.toNat + 1 by omega, Int.pow_succ]
  omega
theorem p2_pos (k : Int) : 0 < p2 k := by
  unfold p2
  exact Int.pow_pos (by omega)
theorem p2_nat (k : Int) : p2 k = ((2 ^ k.toNat : Nat) : Int) := by
  unfold p2
  norm_cast
theorem p2_add {a b : Int} (ha : 0 ≤ a) (hb : 0 ≤ b) : p2 (a + b) = p2 a * p2 b := by
  unfold p2
  rw [show (a + b).toNat = a.toNat + b.toNat by omega, Int.pow_add]
theorem bit_sg {x k : Int} (k0 : 0 ≤ k) (k1 : k < 32) : sg x / p2 k % 2 = x / p2 k % 2 := by
  unfold sg
  split
  · rfl
  · have hk : (4294967296 : Int) = p2 k * (2 * p2 (31 - k)) := by
      have h1 := p2_add (a := k) (b := 32 - k) k0 (by omega)
      rw [show k + (32 - k) = 32 by omega] at h1
      have h2 := p2_s (31 - k) (by omega)
      rw [show 31 - k + 1 = 32 - k by omega] at h2
      have h3 : p2 32 = 4294967296 := by decide +kernel
      rw [← h3, h1, h2]
    have hp := p2_pos k
    have h5 : (x - 4294967296) / p2 k = x / p2 k - 2 * p2 (31 - k) := by
      rw [hk, Int.sub_eq_add_neg, ← Int.mul_neg, Int.add_mul_ediv_left _ _ (by omega)]
      omega
    rw [h5]
    omega
theorem iI_bit1 {x k : Int} (x0 : 0 ≤ x) (x1 : x < 4294967296) (k0 : 0 ≤ k) (k1 : k < 32) : iI x >>> (iI k &&& 31) = iI (sg x / p2 k) := by
  rw [iI_sg x]
  exact iI_shrS (by unfold sg; split <;> omega) (by unfold sg; split <;> omega) k0 k1
theorem iI_bit2 {x k : Int} (k0 : 0 ≤ k) (k1 : k < 32) : iI (sg x / p2 k) &&& iI 1 = iI (x / p2 k % 2) := by
  rw [iI_and1S, bit_sg k0 k1]
theorem bit_le (x k : Int) : 0 ≤ x / p2 k % 2 ∧ x / p2 k % 2 ≤ 1 := by omega
/-- the state before, by a word of choices -/
def pv (mm x st : Int) : Int := 2 * st % p2 mm + x / p2 st % 2
theorem pv_le {mm x st : Int} (h1 : 1 ≤ mm) (h2 : mm ≤ 5) : 0 ≤ pv mm x st ∧ pv mm x st < p2 mm := by
  have hp := p2_all h1 h2
  have hb := bit_le x st
  unfold pv
  have h3 : 0 ≤ 2 * st % p2 mm := Int.emod_nonneg _ (by omega)
  have h4 : 2 * st % p2 mm + 1 < p2 mm := by
    rw [hp.2.2.1, Int.mul_emod_mul_of_pos _ _ (by omega)]
    have h5 := Int.emod_lt_of_pos st (show 0 < p2 (mm - 1) by omega)
    omega
  omega
def bk (mm : Int) (fu : Int → Int) (S st : Int) : Nat → Int
  | 0 => st
  | n + 1 => pv mm (fu (S - 1 - n)) (bk mm fu S st n)
theorem bk_le {mm : Int} {fu : Int → Int} {S st : Int} (h1 : 1 ≤ mm) (h2 : mm ≤ 5) (s0 : 0 ≤ st) (s1 : st < p2 mm) : ∀ n, 0 ≤ bk mm fu S st n ∧ bk mm fu S st n < p2 mm
  | 0 => ⟨s0, s1⟩
  | n + 1 => pv_le h1 h2
theorem bk_at {mm : Int} {fu : Int → Int} {S st i : Int} (h : i ≤ S - 1) : bk mm fu S st (S - 1 - (i - 1)).toNat = pv mm (fu i) (bk mm fu S st (S - 1 - i).toNat) := by
  rw [show (S - 1 - (i - 1)).toNat = (S - 1 - i).toNat + 1 by omega, bk, show S - 1 - (((S - 1 - i).toNat : Nat) : Int) = i by omega]
/-- the bit of a survivor at a place -/
def sb (mm : Int) (fu : Int → Int) (S st i : Int) : Int := bk mm fu S st (S - 1 - i).toNat / p2 (mm - 1)
def rlF (mm : Int) (fu : Int → Int) (S st : Int) (g : Int → Int) (N z i : Int) : Int → Int := fun k => if i < k ∧ N ≤ k ∧ k < z then sb mm fu S st k else g k
theorem rlF_step {mm : Int} {fu : Int → Int} {S st : Int} {g : Int → Int} {N z i : Int} (hN : N ≤ i) (hz : i < z) : uZ (rlF mm fu S st g N z i) i (bk mm fu S st (S - 1 - i).toNat / p2 (mm - 1)) = rlF mm fu S st g N z (i - 1) := by
  funext k
  unfold uZ rlF
  by_cases h : k = i
  · subst h
    rw [if_pos rfl, if_pos (by omega)]
    rfl
  · rw [if_neg h]
    by_cases h2 : i < k ∧ N ≤ k ∧ k < z
    · rw [if_pos h2, if_pos (by omega)]
    · rw [if_neg h2, if_neg (by omega)]
theorem rlF_skip {mm : Int} {fu : Int → Int} {S st : Int} {g : Int → Int} {N z i : Int} (hz : z ≤ i) : rlF mm fu S st g N z i = rlF mm fu S st g N z (i - 1) := by
  funext k
  unfold rlF
  by_cases h2 : i < k ∧ N ≤ k ∧ k < z
  · rw [if_pos h2, if_pos (by omega)]
  · rw [if_neg h2, if_neg (by omega)]
theorem rlF_0 {mm : Int} {fu : Int → Int} {S st : Int} {g : Int → Int} {N z i : Int} (hz : z ≤ i + 1) : rlF mm fu S st g N z i = g := by
  funext k
  unfold rlF
  rw [if_neg (by omega)]
theorem rlF_e {mm : Int} {fu : Int → Int} {S st : Int} {g : Int → Int} {N z i j : Int} (hi : i < N) (hj : j < N) : rlF mm fu S st g N z i = rlF mm fu S st g N z j := by
  funext k
  unfold rlF
  by_cases h2 : N ≤ k ∧ k < z
  · rw [if_pos (by omega), if_pos (by omega)]
  · rw [if_neg (by omega), if_neg (by omega)]
