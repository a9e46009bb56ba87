/-! what all walks have in common -/
def al (f b : Int → Int) (x : Int) : Nat → Int
  | 0 => 1
  | n + 1 => if al f b x n = 1 ∧ (f (n : Int) < 0 ∨ b (n : Int) = x) then 1 else 0
theorem al_01 (f b : Int → Int) (x : Int) : ∀ n : Nat, al f b x n = 0 ∨ al f b x n = 1
  | 0 => Or.inr rfl
  | n + 1 => by rw [al]; split <;> omega
theorem al_at (f b : Int → Int) (x : Int) {i : Int} (h : 0 ≤ i) : al f b x (i + 1).toNat = if al f b x i.toNat = 1 ∧ (f i < 0 ∨ b i = x) then 1 else 0 := by
  rw [show (i + 1).toNat = i.toNat + 1 by omega, al, Int.toNat_of_nonneg h]
theorem al_iff (f b : Int → Int) (x : Int) : ∀ n : Nat, al f b x n = 1 ↔ ∀ k : Int, 0 ≤ k → k < n → 0 ≤ f k → b k = x
  | 0 => ⟨fun _ k h0 h1 => by omega, fun _ => rfl⟩
  | n + 1 => by
    have ih := al_iff f b x n
    rw [al]
    constructor
    · intro h k k0 k1 hf
      have hc : al f b x n = 1 ∧ (f (n : Int) < 0 ∨ b (n : Int) = x) := by
        by_cases e : al f b x n = 1 ∧ (f (n : Int) < 0 ∨ b (n : Int) = x)
        · exact e
        · rw [if_neg e] at h
          omega
      by_cases e : k = n
      · subst e
        rcases hc.2 with q | q
        · omega
        · exact q
      · exact ih.mp hc.1 k k0 (by omega) hf
    · intro h
      have h1 : al f b x n = 1 := ih.mpr (fun k k0 k1 => h k k0 (by omega))
      have h2 : f (n : Int) < 0 ∨ b (n : Int) = x := by
        by_cases e : f (n : Int) < 0
        · exact Or.inl e
        · exact Or.inr (h n (by omega) (by omega) (by omega))
      exact if_pos ⟨h1, h2⟩
def agR (r S : Int) : Int := if r < 0 then S else r
def alM (M : Int → Int) (j : Int) : Int := al (sl M 572) (fun z => wkB M z j) (wkB M (bst (sl M 572) (p2 (M 0)).toNat) j) (p2 (M 0)).toNat
def agM (M : Int → Int) : Int := agR (fs (fun j => decide (alM M j = 0)) (M 9).toNat) (M 9)
def alC (mm S : Int) (fm fu : Int → Int) (j : Int) : Int := al fm (fun z => sb mm fu S z j) (sb mm fu S (bst fm (p2 mm).toNat) j) (p2 mm).toNat
def agC (mm S : Int) (fm fu : Int → Int) : Int := agR (fs (fun j => decide (alC mm S fm fu j = 0)) S.toNat) S
theorem agR_at {q : Int → Bool} {S c : Int} (hS : 0 ≤ c ∧ c ≤ S) (h1 : ∀ j : Int, 0 ≤ j → j < c → q j = false) (h2 : c < S → q c = true) : agR (fs q S.toNat) S = c := by
  have h0 : ∀ n : Nat, (n : Int) ≤ c → fs q n = -1 := by
    intro n
    induction n with
    | zero => intro _; rfl
    | succ n ih =>
      intro hn
      rw [fs, ih (by omega), h1 n (by omega) (by omega)]
      simp
  unfold agR
  by_cases e : c < S
  · have h3 := fs_at (q := q) (i := c) (n := S.toNat) hS.1 (h0 c.toNat (by omega)) (h2 e) (by omega)
    rw [h3, if_neg (by omega)]
  · rw [h0 S.toNat (by omega), if_pos (by omega)]
    omega
theorem agM_agC {M fu : Int → Int} (h : rdOk M) (hr : wkRel M fu) : agC (M 0) (M 9) (sl M 572) fu = agM M := by
  have hm := h.1
  have hp := p2_all hm.1 hm.2
  have hb := h.2.2.2.2.2.2.2.2
  have hbl := bst_le (sl M 572) (p2 (M 0)).toNat
  unfold agC agM
  rw [fs_cong (q2 := fun j => decide (alM M j = 0))]
  intro j j0 j1
  have e : alC (M 0) (M 9) (sl M 572) fu j = alM M j := by
    have i1 := al_iff (sl M 572) (fun z => sb (M 0) fu (M 9) z j) (sb (M 0) fu (M 9) (bst (sl M 572) (p2 (M 0)).toNat) j) (p2 (M 0)).toNat
    have i2 := al_iff (sl M 572) (fun z => wkB M z j) (wkB M (bst (sl M 572) (p2 (M 0)).toNat) j) (p2 (M 0)).toNat
    have key : ∀ z : Int, 0 ≤ z → z < p2 (M 0) → 0 ≤ M (572 + z) → wkB M z j = sb (M 0) fu (M 9) z j := fun z z0 z1 hz => hr z z0 z1 hz j j0 (by omega)
    have kb := key _ hb (by omega) (hbl.2.2.1 hb)
    have q1 := al_01 (sl M 572) (fun z => sb (M 0) fu (M 9) z j) (sb (M 0) fu (M 9) (bst (sl M 572) (p2 (M 0)).toNat) j) (p2 (M 0)).toNat
    have q2 := al_01 (sl M 572) (fun z => wkB M z j) (wkB M (bst (sl M 572) (p2 (M 0)).toNat) j) (p2 (M 0)).toNat
    have iff : al (sl M 572) (fun z => sb (M 0) fu (M 9) z j) (sb (M 0) fu (M 9) (bst (sl M 572) (p2 (M 0)).toNat) j) (p2 (M 0)).toNat = 1 ↔ al (sl M 572) (fun z => wkB M z j) (wkB M (bst (sl M 572) (p2 (M 0)).toNat) j) (p2 (M 0)).toNat = 1 := by
      rw [i1, i2]
      constructor
      · intro hh k k0 k1 hk
        have := hh k k0 k1 hk
        rw [key k k0 (by omega) hk, kb]
        exact this
      · intro hh k k0 k1 hk
        have := hh k k0 k1 hk
        rw [key k k0 (by omega) hk, kb] at this
        exact this
    show al (sl M 572) (fun z => sb (M 0) fu (M 9) z j) (sb (M 0) fu (M 9) (bst (sl M 572) (p2 (M 0)).toNat) j) (p2 (M 0)).toNat = al (sl M 572) (fun z => wkB M z j) (wkB M (bst (sl M 572) (p2 (M 0)).toNat) j) (p2 (M 0)).toNat
    by_cases e1 : al (sl M 572) (fun z => sb (M 0) fu (M 9) z j) (sb (M 0) fu (M 9) (bst (sl M 572) (p2 (M 0)).toNat) j) (p2 (M 0)).toNat = 1
    · rw [e1, iff.mp e1]
    · have e2 := fun q => e1 (iff.mpr q)
      omega
  rw [e]
/-- the states in which the survivors stand behind a step -/
def wSt (mm S : Int) (fm fu : Int → Int) (i t : Int) : Prop := ∃ x : Int, 0 ≤ x ∧ x < p2 mm ∧ 0 ≤ fm x ∧ bk mm fu S x (S - 1 - i).toNat = t
theorem wSt_prev {mm S : Int} {fm fu : Int → Int} {i t : Int} (hi : i ≤ S - 1) : wSt mm S fm fu (i - 1) t ↔ ∃ u : Int, wSt mm S fm fu i u ∧ pv mm (fu i) u = t := by
  constructor
  · rintro ⟨x, x0, x1, hx, e⟩
    rw [bk_at hi] at e
    exact ⟨_, ⟨x, x0, x1, hx, rfl⟩, e⟩
  · rintro ⟨u, ⟨x, x0, x1, hx, e⟩, e2⟩
    exact ⟨x, x0, x1, hx, by rw [bk_at hi, e, e2]⟩
theorem wSt_le {mm S : Int} {fm fu : Int → Int} {i t : Int} (h1 : 1 ≤ mm) (h2 : mm ≤ 5) (h : wSt mm S fm fu i t) : 0 ≤ t ∧ t < p2 mm := by
  obtain ⟨x, x0, x1, hx, e⟩ := h
  rw [← e]
  exact bk_le h1 h2 x0 x1 _
theorem alC_iff {mm S : Int} {fm fu : Int → Int} {j : Int} (h1 : 1 ≤ mm) (h2 : mm ≤ 5) (hb : 0 ≤ bst fm (p2 mm).toNat) : alC mm S fm fu j = 0 ↔ (∃ u : Int, wSt mm S fm fu j u ∧ u / p2 (mm - 1) = 0) ∧ ∃ u : Int, wSt mm S fm fu j u ∧ u / p2 (mm - 1) = 1 := by
  have hp := p2_all h1 h2
  have hbl := bst_le fm (p2 mm).toNat
  have i1 := al_iff fm (fun z => sb mm fu S z j) (sb mm fu S (bst fm (p2 mm).toNat) j) (p2 mm).toNat
  have q1 := al_01 fm (fun z => sb mm fu S z j) (sb mm fu S (bst fm (p2 mm).toNat) j) (p2 mm).toNat
  have hbit : ∀ x : Int, 0 ≤ x → x < p2 mm → sb mm fu S x j = 0 ∨ sb mm fu S x j = 1 := by
    intro x x0 x1
    have a := bk_le (fu := fu) (S := S) h1 h2 x0 x1 (S - 1 - j).toNat
    have b := bi_le h1 h2 a.1 a.2
    unfold sb
    omega
  have hbb := hbit _ hb (by omega)
  constructor
  · intro h0
    have hne : ¬ ∀ k : Int, 0 ≤ k → k < ((p2 mm).toNat : Nat) → 0 ≤ fm k → sb mm fu S k j = sb mm fu S (bst fm (p2 mm).toNat) j := fun hh => by
      have := i1.mpr hh
      have h0' : al fm (fun z => sb mm fu S z j) (sb mm fu S (bst fm (p2 mm).toNat) j) (p2 mm).toNat = 0 := h0
      omega
    have hex : ∃ k : Int, 0 ≤ k ∧ k < ((p2 mm).toNat : Nat) ∧ 0 ≤ fm k ∧ ¬ sb mm fu S k j = sb mm fu S (bst fm (p2 mm).toNat) j := by
      refine Classical.byContradiction (fun hn => hne (fun k k0 k1 hk => ?_))
      exact Classical.byContradiction (fun q => hn ⟨k, k0, k1, hk, q⟩)
    obtain ⟨k, k0, k1, hk, hd⟩ := hex
    have hkb := hbit k k0 (by omega)
    have w1 : wSt mm S fm fu j (bk mm fu S k (S - 1 - j).toNat) := ⟨k, k0, by omega, hk, rfl⟩
    have w2 : wSt mm S fm fu j (bk mm fu S (bst fm (p2 mm).toNat) (S - 1 - j).toNat) := ⟨_, hb, by omega, hbl.2.2.1 hb, rfl⟩
    have s1 : sb mm fu S k j = bk mm fu S k (S - 1 - j).toNat / p2 (mm - 1) := rfl
    have s2 : sb mm fu S (bst fm (p2 mm).toNat) j = bk mm fu S (bst fm (p2 mm).toNat) (S - 1 - j).toNat / p2 (mm - 1) := rfl
    rcases hkb with e | e
    · exact ⟨⟨_, w1, by rw [← s1]; exact e⟩, ⟨_, w2, by rw [← s2]; omega⟩⟩
    · exact ⟨⟨_, w2, by rw [← s2]; omega⟩, ⟨_, w1, by rw [← s1]; exact e⟩⟩
  · rintro ⟨⟨u, ⟨x, x0, x1, hx, ex⟩, eu⟩, ⟨v, ⟨y, y0, y1, hy, ey⟩, ev⟩⟩
    have s1 : sb mm fu S x j = 0 := by unfold sb; rw [ex]; exact eu
    have s2 : sb mm fu S y j = 1 := by unfold sb; rw [ey]; exact ev
    show al fm (fun z => sb mm fu S z j) (sb mm fu S (bst fm (p2 mm).toNat) j) (p2 mm).toNat = 0
    by_cases e : al fm (fun z => sb mm fu S z j) (sb mm fu S (bst fm (p2 mm).toNat) j) (p2 mm).toNat = 1
    · have a := i1.mp e x x0 (by omega) hx
      have b := i1.mp e y y0 (by omega) hy
      omega
    · omega
/-! sets of states in longs -/
theorem tb_div (X : Nat) (t : Nat) : (X.testBit t = true) ↔ X / 2 ^ t % 2 = 1 := by
  rw [Nat.testBit_eq_decide_div_mod_eq]
  simp
theorem csum_tb {u : Int → Int} (h : ∀ k, 0 ≤ u k ∧ u k ≤ 1) (n t : Nat) (ht : t < n) : (csum u n).toNat.testBit t = true ↔ u (t : Int) = 1 := by
  have h1 := csum_le h n
  have h2 := csum_bit h (t := (t : Int)) (by omega) n (by omega)
  rw [tb_div]
  have e : ((csum u n).toNat : Int) = csum u n := Int.toNat_of_nonneg h1.1
  have e2 : (((csum u n).toNat / 2 ^ t % 2 : Nat) : Int) = csum u n / p2 (t : Int) % 2 := by
    rw [Int.natCast_emod, Int.natCast_ediv, e, p2_nat, Int.toNat_natCast]
    rfl
  omega
theorem pf_lI {a : Nat} (h : a < 2 ^ 63) : (lN a).toInt = (a : Int) := lg_ofNat_toInt h
theorem pf_shr {a d : Nat} {D : Int64} (hD : (D.toBitVec.smod 64).toNat = d) (h : a < 2 ^ 62) : lN a >>> D = lN (a / 2 ^ d) := by
  have hd : a / 2 ^ d ≤ a := Nat.div_le_self _ _
  apply Int64.toInt_inj.mp
  have e : (lN a >>> D).toInt = (lN a).toInt >>> d := by
    rw [← hD]
    exact BitVec.toInt_sshiftRight ..
  rw [e, Int.shiftRight_eq_div_pow, pf_lI (by omega), pf_lI (by omega)]
  rfl
theorem fb_andL (a b : Nat) : lN a &&& lN b = lN (a &&& b) := by
  apply Int64.toBitVec_inj.1
  show BitVec.ofNat 64 a &&& BitVec.ofNat 64 b = BitVec.ofNat 64 (a &&& b)
  apply BitVec.eq_of_getLsbD_eq
  intro i hi
  simp [hi]
theorem fb_orL (a b : Nat) : lN a ||| lN b = lN (a ||| b) := by
  apply Int64.toBitVec_inj.1
  show BitVec.ofNat 64 a ||| BitVec.ofNat 64 b = BitVec.ofNat 64 (a ||| b)
  apply BitVec.eq_of_getLsbD_eq
  intro i hi
  simp [hi]
theorem lI_shr {a k : Int} (a0 : 0 ≤ a) (a1 : a < 4294967296) (k0 : 0 ≤ k) (k1 : k < 63) : lI a >>> ((iI k).toInt64 &&& 63) = lI (a / p2 k) := by
  have hs : ∀ j : Nat, j < 63 → ((lN j).toBitVec.smod 64).toNat = j := by decide +kernel
  rw [lI_nat a0, iI_nat k0, nI_63 _ (by omega), pf_shr (hs _ (by omega)) (by omega), lI_lN]
  congr 1
  rw [Int.natCast_ediv, Int.toNat_of_nonneg a0, p2_nat]
theorem lI_and1 {a : Int} (a0 : 0 ≤ a) : lI a &&& lI 1 = lI (a % 2) := by
  rw [lI_nat a0, show lI 1 = lN 1 from rfl, fb_andL, lI_lN, Nat.and_one_is_mod]
  congr 1
  omega
theorem lI_orN (X : Nat) {k : Int} : lI (X : Int) ||| lI (p2 k) = lI ((X ||| 2 ^ k.toNat : Nat) : Int) := by
  rw [← lI_lN, p2_nat, ← lI_lN, fb_orL, lI_lN]
theorem lg_c1 {a : Int} (h : 0 ≤ a ∧ a ≤ 1) : lg_cmp (lI a) (lI 1) = iI (a - 1) := by
  rcases (show a = 0 ∨ a = 1 by omega) with rfl | rfl <;> decide +kernel
theorem tbI (X : Nat) {t : Int} (h : 0 ≤ t) : (X.testBit t.toNat = true) ↔ (X : Int) / p2 t % 2 = 1 := by
  rw [tb_div, p2_nat]
  omega
theorem or_tb (X : Nat) (k t : Nat) : (X ||| 2 ^ k).testBit t = true ↔ X.testBit t = true ∨ t = k := by
  rw [Nat.testBit_or, Nat.testBit_two_pow, Bool.or_eq_true, decide_eq_true_eq]
  exact ⟨fun h => h.imp id Eq.symm, fun h => h.imp id Eq.symm⟩
theorem or_lt (X : Nat) (k : Nat) (h : X < 4294967296) (hk : k < 32) : X ||| 2 ^ k < 4294967296 := by
  have h2 : 2 ^ k < 2 ^ 32 := Nat.pow_lt_pow_right (by omega) hk
  exact Nat.or_lt_two_pow (n := 32) h h2
/-- the bits that were seen: 1 a bit 0, 2 a bit 1 -/
def vo (v b : Int) : Int := if b = 0 then v / 2 * 2 + 1 else v % 2 + 2
theorem iI_vo {v b : Int} (hv : 0 ≤ v ∧ v ≤ 3) (hb : 0 ≤ b ∧ b ≤ 1) : iI v ||| iI (p2 b) = iI (vo v b) := by
  rcases (show b = 0 ∨ b = 1 by omega) with rfl | rfl <;> rcases (show v = 0 ∨ v = 1 ∨ v = 2 ∨ v = 3 by omega) with rfl | rfl | rfl | rfl <;> decide +kernel
