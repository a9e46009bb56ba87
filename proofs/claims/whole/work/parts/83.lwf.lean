/-! the facts of a state, one by one -/
theorem vO_all {M fu : Int → Int} {L : Int} (h : vO M L fu) : rdOk M ∧ (1 ≤ M 0 ∧ M 0 ≤ 5) ∧ (2 ≤ M 1 ∧ M 1 ≤ 3) ∧ tpOk (sl M 2) ∧ (2 ≤ M 5 ∧ M 5 ≤ 40) ∧ (0 ≤ M 9 ∧ M 9 ≤ 80) ∧ (0 ≤ M 10 ∧ M 10 ≤ 80) ∧ mtOk (sl M 572) (M 9) ∧ (∀ k : Int, 0 ≤ k → k < 32 → -1 ≤ M (572 + k) ∧ M (572 + k) ≤ 1000) ∧ (∀ t z : Int, 0 ≤ t → t < 32 → 0 ≤ z → z < 3 → 0 ≤ M (684 + 3 * t + z) ∧ M (684 + 3 * t + z) < 1073741824) ∧ 0 ≤ bst (sl M 572) (p2 (M 0)).toNat := by
  have hr := h.1
  refine ⟨hr, hr.1, hr.2.1, hr.2.2.1, hr.2.2.2.1, hr.2.2.2.2.1, ?_, hr.2.2.2.2.2.2.1, fun k k0 k1 => ?_, wdOk_lt hr.2.2.2.2.2.2.2.1, hr.2.2.2.2.2.2.2.2⟩
  · have := hr.2.2.2.2.1
    have := hr.2.2.2.2.2.1
    omega
  · have q : -1 ≤ M (572 + k) ∧ M (572 + k) ≤ 3 * M 9 := hr.2.2.2.2.2.2.1 k k0 k1
    have := hr.2.2.2.2.1
    omega
theorem vO_all2 {M fu : Int → Int} {L : Int} (h : vO M L fu) : wkRel M fu ∧ huOk fu ∧ (∀ k : Int, 0 ≤ k → k < 80 → 0 ≤ fu k ∧ fu k < 4294967296) ∧ sOk M ∧ M 1 = oT (M 4) ∧ (M 11 = 0 ∨ M 11 = 1) ∧ M 8 = L * M 1 ∧ (0 ≤ L ∧ L ≤ M 7) ∧ (0 ≤ L ∧ L ≤ 80) ∧ (0 ≤ M 7 ∧ M 7 ≤ 80) ∧ (0 ≤ M 7 * M 1 ∧ M 7 * M 1 ≤ 240) ∧ (0 ≤ L * M 1 ∧ L * M 1 ≤ 240) ∧ (0 ≤ M 8 ∧ M 8 ≤ 240) := by
  obtain ⟨h1, h2, h3, h4, h5, h6, h7, h8, h9, h10⟩ := h
  have h71 := h4.2.2.2.2
  have a := nO_le h71.1 h4.2.1 h71.2
  have b := nO_le h8.1 h4.2.1 (show L ≤ 80 by omega)
  exact ⟨h2, h3, h3, h4, h5, h6, h7, h8, by omega, h71, a, b, by omega⟩
theorem vO_all3 {M fu : Int → Int} {L : Int} (h : vO M L fu) : (∀ j : Int, 0 ≤ j → j < 240 → 0 ≤ sl M 92 j ∧ sl M 92 j ≤ 2) ∧ (∀ j : Int, 0 ≤ j → j < 240 → 0 ≤ M (92 + j) ∧ M (92 + j) ≤ 2) ∧ (∀ j : Int, 0 ≤ j → j < 240 → 0 ≤ sl M 332 j ∧ sl M 332 j ≤ 1) ∧ (∀ j : Int, 0 ≤ j → j < 240 → 0 ≤ M (332 + j) ∧ M (332 + j) ≤ 1) ∧ (∀ j : Int, 0 ≤ j → j < 80 → 0 ≤ sl M 12 j ∧ sl M 12 j ≤ 1) ∧ (∀ j : Int, 0 ≤ j → j < 80 → 0 ≤ M (12 + j) ∧ M (12 + j) ≤ 1) ∧ (∀ j : Int, 0 ≤ j → j < 80 → 0 ≤ sl M 604 j ∧ sl M 604 j ≤ 1) ∧ (∀ j : Int, 0 ≤ j → j < 80 → 0 ≤ M (604 + j) ∧ M (604 + j) ≤ 1) := by
  obtain ⟨h1, h2, h3, h4, h5, h6, h7, h8, h9, h10⟩ := h
  exact ⟨h9.1, h9.1, h9.2.1, h9.2.1, h9.2.2, h9.2.2, h10, h10⟩
theorem vO_572 {M fu : Int → Int} {L : Int} (h : vO M L fu) : -1 ≤ M 572 ∧ M 572 ≤ 1000 := (vO_all h).2.2.2.2.2.2.2.2.1 0 (by omega) (by omega)
theorem ff_cong {f g : Int → Int} {ty hi : Int} (h0 : 0 ≤ ty) (h : ∀ k : Int, 0 ≤ k → k < ty → f k = g k) : ff f ty hi = ff g ty hi := by
  unfold ff
  rw [fs_cong (q := fun k => decide (hi < f k)) (q2 := fun k => decide (hi < g k)) (fun k k0 k1 => by rw [h k k0 (by omega)])]
theorem ff_le {f : Int → Int} {ty hi : Int} (h0 : 0 ≤ ty ∧ ty ≤ 60) : -1 ≤ ff f ty hi ∧ ff f ty hi ≤ 60 := by
  unfold ff
  have := fs_le (fun k => decide (hi < f k)) ty.toNat
  split <;> omega
theorem fs_all {q : Int → Bool} : ∀ {n : Nat}, fs q n = -1 → ∀ k : Int, 0 ≤ k → k < n → q k = false
  | 0, _, k, k0, k1 => by omega
  | n + 1, h, k, k0, k1 => by
    rw [fs] at h
    by_cases e : 0 ≤ fs q n
    · rw [if_pos e] at h
      omega
    · rw [if_neg e] at h
      have hl := fs_le q n
      rcases (show k < (n : Int) ∨ k = (n : Int) by omega) with z | z
      · exact fs_all (by omega) k k0 z
      · rw [z]
        by_cases e2 : q (n : Int) = true
        · rw [if_pos e2] at h
          omega
        · simpa using e2
theorem ff_no {f : Int → Int} {ty hi : Int} (h0 : 0 ≤ ty) (h : ff f ty hi = -1) : 1 ≤ ty ∧ ∀ k : Int, 0 ≤ k → k < ty → f k ≤ hi := by
  unfold ff at h
  by_cases e : ty = 0
  · rw [if_pos e] at h
    omega
  · rw [if_neg e] at h
    refine ⟨by omega, fun k k0 k1 => ?_⟩
    have q := of_decide_eq_false (fs_all h k k0 (by omega))
    omega
theorem vc_1 {x : Int} (h : vc x ≤ 1) : x - 48 = vc x ∧ 0 ≤ x - 48 ∧ x - 48 ≤ 1 := by
  rcases vc_or x with q | q | q | q <;> omega
theorem vc_2 {x : Int} (h : vc x ≤ 2) : hv x = vc x ∧ 0 ≤ hv x ∧ hv x ≤ 2 := by
  unfold hv
  rcases vc_or x with q | q | q | q
  · rw [if_neg (by omega)]
    omega
  · rw [if_neg (by omega)]
    omega
  · rw [if_pos (by omega)]
    omega
  · omega
theorem txR_0 {fv tx : Int → Int} {ty : Int} (h : txR ty fv tx) : txR 0 fv tx := ⟨by omega, h.2.1, h.2.2.1, fun k k0 k1 => by omega⟩
theorem txR_up {fv tx : Int → Int} {ty x : Int} (h : txR ty fv tx) (h60 : ty < 60) (hx : 0 ≤ x ∧ x < 65536) : txR (ty + 1) (uZ fv ty (vc x)) (uZ tx ty x) := by
  obtain ⟨a, b, c, d⟩ := h
  refine ⟨by omega, fun k k0 k1 => ?_, fun k k0 k1 => ?_, fun k k0 k1 => ?_⟩
  · unfold uZ
    split
    · exact vc_le x
    · exact b k k0 k1
  · unfold uZ
    split
    · exact hx
    · exact c k k0 k1
  · by_cases e : k = ty
    · rw [e, uZ_s, uZ_s]
    · rw [uZ_n e, uZ_n e]
      exact d k k0 (by omega)
theorem sur_eq {M fu : Int → Int} {st x : Int} (hw : wkRel M fu) : rdSur M fu st x = rdSurM M st x := by
  unfold rdSur rdSurM
  by_cases a : 0 ≤ st ∧ st < p2 (M 0)
  · rw [if_neg (show ¬ ¬ (0 ≤ st ∧ st < p2 (M 0)) from fun q => q a), if_neg (show ¬ ¬ (0 ≤ st ∧ st < p2 (M 0)) from fun q => q a)]
    by_cases b : x < 0
    · rw [if_pos b, if_pos b]
    · rw [if_neg b, if_neg b]
      have e : sl M 572 st = M (572 + st) := rfl
      rw [e]
      by_cases c : M (572 + st) < 0 ∨ M 9 ≤ x
      · rw [if_pos c, if_pos c]
      · rw [if_neg c, if_neg c]
        exact (hw st a.1 a.2 (by omega) (M 9 - 1 - x) (by omega) (by omega)).symm
  · rw [if_pos a, if_pos a]
theorem tk_mul {L q a o : Int} (h : L + q ≤ a) (ho : 2 ≤ o ∧ o ≤ 3) : L * o + q * o ≤ a * o := by
  rcases (show o = 2 ∨ o = 3 by omega) with e | e <;> rw [e] <;> omega
theorem vO_tkI {M fu gu : Int → Int} {L q : Int} (h : vO M L fu) (q0 : 0 ≤ q) (h80 : M 9 + q ≤ 80) (hL : L + q ≤ M 7) (hw : wkRel (tkN M q.toNat) gu) (hu : huOk gu) : vO (tkN M q.toNat) (L + q) gu := by
  have r := vO_tk h q.toNat (by omega) (by omega) hw hu
  rw [Int.toNat_of_nonneg q0] at r
  exact r
theorem iI_c16 (v : Int) : ((iI v).toUInt32 % 65536).toInt32 = iI (v % 65536) := by
  rw [← Int32.toBitVec_inj]
  apply BitVec.eq_of_toNat_eq
  simp [iI, BitVec.toNat_ofInt]
  omega
/-! rows of the law -/
section LWR
variable {p : Program} {l : Launch} {e : Env} {R : Room} {s : State} {m : MethodId} {args : Array Value} {below : List Frame} {meth : Method} {c : Code} {H : Heap} {locs : List Loc} {cells slots : Nat} {Q : State → Prop} {cc : ByteArray} {nL : Nat} {Ts : List Cond} {own : String}
variable {pc : Nat} {ls : Array Slot} {rest : List Value} {D : va_G} {T : List (ClassId × FieldType)} {A : Nat → Prop} {ws : va_W} {b Ls : Nat} {xs : Nat → Int32}
theorem z_sld (C : CallFix p m c cc nL s args Ts own) (wd : Wd D T A s.heap s ws H locs) (hX : va_X b Ls xs s s.heap) (hbl : b < s.heap.size) (hbA : ¬ A b) {k v : Int} (hk : 0 ≤ k ∧ k < (Ls : Int)) (hL : Ls ≤ 2560) (hv : (xs k.toNat).toInt = v) (hdg : decode cc pc = .ok (.iaload, 1))
    (kk : W p l e R s m args below meth c H locs cells slots Q (F0 m (pc + 1) ls (.int (iI v) :: rest))) : W p l e R s m args below meth c H locs cells slots Q (F0 m pc ls (.int (iI k) :: .ref b :: rest)) := by
  have hi := iI_idx hk.1 hk.2 (show Ls < 2147483648 by omega)
  refine va_sld C.1 C.2.1 hX hbl hbA wd.2.2.1 hi.1 hdg ?_
  rw [hi.2, ← iI_of (xs k.toNat), hv]
  exact kk
theorem z_same (C : CallFix p m c cc nL s args Ts own) {x y : Int} {off : Int} {tgt : Nat} (h : x = y) (hdg : decode cc pc = .ok (.if_icmp .eq off, 3)) (ht : (pc : Int) + off = (tgt : Int))
    (k : W p l e R s m args below meth c H locs cells slots Q (F0 m tgt ls rest)) : W p l e R s m args below meth c H locs cells slots Q (F0 m pc ls (.int (iI y) :: .int (iI x) :: rest)) :=
  lv_icmp_eq C.1 C.2.1 hdg ht (fun _ => k) (fun q => absurd (by rw [h]) q)
end LWR
/-! what is to be shown at a place of the law, and what is known behind each call -/
def lG (p : Program) (l : Launch) (e : Env) (s : State) (m : MethodId) (below : List Frame) (meth : Method) (c : Code) (b : Nat) (H : Heap) (locs : List Loc) (pc : Nat) (ls : Array Slot) (st : List Value) : Prop := W p l e room_1 s m #[Value.ref b] below meth c H locs 86 9861 (lw_Z below #[Value.ref b] s) (F0 m pc ls st)
def lNX (p : Program) (l : Launch) (e : Env) (s : State) (m : MethodId) (below : List Frame) (meth : Method) (c : Code) (b : Nat) (D : va_G) (cy cs : ClassId) (w0 w1 t0 t1 w2 : Nat) (mm : Nat → Nat) (i : Int) (pc : Nat) : Prop :=
  ∀ (iK n ty : Int) (fv dz Hs Sh tx hd me wk fr : Int → Int) (B K X F G E : Bk), IV iK n ty fv B K X F G E Hs Sh tx hd → ∀ (H : Heap) (locs : List Loc) (ls : Array Slot), lv_has ls 4 [(0, .ref b), (1, .ref w0), (2, .ref (mm 0)), (3, .int (iI i))] → Wd D (zT cy cs) (fun q : Nat => s.heap.size ≤ q) s.heap s (LC cy cs w0 w1 t0 t1 w2 mm iK n ty fv dz B K X F G E Hs Sh tx hd me wk fr) H locs → lG p l e s m below meth c b H locs pc ls []
section LWN
variable {p : Program} {l : Launch} {e : Env} {s : State} {m : MethodId} {below : List Frame} {meth : Method} {c : Code} {H : Heap} {locs : List Loc} {ls : Array Slot} {D : va_G} {b : Nat} {cy cs : ClassId} {w0 w1 t0 t1 w2 : Nat} {mm : Nat → Nat} {i iK n ty : Int} {fv dz Hs Sh tx hd me wk fr Mo : Int → Int} {B K X F G E : Bk} {pc : Nat}
theorem lN_rec (NX : lNX p l e s m below meth c b D cy cs w0 w1 t0 t1 w2 mm i pc) (hn : 0 ≤ n ∧ n ≤ 4) (hiK : iK = 0 ∨ (iK = 1 ∧ ∀ j : Int, 0 ≤ j → j < 780 → K.2.1 j = Sh j)) (htx : txR ty fv tx) (hhd : hdOk hd) (vB : vB_ B) (vK : vB_ K) (vX : vB_ X) (vF : vB_ F) (vG : vB_ G) (vE : vB_ E) (hh : hiR n Hs Mo F.2.1 G.2.1 E.2.1)
    (hl : lv_has ls 4 [(0, .ref b), (1, .ref w0), (2, .ref (mm 0)), (3, .int (iI i))]) (wd : Wd D (zT cy cs) (fun q : Nat => s.heap.size ≤ q) s.heap s (LW cy cs w0 w1 t0 t1 w2 mm iK (pn n) ty fv dz (afF (tg2 n) (X.1 0) (F.1 0) (G.1 0) (E.1 0)) B K X F G E B.2.1 (recH X.2.1 Hs n) Sh tx hd me wk fr (pn n) iK ty) H locs) : lG p l e s m below meth c b H locs pc ls [] := by
  obtain ⟨X2, F2, G2, E2, wd2, hv2, hh2⟩ := lw_rec hn rfl (fun q => hh.2 q) (fun q => (hh.1 q).2) ⟨vX, vF, vG, vE⟩ wd
  exact NX iK (pn n) ty fv dz (recH X.2.1 Hs n) Sh tx hd me wk fr B K X2 F2 G2 E2 ⟨by unfold pn; split <;> omega, hiK, htx, hhd, ⟨vB, vK⟩, hv2, hh2⟩ H locs ls hl wd2
end LWN
