section ZY
variable {p : Program} {l : Launch} {e : Env} {R : Room} {s : State} {m : MethodId} {args : Array Value} {below : List Frame} {meth : Method} {c : Code} {H : Heap} {locs : List Loc} {cells slots : Nat} {Q : State → Prop} {cc : ByteArray} {nL : Nat} {Ts : List Cond} {own : String}
variable {pc : Nat} {ls : Array Slot} {rest st : List Value} {D : va_G} {A : Nat → Prop} {H0 : Heap} {ws ws2 : va_W} {cy cs : ClassId}
def zU (f : Nat → Option Nat) (i : Int) (v : Nat) : Nat → Option Nat := fun j => if (j : Int) = i then some v else f j
theorem z_aald (C : CallFix p m c cc nL s args Ts own) (wd : Wd D (zT cy cs) A H0 s ws H locs) (q0 : Nat) {a n v : Nat} {f : Nat → Option Nat} (he : ws[q0]? = some (zR cs a n f)) {i : Int} (hi : 0 ≤ i ∧ i < (n : Int)) (hn : n < 2147483648) (hv : f i.toNat = some v) (hdg : decode cc pc = .ok (.aaload, 1))
    (k : W p l e R s m args below meth c H locs cells slots Q (F0 m (pc + 1) ls (.ref v :: rest))) : W p l e R s m args below meth c H locs cells slots Q (F0 m pc ls (.int (iI i) :: .ref a :: rest)) := by
  refine va_aldq (f := f) (C := "LikelyWalks$State") C.1 C.2.1 wd.2.2.2 wd.1 q0 1 he rfl (iI_idx hi.1 hi.2 hn).1 hdg ?_
  rw [(iI_idx hi.1 hi.2 hn).2, hv]
  exact k
theorem z_aast (C : CallFix p m c cc nL s args Ts own) (wd : Wd D (zT cy cs) A H0 s ws H locs) (q0 qk : Nat) {a n v : Nat} {vs : List Value} {f : Nat → Option Nat} (he : ws[q0]? = some (zR cs a n f)) (hv : ws[qk]? = some (zO v 3 vs)) {i : Int} (hi : 0 ≤ i ∧ i < (n : Int)) (hn : n < 2147483648) (hs : ws.set q0 (zR cs a n (zU f i v)) = ws2) (hdg : decode cc pc = .ok (.aastore, 1))
    (k : ∀ (H : Heap) (locs : List Loc), Wd D (zT cy cs) A H0 s ws2 H locs → W p l e R s m args below meth c H locs cells slots Q (F0 m (pc + 1) ls rest)) : W p l e R s m args below meth c H locs cells slots Q (F0 m pc ls (.ref v :: .int (iI i) :: .ref a :: rest)) := by
  have e0 : ((a, .inl (cs, n, .inr (.inr (.inr (.inr (va_up f (iI i).toNatClampNeg (some v))))))) : Nat × va_E) = zR cs a n (zU f i v) := by
    have e9 : va_up f i.toNat (some v) = zU f i v := by
      funext j
      unfold va_up zU
      by_cases h : j = i.toNat
      · rw [if_pos h, if_pos (by omega)]
      · rw [if_neg h, if_neg (by omega)]
    unfold zR
    rw [(iI_idx hi.1 hi.2 hn).2, e9]
  refine va_astq (f := f) (r := (RX3, TX3, 4)) C.1 C.2.1 wd.2.2.2 wd.1 wd.2.1 wd.2.2.1 q0 1 qk 3 he rfl hv rfl (iI_idx hi.1 hi.2 hn).1 hdg (fun H1 locs1 hP hD hS => k H1 locs1 ⟨?_, ?_, hS, wd.2.2.2⟩)
  · rw [e0, hs] at hP
    exact hP
  · rw [e0, hs] at hD
    exact hD
theorem zR_at {D : va_G} {cl : List vw_C} {cy : ClassId} {a n : Nat} {f g : Nat → Option Nat} {H : Heap} (h : va_at D cl (zR cy a n f) H) (e : ∀ k : Nat, k < n → f k = g k) : va_at D cl (zR cy a n g) H := by
  have h1 : H[a]? = some (vp_cell cy (n, .inr (.inr (.inr (.inr f))))) := h
  show H[a]? = some (vp_cell cy (n, .inr (.inr (.inr (.inr g)))))
  rw [h1]
  simp only [vp_cell, arrV]
  congr 3
  funext j
  rw [e j.val j.isLt]
theorem z_cellR (wd : Wd D (zT cy cs) A H0 s ws H locs) (q0 : Nat) {a n : Nat} {f g : Nat → Option Nat} (he : ws[q0]? = some (zR cs a n f)) (e : ∀ k : Nat, k < n → f k = g k) (hs : ws.set q0 (zR cs a n g) = ws2) : Wd D (zT cy cs) A H0 s ws2 H locs := by
  have h1 : (a, (zR cs a n g).2) = zR cs a n g := rfl
  have h2 := wd.1.set (e := (zR cs a n g).2) wd.2.1 he (zR_at (wd.1 q0 _ he) e) (fun _ _ => rfl)
  have h3 := wd.2.1.set (e := (zR cs a n g).2) he
  rw [h1, hs] at h2 h3
  exact ⟨h2, h3, wd.2.2.1, wd.2.2.2⟩
end ZY
/-- a row of a state, as a slice of the row of all its numbers -/
def sl (M : Int → Int) (a : Int) : Int → Int := fun k => M (a + k)
/-- the array of the past: the place that is taken next holds x, the others u, v, w in their order -/
def afF (t : Int) (x u v w : Nat) : Nat → Option Nat := fun j =>
  if (j : Int) = t then some x else if (if (j : Int) < t then (j : Int) else (j : Int) - 1) = 0 then some u else if (if (j : Int) < t then (j : Int) else (j : Int) - 1) = 1 then some v else some w
theorem afF_t (t : Int) (x u v w : Nat) (h : 0 ≤ t) : afF t x u v w t.toNat = some x := by
  unfold afF
  rw [if_pos (by omega)]
theorem afF_0 (x u v w : Nat) : afF 0 x u v w 0 = some x ∧ afF 0 x u v w 1 = some u ∧ afF 0 x u v w 2 = some v ∧ afF 0 x u v w 3 = some w := ⟨rfl, rfl, rfl, rfl⟩
theorem afF_3 (x u v w : Nat) : afF 3 x u v w 0 = some u ∧ afF 3 x u v w 1 = some v ∧ afF 3 x u v w 2 = some w ∧ afF 3 x u v w 3 = some x := ⟨rfl, rfl, rfl, rfl⟩
theorem afF_r (x u v w : Nat) (f : Nat → Option Nat) (h0 : f 0 = some u) (h1 : f 1 = some v) (h2 : f 2 = some w) (h3 : f 3 = some x) : ∀ k : Nat, k < 4 → f k = afF 3 x u v w k
  | 0, _ => h0
  | 1, _ => h1
  | 2, _ => h2
  | 3, _ => h3
/-- the place that a record takes; where it lies behind it; how many are kept then -/
def tg (n : Int) : Int := if n < 4 then n else 0
def tg2 (n : Int) : Int := if n < 4 then n else 3
def pn (n : Int) : Int := if n < 4 then n + 1 else 4
def mn (a b : Int) : Int := if b < a then b else a
section ZY2
variable {p : Program} {l : Launch} {e : Env} {R : Room} {s : State} {m : MethodId} {args : Array Value} {below : List Frame} {meth : Method} {c : Code} {H : Heap} {locs : List Loc} {cells slots : Nat} {Q : State → Prop} {cc : ByteArray} {nL : Nat} {Ts : List Cond} {own : String}
variable {pc : Nat} {ls : Array Slot} {rest st : List Value}
theorem z_mmin (C : CallFix p m c cc nL s args Ts own) (hsz : ls.size = nL) {index : Nat} (hlink : (Cond.methodLink own index Lib.Math.min.name).before args s = true) (hstat : (Cond.static Lib.Math.min.name).before args s = true) (hini : (Cond.initialized "java/lang/Math").before args s = true) (hcode : (Cond.code Lib.Math.min.name Lib.Math.min.code 2 (some .int)).before args s = true) (hfr : 1 ≤ R.frames) (hlo : (rest.map fun v => v.category).sum + 13 ≤ R.locals) (hc : cells ≤ R.cells ∧ slots ≤ R.slots) {a b : Int} (r : (-2147483648 ≤ a ∧ a < 2147483648) ∧ -2147483648 ≤ b ∧ b < 2147483648) (hdg : decode cc pc = .ok (.invokestatic index, 3))
    (k : W p l e R s m args below meth c H locs cells slots Q (F0 m (pc + 3) ls (.int (iI (mn a b)) :: rest))) : W p l e R s m args below meth c H locs cells slots Q (F0 m pc ls (.int (iI b) :: .int (iI a) :: rest)) := by
  refine va_mmin C.1 C.2.1 (by rw [C.2.2.1, hsz]) C.2.2.2.1 hlink hstat hini hcode hfr hlo hc.1 hc.2 hdg ?_
  have e0 : (if iI b < iI a then iI b else iI a) = iI (mn a b) := by
    have h := iI_lt r.2 r.1
    unfold mn
    by_cases hlt : b < a
    · rw [if_pos hlt, if_pos (h.mpr hlt)]
    · rw [if_neg hlt, if_neg (fun q => hlt (h.mp q))]
  rw [e0]
  exact k
end ZY2
theorem mn_le (a b : Int) : mn a b ≤ a ∧ mn a b ≤ b ∧ (mn a b = a ∨ mn a b = b) := by unfold mn; split <;> omega
