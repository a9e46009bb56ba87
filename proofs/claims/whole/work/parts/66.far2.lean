/-! the reference's row of weights -/
def fSum (f : Int → Int) : Int := sm (fun k => if f k < 0 then 97 else f k) 32
def fCnt (f : Int → Int) : Int := sm (fun k => if f k < 0 then 0 else 1) 32
theorem sm_uZ (g f : Int → Int) (i x : Int) (i0 : 0 ≤ i) : ∀ n : Nat, sm (fun k => g (uZ f i x k)) n = sm (fun k => g (f k)) n + (if i < n then g x - g (f i) else 0)
  | 0 => by rw [if_neg (by omega)]; rfl
  | n + 1 => by
    rw [sm, sm, sm_uZ g f i x i0 n]
    rcases (show i < (n : Int) ∨ i = (n : Int) ∨ (n : Int) < i by omega) with q | q | q
    · rw [if_pos q, if_pos (by omega), uZ_n (by omega)]
      omega
    · rw [if_neg (by omega), if_pos (by omega), ← q, uZ_s]
      omega
    · rw [if_neg (by omega), if_neg (by omega), uZ_n (by omega)]
      omega
theorem sm_nn {f : Int → Int} (h : ∀ k, 0 ≤ f k) : ∀ n : Nat, 0 ≤ sm f n
  | 0 => Int.le_refl _
  | n + 1 => by
    have ih := sm_nn h n
    have hn := h (n : Int)
    rw [sm]
    omega
theorem fSum_nn (f : Int → Int) : 0 ≤ fSum f := sm_nn (fun k => by split <;> omega) 32
theorem fSum_u (f : Int → Int) {i : Int} (x : Int) (i0 : 0 ≤ i) (i1 : i < 32) : fSum (uZ f i x) = fSum f + ((if x < 0 then 97 else x) - (if f i < 0 then 97 else f i)) := by
  have e := sm_uZ (fun z => if z < 0 then 97 else z) f i x i0 32
  rw [if_pos (by omega)] at e
  exact e
theorem fCnt_u (f : Int → Int) {i : Int} (x : Int) (i0 : 0 ≤ i) (i1 : i < 32) : fCnt (uZ f i x) = fCnt f + ((if x < 0 then 0 else 1) - (if f i < 0 then 0 else 1)) := by
  have e := sm_uZ (fun z => if z < 0 then 0 else 1) f i x i0 32
  rw [if_pos (by omega)] at e
  exact e
theorem fCnt_le (f : Int → Int) : 0 ≤ fCnt f ∧ fCnt f ≤ 32 := by
  have h := sm_le (f := fun k => if f k < 0 then 0 else 1) (n := 32) (fun k _ _ => by
    show 0 ≤ (if f k < 0 then (0 : Int) else 1) ∧ (if f k < 0 then (0 : Int) else 1) ≤ 1
    split <;> omega)
  exact h
def rF (mm oo : Int) (tp f : Int → Int) : Prop := (∀ t : Int, -1 ≤ f t ∧ f t ≤ 3 * fCnt f) ∧ (∀ t : Int, 0 ≤ f t → 1 ≤ t ∧ ∃ n : Nat, Wk mm oo tp n t (f t)) ∧ (0 ≤ f (nx mm 0 1) ∧ f (nx mm 0 1) ≤ zw mm oo tp 0 1)
theorem nx01 {mm : Int} (hm : 1 ≤ mm ∧ mm ≤ 5) : 1 ≤ nx mm 0 1 ∧ nx mm 0 1 < p2 mm := by
  have hp := p2_all hm.1 hm.2
  unfold nx wn
  omega
theorem rF_set {mm oo : Int} {tp f : Int → Int} {s b : Int} (hm : 1 ≤ mm ∧ mm ≤ 5) (ho : 2 ≤ oo ∧ oo ≤ 3) (h : rF mm oo tp f) (s0 : 1 ≤ s) (s1 : s < p2 mm) (b0 : 0 ≤ b) (b1 : b ≤ 1) (hs : 0 ≤ f s) (ht : 1 ≤ nx mm s b) (hv : f (nx mm s b) < 0 ∨ f s + zw mm oo tp s b < f (nx mm s b)) : rF mm oo tp (uZ f (nx mm s b) (f s + zw mm oo tp s b)) ∧ fSum (uZ f (nx mm s b) (f s + zw mm oo tp s b)) < fSum f := by
  have hp := p2_all hm.1 hm.2
  have hn := nx_le (x := s) (b := b) hm.1 hm.2 (by omega) s1 b0 b1
  have hz := zw_le (mm := mm) (tp := tp) ho s b
  have eS := fSum_u f (f s + zw mm oo tp s b) (i := nx mm s b) (by omega) (by omega)
  have eC := fCnt_u f (f s + zw mm oo tp s b) (i := nx mm s b) (by omega) (by omega)
  have lC := fCnt_le (uZ f (nx mm s b) (f s + zw mm oo tp s b))
  have hb := h.1 s
  have hb2 := h.1 (nx mm s b)
  rw [if_neg (by omega)] at eS eC
  have hc : f s + zw mm oo tp s b ≤ 3 * fCnt (uZ f (nx mm s b) (f s + zw mm oo tp s b)) ∧ fCnt f ≤ fCnt (uZ f (nx mm s b) (f s + zw mm oo tp s b)) := by
    rcases (show f (nx mm s b) < 0 ∨ 0 ≤ f (nx mm s b) by omega) with q | q
    · rw [if_pos q] at eC
      omega
    · rw [if_neg (by omega)] at eC
      omega
  refine ⟨⟨fun t => ?_, fun t ht0 => ?_, ?_⟩, ?_⟩
  · by_cases e : t = nx mm s b
    · rw [e, uZ_s]
      omega
    · have := h.1 t
      rw [uZ_n e]
      omega
  · by_cases e : t = nx mm s b
    · rw [e, uZ_s]
      obtain ⟨-, n, hw⟩ := h.2.1 s hs
      exact ⟨ht, n + 1, s, b, f s, hw, s0, ⟨b0, b1⟩, rfl, rfl⟩
    · rw [uZ_n e] at ht0 ⊢
      exact h.2.1 t ht0
  · have h3 := h.2.2
    by_cases e : nx mm 0 1 = nx mm s b
    · rw [e, uZ_s]
      rw [e] at h3
      omega
    · rw [uZ_n e]
      exact h3
  · rcases (show f (nx mm s b) < 0 ∨ 0 ≤ f (nx mm s b) by omega) with q | q
    · rw [if_pos q] at eS
      omega
    · rw [if_neg (by omega)] at eS
      omega
/-- a step that can't lower -/
def fxE (mm oo : Int) (tp f : Int → Int) (s b : Int) : Prop := 0 ≤ f s → 1 ≤ nx mm s b → 0 ≤ f (nx mm s b) ∧ f (nx mm s b) ≤ f s + zw mm oo tp s b
def oI (mm oo : Int) (tp f : Int → Int) (y : Int) : Prop := rF mm oo tp f ∧ (y = 0 → ∀ u b : Int, 1 ≤ u → u < p2 mm → 0 ≤ b → b ≤ 1 → fxE mm oo tp f u b)
def qI (mm oo : Int) (tp f0 f : Int → Int) (y s b : Int) : Prop := rF mm oo tp f ∧ (y = 0 → f = f0 ∧ ∀ u c : Int, 1 ≤ u → 0 ≤ c → c ≤ 1 → (u < s ∨ (u = s ∧ c < b)) → fxE mm oo tp f u c) ∧ (y = 1 → fSum f < fSum f0)
theorem oI_init {mm oo : Int} {tp : Int → Int} (hm : 1 ≤ mm ∧ mm ≤ 5) (ho : 2 ≤ oo ∧ oo ≤ 3) : oI mm oo tp (uZ (fun _ => -1) (nx mm 0 1) (zw mm oo tp 0 1)) 1 := by
  have hn := nx01 hm
  have hp := p2_all hm.1 hm.2
  have hz := zw_le (mm := mm) (tp := tp) ho 0 1
  have eC := fCnt_u (fun _ => -1) (zw mm oo tp 0 1) (i := nx mm 0 1) (by omega) (by omega)
  have e0 : fCnt (fun _ => -1) = 0 := rfl
  rw [if_neg (by omega), if_pos (by omega), e0] at eC
  refine ⟨⟨fun t => ?_, fun t ht => ?_, ?_⟩, fun q => by omega⟩
  · rw [eC]
    unfold uZ
    dsimp only
    split <;> omega
  · by_cases e : t = nx mm 0 1
    · rw [e, uZ_s]
      exact ⟨hn.1, 0, rfl, rfl⟩
    · rw [uZ_n e] at ht
      omega
  · rw [uZ_s]
    omega
theorem qI_of {mm oo : Int} {tp f : Int → Int} (h : rF mm oo tp f) : qI mm oo tp f f 0 1 0 := ⟨h, fun _ => ⟨rfl, fun u c u0 c0 _ q => by omega⟩, fun q => by omega⟩
theorem qI_up {mm oo : Int} {tp f0 f : Int → Int} {y s b : Int} (h : qI mm oo tp f0 f y s b) (q : 2 ≤ b ∨ f s < 0) : qI mm oo tp f0 f y (s + 1) 0 := by
  refine ⟨h.1, fun e => ⟨(h.2.1 e).1, fun u c u0 c0 c1 r => ?_⟩, h.2.2⟩
  rcases (show u < s ∨ u = s by omega) with z | z
  · exact (h.2.1 e).2 u c u0 c0 c1 (Or.inl z)
  · rcases q with w | w
    · exact (h.2.1 e).2 u c u0 c0 c1 (Or.inr ⟨z, by omega⟩)
    · intro a
      rw [z] at a
      omega
theorem qI_keep {mm oo : Int} {tp f0 f : Int → Int} {y s b : Int} (h : qI mm oo tp f0 f y s b) (q : nx mm s b ≤ 0 ∨ (0 ≤ f (nx mm s b) ∧ f (nx mm s b) ≤ f s + zw mm oo tp s b)) : qI mm oo tp f0 f y s (b + 1) := by
  refine ⟨h.1, fun e => ⟨(h.2.1 e).1, fun u c u0 c0 c1 r => ?_⟩, h.2.2⟩
  rcases (show (u < s ∨ (u = s ∧ c < b)) ∨ (u = s ∧ c = b) by omega) with z | z
  · exact (h.2.1 e).2 u c u0 c0 c1 z
  · rw [z.1, z.2]
    intro a a1
    omega
theorem qI_set {mm oo : Int} {tp f0 f : Int → Int} {y s b : Int} (hm : 1 ≤ mm ∧ mm ≤ 5) (ho : 2 ≤ oo ∧ oo ≤ 3) (h : qI mm oo tp f0 f y s b) (y01 : y = 0 ∨ y = 1) (s0 : 1 ≤ s) (s1 : s < p2 mm) (b0 : 0 ≤ b) (b1 : b ≤ 1) (hs : 0 ≤ f s) (ht : 1 ≤ nx mm s b) (hv : f (nx mm s b) < 0 ∨ f s + zw mm oo tp s b < f (nx mm s b)) : qI mm oo tp f0 (uZ f (nx mm s b) (f s + zw mm oo tp s b)) 1 s (b + 1) := by
  have h1 := rF_set hm ho h.1 s0 s1 b0 b1 hs ht hv
  refine ⟨h1.1, fun e => by omega, fun _ => ?_⟩
  rcases y01 with e | e
  · have e2 := (h.2.1 e).1
    rw [← e2]
    exact h1.2
  · have := h.2.2 e
    omega
theorem qI_end {mm oo : Int} {tp f0 f : Int → Int} {y s b : Int} (h : qI mm oo tp f0 f y s b) (hs : p2 mm ≤ s) : oI mm oo tp f y ∧ (y = 0 → fSum f = fSum f0) ∧ (y = 1 → fSum f < fSum f0) :=
  ⟨⟨h.1, fun e u b u0 u1 b0 b1 => (h.2.1 e).2 u b u0 b0 b1 (Or.inl (by omega))⟩, fun e => by rw [(h.2.1 e).1], h.2.2⟩
theorem rF_96 {mm oo : Int} {tp f : Int → Int} (h : rF mm oo tp f) (t : Int) : -1 ≤ f t ∧ f t ≤ 96 := by
  have := h.1 t
  have := fCnt_le f
  omega
/-- the last weights of the reference, the way back to 0 among them -/
def gB (mm oo : Int) (tp f : Int → Int) : Int → Int := fun t => if t = 0 then (if f 1 < 0 then -1 else f 1 + zw mm oo tp 1 0) else f t
theorem gB_ok {mm oo : Int} {tp f : Int → Int} (hm : 1 ≤ mm ∧ mm ≤ 5) (ho : 2 ≤ oo ∧ oo ≤ 3) (h : oI mm oo tp f 0) : gF mm oo tp (gB mm oo tp f) := by
  have hp := p2_all hm.1 hm.2
  have hz := zw_le (mm := mm) (tp := tp) ho 1 0
  have n10 : nx mm 1 0 = 0 := by
    unfold nx wn
    omega
  have hn := nx01 hm
  refine ⟨fun t => ?_, fun s b s0 s1 b0 b1 hs => ?_, ?_, fun t t0 t1 ht => ?_⟩
  · have := h.1.1 t
    have := h.1.1 1
    unfold gB
    split
    · split <;> omega
    · omega
  · have es : gB mm oo tp f s = f s := if_neg (by omega)
    rw [es] at hs ⊢
    by_cases e : nx mm s b = 0
    · have e1 : s = 1 ∧ b = 0 := by
        rcases (show b = 0 ∨ b = 1 by omega) with q | q
        · rw [q] at e
          unfold nx wn at e
          omega
        · rw [q] at e
          unfold nx wn at e
          omega
      rw [e1.1] at hs
      rw [e1.1, e1.2, n10]
      have e2 : gB mm oo tp f 0 = f 1 + zw mm oo tp 1 0 := by
        unfold gB
        rw [if_pos rfl, if_neg (by omega)]
      rw [e2]
      omega
    · have hr := nx_le (x := s) (b := b) hm.1 hm.2 (by omega) s1 b0 b1
      have et : gB mm oo tp f (nx mm s b) = f (nx mm s b) := if_neg e
      rw [et]
      exact h.2 rfl s b s0 s1 b0 b1 hs (by omega)
  · have et : gB mm oo tp f (nx mm 0 1) = f (nx mm 0 1) := if_neg (by omega)
    rw [et]
    exact h.1.2.2
  · by_cases e : t = 0
    · rw [e] at ht ⊢
      have hf : 0 ≤ f 1 := by
        rcases Int.lt_or_le (f 1) 0 with q | q
        · unfold gB at ht
          rw [if_pos rfl, if_pos q] at ht
          omega
        · exact q
      have e2 : gB mm oo tp f 0 = f 1 + zw mm oo tp 1 0 := by
        unfold gB
        rw [if_pos rfl, if_neg (by omega)]
      obtain ⟨-, n, hw⟩ := h.1.2.1 1 hf
      exact ⟨n + 1, 1, 0, f 1, hw, by omega, by omega, n10.symm, e2⟩
    · have et : gB mm oo tp f t = f t := if_neg e
      rw [et] at ht ⊢
      exact (h.1.2.1 t ht).2
theorem far_end {mm oo : Int} {tp f : Int → Int} (hm : 1 ≤ mm ∧ mm ≤ 5) (ho : 2 ≤ oo ∧ oo ≤ 3) (h : oI mm oo tp f 0) : lvN mm oo tp (p2 mm).toNat 0 = if f 1 < 0 then -1 else f 1 + zw mm oo tp 1 0 := by
  have hp := p2_all hm.1 hm.2
  have e := lvN_end hm ho (gB_ok hm ho h) 0 (by omega) (by omega)
  rw [e]
  exact if_pos rfl
