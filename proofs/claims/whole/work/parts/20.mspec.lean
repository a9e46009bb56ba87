/-! the answers and the states behind a call, told of the row M of all numbers of a state -/
def len (M : Int → Int) : Int := M 7 * M 1
def rdStep (M : Int → Int) (st b x : Int) : Int := if ¬ (0 ≤ st ∧ st < p2 (M 0)) then -1 else if ¬ (0 ≤ b ∧ b ≤ 1 ∧ 0 ≤ x ∧ x ≤ 1) then -2 else if x = 0 then wn (M 0) st b / 2 else nb (fun k => sy (sl M 2 k) (wn (M 0) st b)) (M 1).toNat
def rdLine (M : Int → Int) (k x : Int) : Int := if ¬ (0 ≤ k ∧ k < M 7 * M 1) then -1 else if x = 0 then sl M 92 k else if x = 1 then sl M 332 k else if x = 2 then (if k < M 8 then 1 else 0) else -2
def rdSent (M : Int → Int) (k : Int) : Int := if 0 ≤ k ∧ k < M 7 then sl M 12 k else -1
def rdRel (M : Int → Int) (k : Int) : Int := if 0 ≤ k ∧ k < M 10 then sl M 604 k else -1
def rdMet (M : Int → Int) (st : Int) : Int := if ¬ (0 ≤ st ∧ st < p2 (M 0)) then -1 else if sl M 572 st < 0 then -5 else sl M 572 st
def rdSur (M fu : Int → Int) (st x : Int) : Int := if ¬ (0 ≤ st ∧ st < p2 (M 0)) then -1 else if x < 0 then -2 else if sl M 572 st < 0 ∨ M 9 ≤ x then -5 else sb (M 0) fu (M 9) st (M 9 - 1 - x)
def er1 (M : Int → Int) (k : Int) : Int := if sl M 92 k = 2 then 1 else 0
def fl1 (M : Int → Int) (k : Int) : Int := if sl M 92 k = 2 ∨ sl M 92 k = sl M 332 k then 0 else 1
def wr1 (M : Int → Int) (k : Int) : Int := if sl M 604 k = sl M 12 k then 0 else 1
def cntE (M : Int → Int) : Int := sm (er1 M) (M 7 * M 1).toNat
def cntF (M : Int → Int) : Int := sm (fl1 M) (M 7 * M 1).toNat
def rdWrong (M : Int → Int) : Int := sm (wr1 M) (mn (M 10) (M 7)).toNat
theorem sm_one {f : Int → Int} {i x v : Int} (h : 0 ≤ i) (h1 : x = sm f i.toNat) (h2 : f i = v) : x + v = sm f (i + 1).toNat := by rw [sm_at f h, ← h1, h2]
theorem sm_zero {f : Int → Int} {i x : Int} (h : 0 ≤ i) (h1 : x = sm f i.toNat) (h2 : f i = 0) : x = sm f (i + 1).toNat := by rw [sm_at f h, ← h1, h2, Int.add_zero]
