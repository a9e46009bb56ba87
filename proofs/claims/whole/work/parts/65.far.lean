/-! the least weights of walks from the state 0 back to it: the class' way, the reference's way, and that both end alike -/
theorem zw_le {mm oo : Int} {tp : Int → Int} (ho : 2 ≤ oo ∧ oo ≤ 3) (s b : Int) : 0 ≤ zw mm oo tp s b ∧ zw mm oo tp s b ≤ 3 := by
  have h := sm_le (f := fun k => sy (tp k) (wn mm s b)) (n := oo.toNat) (fun _ _ _ => sy_le _ _)
  show 0 ≤ sm (fun k => sy (tp k) (wn mm s b)) oo.toNat ∧ sm (fun k => sy (tp k) (wn mm s b)) oo.toNat ≤ 3
  omega
def lw1 (mm oo : Int) (tp dv : Int → Int) (d s b : Int) : Int → Int := if dv (nx mm s b) = -1 ∨ d + zw mm oo tp s b < dv (nx mm s b) then uZ dv (nx mm s b) (d + zw mm oo tp s b) else dv
def lwB (mm oo : Int) (tp dv : Int → Int) (d s : Int) : Nat → (Int → Int)
  | 0 => dv
  | n + 1 => lw1 mm oo tp (lwB mm oo tp dv d s n) d s (n : Int)
def lwS (mm oo : Int) (tp dv : Int → Int) (s : Int) : Int → Int := if dv s = -1 then dv else lwB mm oo tp dv (dv s) s 2
def lwF (mm oo : Int) (tp dv : Int → Int) : Nat → (Int → Int)
  | 0 => dv
  | n + 1 => if n = 0 then dv else lwS mm oo tp (lwF mm oo tp dv n) (n : Int)
def lvN (mm oo : Int) (tp : Int → Int) : Nat → (Int → Int)
  | 0 => uZ (fun _ => -1) (nx mm 0 1) (zw mm oo tp 0 1)
  | k + 1 => lwF mm oo tp (lvN mm oo tp k) (p2 mm).toNat
def fdA (x : Int) : Int := if x = -1 ∨ 40 < x then -5 else x
theorem lwB_at (mm oo : Int) (tp dv : Int → Int) (d s : Int) {i : Int} (h : 0 ≤ i) : lwB mm oo tp dv d s (i + 1).toNat = lw1 mm oo tp (lwB mm oo tp dv d s i.toNat) d s i := by
  rw [show (i + 1).toNat = i.toNat + 1 by omega, lwB, Int.toNat_of_nonneg h]
theorem lwF_at (mm oo : Int) (tp dv : Int → Int) {i : Int} (h : 1 ≤ i) : lwF mm oo tp dv (i + 1).toNat = lwS mm oo tp (lwF mm oo tp dv i.toNat) i := by
  rw [show (i + 1).toNat = i.toNat + 1 by omega, lwF, if_neg (by omega), Int.toNat_of_nonneg (by omega)]
theorem lvN_at (mm oo : Int) (tp : Int → Int) {i : Int} (h : 0 ≤ i) : lvN mm oo tp (i + 1).toNat = lwF mm oo tp (lvN mm oo tp i.toNat) (p2 mm).toNat := by
  rw [show (i + 1).toNat = i.toNat + 1 by omega, lvN]
def bdA (dv : Int → Int) (m : Int) : Prop := ∀ t : Int, -1 ≤ dv t ∧ dv t ≤ m
theorem bdA_up {dv : Int → Int} {m n : Int} (h : bdA dv m) (q : m ≤ n) : bdA dv n := fun t => by
  have := h t
  omega
theorem lw1_bd {mm oo : Int} {tp dv : Int → Int} {d m : Int} (ho : 2 ≤ oo ∧ oo ≤ 3) (s b : Int) (h : bdA dv (m + 3)) (hd : 0 ≤ d ∧ d ≤ m) : bdA (lw1 mm oo tp dv d s b) (m + 3) := by
  intro t
  have hz := zw_le (mm := mm) (tp := tp) ho s b
  have ht := h t
  unfold lw1
  split
  · unfold uZ
    split
    · omega
    · exact ht
  · exact ht
theorem lwB_bd {mm oo : Int} {tp dv : Int → Int} {d m : Int} (ho : 2 ≤ oo ∧ oo ≤ 3) (s : Int) (h : bdA dv m) (hd : 0 ≤ d ∧ d ≤ m) : ∀ n : Nat, bdA (lwB mm oo tp dv d s n) (m + 3)
  | 0 => bdA_up h (by omega)
  | n + 1 => lw1_bd ho s n (lwB_bd ho s h hd n) hd
theorem lwS_bd {mm oo : Int} {tp dv : Int → Int} {m : Int} (ho : 2 ≤ oo ∧ oo ≤ 3) (s : Int) (h : bdA dv m) : bdA (lwS mm oo tp dv s) (m + 3) := by
  have hs := h s
  unfold lwS
  split
  · exact bdA_up h (by omega)
  · exact lwB_bd ho s h (by omega) 2
theorem lwF_bd {mm oo : Int} {tp dv : Int → Int} {m : Int} (ho : 2 ≤ oo ∧ oo ≤ 3) (h : bdA dv m) : ∀ n : Nat, bdA (lwF mm oo tp dv n) (m + 3 * n)
  | 0 => bdA_up h (by omega)
  | n + 1 => by
    rw [lwF]
    split
    · exact bdA_up h (by omega)
    · exact bdA_up (lwS_bd ho n (lwF_bd ho h n)) (by omega)
theorem lvN_bd {mm oo : Int} {tp : Int → Int} (hm : 1 ≤ mm ∧ mm ≤ 5) (ho : 2 ≤ oo ∧ oo ≤ 3) : ∀ k : Nat, bdA (lvN mm oo tp k) (3 + 96 * k)
  | 0 => fun t => by
    have hz := zw_le (mm := mm) (tp := tp) ho 0 1
    rw [lvN]
    unfold uZ
    dsimp only
    split <;> omega
  | k + 1 => by
    have hp := p2_all hm.1 hm.2
    rw [lvN]
    exact bdA_up (lwF_bd ho (lvN_bd hm ho k) (p2 mm).toNat) (by omega)
/-! walks from the state 0 by a bit 1, on states other than 0, with their weights -/
def Wk (mm oo : Int) (tp : Int → Int) : Nat → Int → Int → Prop
  | 0, t, d => t = nx mm 0 1 ∧ d = zw mm oo tp 0 1
  | n + 1, t, d => ∃ s b e : Int, Wk mm oo tp n s e ∧ 1 ≤ s ∧ (0 ≤ b ∧ b ≤ 1) ∧ t = nx mm s b ∧ d = e + zw mm oo tp s b
theorem Wk_rng {mm oo : Int} {tp : Int → Int} (hm : 1 ≤ mm ∧ mm ≤ 5) : ∀ (n : Nat) (t d : Int), Wk mm oo tp n t d → 0 ≤ t ∧ t < p2 mm
  | 0, t, d, h => by
    have hp := p2_all hm.1 hm.2
    have := nx_le (x := 0) (b := 1) hm.1 hm.2 (by omega) (by omega) (by omega) (by omega)
    rw [h.1]
    exact this
  | n + 1, t, d, ⟨s, b, e, h1, h2, h3, h4, h5⟩ => by
    have ih := Wk_rng hm n s e h1
    have := nx_le (x := s) (b := b) hm.1 hm.2 (by omega) (by omega) h3.1 h3.2
    rw [h4]
    exact this
/-- weights that no step can lower, each of a walk -/
def gF (mm oo : Int) (tp G : Int → Int) : Prop := (∀ t : Int, -1 ≤ G t) ∧ (∀ s b : Int, 1 ≤ s → s < p2 mm → 0 ≤ b → b ≤ 1 → 0 ≤ G s → 0 ≤ G (nx mm s b) ∧ G (nx mm s b) ≤ G s + zw mm oo tp s b) ∧ (0 ≤ G (nx mm 0 1) ∧ G (nx mm 0 1) ≤ zw mm oo tp 0 1) ∧ (∀ t : Int, 0 ≤ t → t < p2 mm → 0 ≤ G t → ∃ n : Nat, Wk mm oo tp n t (G t))
theorem gF_wk {mm oo : Int} {tp G : Int → Int} (hm : 1 ≤ mm ∧ mm ≤ 5) (hG : gF mm oo tp G) : ∀ (n : Nat) (t d : Int), Wk mm oo tp n t d → 0 ≤ G t ∧ G t ≤ d
  | 0, t, d, h => by
    have := hG.2.2.1
    rw [h.1, h.2]
    exact this
  | n + 1, t, d, ⟨s, b, e, h1, h2, h3, h4, h5⟩ => by
    have ih := gF_wk hm hG n s e h1
    have hr := Wk_rng hm n s e h1
    have := hG.2.1 s b h2 hr.2 h3.1 h3.2 ih.1
    rw [h4]
    omega
/-- what holds of the class' weights all the time -/
def cI (mm oo : Int) (tp G dv : Int → Int) : Prop := (∀ t : Int, -1 ≤ dv t) ∧ (∀ t : Int, 0 ≤ t → t < p2 mm → dv t ≠ -1 → 0 ≤ G t ∧ G t ≤ dv t) ∧ (dv (nx mm 0 1) ≠ -1 ∧ dv (nx mm 0 1) ≤ zw mm oo tp 0 1)
def dLe (a b : Int → Int) : Prop := ∀ t : Int, a t ≠ -1 → b t ≠ -1 ∧ b t ≤ a t
theorem dLe_r (a : Int → Int) : dLe a a := fun _ h => ⟨h, Int.le_refl _⟩
theorem dLe_t {a b c : Int → Int} (h : dLe a b) (g : dLe b c) : dLe a c := fun t q => by
  have h1 := h t q
  have h2 := g t h1.1
  omega
theorem lw1_le {mm oo : Int} {tp dv : Int → Int} {d s b : Int} (ho : 2 ≤ oo ∧ oo ≤ 3) (hd : 0 ≤ d) : dLe dv (lw1 mm oo tp dv d s b) ∧ (lw1 mm oo tp dv d s b) (nx mm s b) ≠ -1 ∧ (lw1 mm oo tp dv d s b) (nx mm s b) ≤ d + zw mm oo tp s b := by
  have hz := zw_le (mm := mm) (tp := tp) ho s b
  unfold lw1
  split
  · rename_i h
    refine ⟨fun t q => ?_, ?_, ?_⟩
    · by_cases e : t = nx mm s b
      · rw [e, uZ_s]
        rw [e] at q
        omega
      · rw [uZ_n e]
        exact ⟨q, Int.le_refl _⟩
    · rw [uZ_s]
      omega
    · rw [uZ_s]
      omega
  · rename_i h
    exact ⟨dLe_r _, by omega, by omega⟩
theorem lw1_cI {mm oo : Int} {tp G dv : Int → Int} {d s b : Int} (hm : 1 ≤ mm ∧ mm ≤ 5) (ho : 2 ≤ oo ∧ oo ≤ 3) (hG : gF mm oo tp G) (h : cI mm oo tp G dv) (s0 : 1 ≤ s) (s1 : s < p2 mm) (b0 : 0 ≤ b) (b1 : b ≤ 1) (hs : 0 ≤ G s ∧ G s ≤ d) : cI mm oo tp G (lw1 mm oo tp dv d s b) := by
  have hz := zw_le (mm := mm) (tp := tp) ho s b
  have hg := hG.2.1 s b s0 s1 b0 b1 hs.1
  have hl := lw1_le (mm := mm) (tp := tp) (dv := dv) (s := s) (b := b) ho (show 0 ≤ d by omega)
  have h3 := hl.1 (nx mm 0 1) h.2.2.1
  refine ⟨fun t => ?_, fun t t0 t1 q => ?_, h3.1, Int.le_trans h3.2 h.2.2.2⟩
  · have ht := h.1 t
    unfold lw1
    split
    · unfold uZ
      split
      · omega
      · exact ht
    · exact ht
  · unfold lw1 at q ⊢
    split at q
    · rename_i c
      rw [if_pos c]
      by_cases e : t = nx mm s b
      · rw [e, uZ_s]
        omega
      · rw [uZ_n e] at q ⊢
        exact h.2.1 t t0 t1 q
    · rename_i c
      rw [if_neg c]
      exact h.2.1 t t0 t1 q
theorem lwS_all {mm oo : Int} {tp G dv : Int → Int} {s : Int} (hm : 1 ≤ mm ∧ mm ≤ 5) (ho : 2 ≤ oo ∧ oo ≤ 3) (hG : gF mm oo tp G) (h : cI mm oo tp G dv) (s0 : 1 ≤ s) (s1 : s < p2 mm) : cI mm oo tp G (lwS mm oo tp dv s) ∧ dLe dv (lwS mm oo tp dv s) ∧ (dv s ≠ -1 → ∀ b : Int, 0 ≤ b → b ≤ 1 → (lwS mm oo tp dv s) (nx mm s b) ≠ -1 ∧ (lwS mm oo tp dv s) (nx mm s b) ≤ dv s + zw mm oo tp s b) := by
  unfold lwS
  by_cases c : dv s = -1
  · rw [if_pos c]
    exact ⟨h, dLe_r _, fun q => absurd c q⟩
  · rw [if_neg c]
    have hs := h.2.1 s (by omega) s1 c
    have a0 := lw1_cI (b := 0) hm ho hG h s0 s1 (by omega) (by omega) hs
    have a1 := lw1_cI (b := 1) hm ho hG a0 s0 s1 (by omega) (by omega) hs
    have l0 := lw1_le (mm := mm) (tp := tp) (dv := dv) (s := s) (b := 0) ho (show 0 ≤ dv s by omega)
    have l1 := lw1_le (mm := mm) (tp := tp) (dv := lw1 mm oo tp dv (dv s) s 0) (s := s) (b := 1) ho (show 0 ≤ dv s by omega)
    have e : lwB mm oo tp dv (dv s) s 2 = lw1 mm oo tp (lw1 mm oo tp dv (dv s) s 0) (dv s) s 1 := rfl
    rw [e]
    refine ⟨a1, dLe_t l0.1 l1.1, fun _ b b0 b1 => ?_⟩
    rcases (show b = 0 ∨ b = 1 by omega) with rfl | rfl
    · have := l1.1 _ l0.2.1
      exact ⟨this.1, Int.le_trans this.2 l0.2.2⟩
    · exact l1.2
theorem lwF_all {mm oo : Int} {tp G dv : Int → Int} (hm : 1 ≤ mm ∧ mm ≤ 5) (ho : 2 ≤ oo ∧ oo ≤ 3) (hG : gF mm oo tp G) (h : cI mm oo tp G dv) : ∀ n : Nat, (n : Int) ≤ p2 mm → cI mm oo tp G (lwF mm oo tp dv n) ∧ dLe dv (lwF mm oo tp dv n) ∧ (∀ s : Int, 1 ≤ s → s < n → dv s ≠ -1 → ∀ b : Int, 0 ≤ b → b ≤ 1 → (lwF mm oo tp dv n) (nx mm s b) ≠ -1 ∧ (lwF mm oo tp dv n) (nx mm s b) ≤ dv s + zw mm oo tp s b)
  | 0, _ => ⟨h, dLe_r _, fun s s0 s1 => by omega⟩
  | n + 1, hn => by
    have ih := lwF_all hm ho hG h n (by omega)
    rw [lwF]
    by_cases c : n = 0
    · rw [if_pos c]
      exact ⟨h, dLe_r _, fun s s0 s1 => by omega⟩
    · rw [if_neg c]
      have hs := lwS_all (s := (n : Int)) hm ho hG ih.1 (by omega) (by omega)
      refine ⟨hs.1, dLe_t ih.2.1 hs.2.1, fun s s0 s1 q b b0 b1 => ?_⟩
      rcases (show s < (n : Int) ∨ s = (n : Int) by omega) with e | e
      · have h1 := ih.2.2 s s0 e q b b0 b1
        have h2 := hs.2.1 _ h1.1
        exact ⟨h2.1, Int.le_trans h2.2 h1.2⟩
      · have h1 := ih.2.1 s q
        subst e
        have h2 := hs.2.2 h1.1 b b0 b1
        exact ⟨h2.1, by omega⟩
theorem lvN_cI {mm oo : Int} {tp G : Int → Int} (hm : 1 ≤ mm ∧ mm ≤ 5) (ho : 2 ≤ oo ∧ oo ≤ 3) (hG : gF mm oo tp G) : ∀ k : Nat, cI mm oo tp G (lvN mm oo tp k)
  | 0 => by
    have hz := zw_le (mm := mm) (tp := tp) ho 0 1
    have hg := hG.2.2.1
    rw [lvN]
    refine ⟨fun t => ?_, fun t _ _ q => ?_, ?_⟩
    · unfold uZ
      dsimp only
      split <;> omega
    · by_cases e : t = nx mm 0 1
      · rw [e, uZ_s]
        exact hg
      · rw [uZ_n e] at q
        exact absurd rfl q
    · rw [uZ_s]
      omega
  | k + 1 => by
    have hp := p2_all hm.1 hm.2
    rw [lvN]
    exact (lwF_all hm ho hG (lvN_cI hm ho hG k) (p2 mm).toNat (by omega)).1
/-- a state whose weight is the last one -/
def fnl (G dv : Int → Int) (t : Int) : Int := if G t < 0 ∨ (dv t ≠ -1 ∧ dv t ≤ G t) then 1 else 0
theorem fnl_c (G dv : Int → Int) (t : Int) : (fnl G dv t = 1 ∧ (G t < 0 ∨ (dv t ≠ -1 ∧ dv t ≤ G t))) ∨ (fnl G dv t = 0 ∧ ¬ (G t < 0 ∨ (dv t ≠ -1 ∧ dv t ≤ G t))) := by
  unfold fnl
  split
  · rename_i h
    exact Or.inl ⟨rfl, h⟩
  · rename_i h
    exact Or.inr ⟨rfl, h⟩
theorem fnl_le {G a b : Int → Int} (h : dLe a b) (t : Int) : fnl G a t ≤ fnl G b t := by
  rcases fnl_c G a t with q | q <;> rcases fnl_c G b t with r | r <;> try omega
  exfalso
  rcases q.2 with e | e
  · exact r.2 (Or.inl e)
  · have := h t e.1
    exact r.2 (Or.inr ⟨this.1, Int.le_trans this.2 e.2⟩)
theorem fnl_new {mm oo : Int} {tp G dv : Int → Int} (hm : 1 ≤ mm ∧ mm ≤ 5) (ho : 2 ≤ oo ∧ oo ≤ 3) (hG : gF mm oo tp G) (h : cI mm oo tp G dv) : ∀ (n : Nat) (t d : Int), Wk mm oo tp n t d → d ≤ G t → fnl G dv t = 0 → ∃ u : Int, 0 ≤ u ∧ u < p2 mm ∧ fnl G dv u = 0 ∧ fnl G (lwF mm oo tp dv (p2 mm).toNat) u = 1
  | 0, t, d, hw, hd, hf => by
    exfalso
    have h3 := h.2.2
    rcases fnl_c G dv t with q | q
    · omega
    · rw [hw.2] at hd
      rw [hw.1] at q hd
      exact q.2 (Or.inr ⟨h3.1, Int.le_trans h3.2 hd⟩)
  | n + 1, t, d, hw, hd, hf => by
    have ht := gF_wk hm hG (n + 1) t d hw
    have hr := Wk_rng hm (n + 1) t d hw
    have hp := p2_all hm.1 hm.2
    obtain ⟨s, b, e, h1, h2, h3, h4, h5⟩ := hw
    have hs := gF_wk hm hG n s e h1
    have hsr := Wk_rng hm n s e h1
    have hg := hG.2.1 s b h2 hsr.2 h3.1 h3.2 hs.1
    rw [← h4] at hg
    rcases fnl_c G dv s with q | q
    · refine ⟨t, hr.1, hr.2, hf, ?_⟩
      have ha := (lwF_all hm ho hG h (p2 mm).toNat (by omega)).2.2 s h2 (by omega)
      have q2 : dv s ≠ -1 ∧ dv s ≤ G s := by
        rcases q.2 with z | z
        · omega
        · exact z
      have hb := ha q2.1 b h3.1 h3.2
      rw [← h4] at hb
      rcases fnl_c G (lwF mm oo tp dv (p2 mm).toNat) t with r | r
      · exact r.1
      · exact absurd (Or.inr ⟨hb.1, by omega⟩) r.2
    · exact fnl_new hm ho hG h n s e h1 (by omega) q.1
theorem fnl_01 (G dv : Int → Int) (t : Int) : 0 ≤ fnl G dv t ∧ fnl G dv t ≤ 1 := by
  rcases fnl_c G dv t with q | q <;> omega
theorem fnl_step {mm oo : Int} {tp G : Int → Int} (hm : 1 ≤ mm ∧ mm ≤ 5) (ho : 2 ≤ oo ∧ oo ≤ 3) (hG : gF mm oo tp G) : ∀ n : Nat, (∀ t : Int, 0 ≤ t → t < p2 mm → fnl G (lvN mm oo tp n) t = 1) ∨ (n : Int) ≤ sm (fnl G (lvN mm oo tp n)) (p2 mm).toNat
  | 0 => Or.inr (sm_le (f := fnl G (lvN mm oo tp 0)) (n := (p2 mm).toNat) (fun k _ _ => fnl_01 _ _ k)).1
  | n + 1 => by
    have hp := p2_all hm.1 hm.2
    have hc := lvN_cI hm ho hG n
    have hl := (lwF_all hm ho hG hc (p2 mm).toNat (by omega)).2.1
    have el : lvN mm oo tp (n + 1) = lwF mm oo tp (lvN mm oo tp n) (p2 mm).toNat := rfl
    rw [← el] at hl
    rcases fnl_step hm ho hG n with h | h
    · left
      intro t t0 t1
      have a := h t t0 t1
      have b := fnl_le (G := G) hl t
      have c := fnl_01 G (lvN mm oo tp (n + 1)) t
      omega
    · have tw := sm_two (f := fnl G (lvN mm oo tp n)) (g := fnl G (lvN mm oo tp (n + 1))) (p2 mm).toNat (fun k _ _ => fnl_le hl k)
      by_cases c : sm (fnl G (lvN mm oo tp n)) (p2 mm).toNat = sm (fnl G (lvN mm oo tp (n + 1))) (p2 mm).toNat
      · left
        intro t t0 t1
        have et := tw.2 c t t0 (by omega)
        rcases fnl_c G (lvN mm oo tp n) t with q | q
        · omega
        · exfalso
          have g0 : 0 ≤ G t := by
            rcases Int.lt_or_le (G t) 0 with z | z
            · exact absurd (Or.inl z) q.2
            · exact z
          obtain ⟨k, hk⟩ := hG.2.2.2 t t0 t1 g0
          obtain ⟨u, u0, u1, u2, u3⟩ := fnl_new hm ho hG hc k t (G t) hk (Int.le_refl _) q.1
          have eu := tw.2 c u u0 (by omega)
          rw [el] at eu
          omega
      · right
        omega
theorem lvN_end {mm oo : Int} {tp G : Int → Int} (hm : 1 ≤ mm ∧ mm ≤ 5) (ho : 2 ≤ oo ∧ oo ≤ 3) (hG : gF mm oo tp G) (t : Int) (t0 : 0 ≤ t) (t1 : t < p2 mm) : lvN mm oo tp (p2 mm).toNat t = G t := by
  have hp := p2_all hm.1 hm.2
  have hall : ∀ t : Int, 0 ≤ t → t < p2 mm → fnl G (lvN mm oo tp (p2 mm).toNat) t = 1 := by
    rcases fnl_step hm ho hG (p2 mm).toNat with h | h
    · exact h
    · intro t t0 t1
      have tw := sm_two (f := fnl G (lvN mm oo tp (p2 mm).toNat)) (g := fun _ => 1) (p2 mm).toNat (fun k _ _ => (fnl_01 _ _ k).2)
      have hb := sm_le (f := fun _ => (1 : Int)) (n := (p2 mm).toNat) (fun _ _ _ => by omega)
      exact tw.2 (by omega) t t0 (by omega)
  have hc := lvN_cI hm ho hG (p2 mm).toNat
  have h1 := hall t t0 t1
  have h2 := hc.1 t
  have h3 := hc.2.1 t t0 t1
  have h4 := hG.1 t
  rcases fnl_c G (lvN mm oo tp (p2 mm).toNat) t with q | q
  · by_cases c : lvN mm oo tp (p2 mm).toNat t = -1
    · rcases q.2 with z | z
      · omega
      · omega
    · have h5 := h3 c
      rcases q.2 with z | z
      · omega
      · omega
  · omega
