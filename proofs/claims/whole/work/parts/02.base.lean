/-! numbers: every int is iI of an integer -/
def iI (z : Int) : Int32 := Int32.ofInt z
def lI (z : Int) : Int64 := Int64.ofInt z
def bI (P : Prop) [Decidable P] : Int := if P then 1 else 0
theorem bI_t {P : Prop} [Decidable P] (h : P) : bI P = 1 := if_pos h
theorem bI_f {P : Prop} [Decidable P] (h : ¬ P) : bI P = 0 := if_neg h
theorem bI_le {P : Prop} [Decidable P] : 0 ≤ bI P ∧ bI P ≤ 1 := by unfold bI; split <;> omega
theorem iI_toInt {z : Int} (h1 : -2147483648 ≤ z) (h2 : z < 2147483648) : (iI z).toInt = z := Int32.toInt_ofInt_of_le (by omega) (by omega)
theorem iI_add (a b : Int) : iI a + iI b = iI (a + b) := (Int32.ofInt_add a b).symm
theorem iI_sub (a b : Int) : iI a - iI b = iI (a - b) := (Int32.ofInt_sub a b).symm
theorem iI_mul (a b : Int) : iI a * iI b = iI (a * b) := (Int32.ofInt_mul a b).symm
theorem iI_neg (a : Int) : -iI a = iI (-a) := (Int32.ofInt_neg a).symm
theorem iI_of (x : Int32) : iI x.toInt = x := Int32.ofInt_toInt x
theorem iI_rng (x : Int32) : -2147483648 ≤ x.toInt ∧ x.toInt < 2147483648 := by
  have h1 := Int32.le_toInt x
  have h2 := Int32.toInt_lt x
  omega
theorem iI_le {a b : Int} (a1 : -2147483648 ≤ a ∧ a < 2147483648) (b1 : -2147483648 ≤ b ∧ b < 2147483648) : iI a ≤ iI b ↔ a ≤ b := by
  rw [Int32.le_iff_toInt_le, iI_toInt a1.1 a1.2, iI_toInt b1.1 b1.2]
theorem iI_lt {a b : Int} (a1 : -2147483648 ≤ a ∧ a < 2147483648) (b1 : -2147483648 ≤ b ∧ b < 2147483648) : iI a < iI b ↔ a < b := by
  rw [Int32.lt_iff_toInt_lt, iI_toInt a1.1 a1.2, iI_toInt b1.1 b1.2]
theorem iI_eq {a b : Int} (a1 : -2147483648 ≤ a ∧ a < 2147483648) (b1 : -2147483648 ≤ b ∧ b < 2147483648) : iI a = iI b ↔ a = b := by
  rw [← Int32.toInt_inj, iI_toInt a1.1 a1.2, iI_toInt b1.1 b1.2]
theorem iI_0 : iI 0 = 0 := rfl
theorem iI_nI (n : Nat) : nI n = iI (n : Int) := by
  rw [← Int32.toBitVec_inj]
  simp [nI, iI]
theorem iI_nat {a : Int} (h : 0 ≤ a) : iI a = nI a.toNat := by
  rw [iI_nI, Int.toNat_of_nonneg h]
theorem iI_idx {i : Int} {n : Nat} (h0 : 0 ≤ i) (h : i < (n : Int)) (hn : n < 2147483648) : vp_in (iI i) n ∧ (iI i).toNatClampNeg = i.toNat := by
  have hi : i.toNat < 2147483648 := by omega
  rw [iI_nat h0]
  exact ⟨vp_in_nI (by omega) hn, nI_clamp hi⟩
theorem iI_div {a b : Int} (h0 : 0 ≤ a) (h1 : a < 2147483648) (h2 : 0 < b) (h3 : b < 2147483648) : iI a / iI b = iI (a / b) := by
  rw [iI_nat h0, iI_nat (Int.le_of_lt h2), pk_div (by omega) (by omega) (by omega), iI_nI]
  congr 1
  rw [Int.natCast_ediv, Int.toNat_of_nonneg h0, Int.toNat_of_nonneg (Int.le_of_lt h2)]
theorem iI_rem {a b : Int} (h0 : 0 ≤ a) (h1 : a < 2147483648) (h2 : 0 < b) (h3 : b < 2147483648) : iI a - iI a / iI b * iI b = iI (a % b) := by
  rw [iI_nat h0, iI_nat (Int.le_of_lt h2), pk_rem (by omega) (by omega) (by omega), iI_nI]
  congr 1
  rw [Int.natCast_emod, Int.toNat_of_nonneg h0, Int.toNat_of_nonneg (Int.le_of_lt h2)]
theorem iI_sm : ∀ k : Nat, k < 32 → ((nI k &&& 31).toBitVec.smod 32).toNat = k := by decide +kernel
/-- powers of 2 -/
def p2 (k : Int) : Int := (2 : Int) ^ k.toNat
theorem iI_shl {a k : Int} (h0 : 0 ≤ a) (k0 : 0 ≤ k) (k1 : k < 32) (h : a * p2 k < 4294967296) : iI a <<< (iI k &&& 31) = iI (a * p2 k) := by
  rw [iI_nat h0, iI_nat k0]
  have e := iI_sm k.toNat (by omega)
  have h' : ((a.toNat * 2 ^ k.toNat : Nat) : Int) = a * p2 k := by
    rw [Int.natCast_mul, Int.toNat_of_nonneg h0, p2]
    norm_cast
  rw [pk_shlN _ k.toNat e (by omega), iI_nI, h']
theorem iI_shr {a k : Int} (h0 : 0 ≤ a) (h1 : a < 2147483648) (k0 : 0 ≤ k) (k1 : k < 32) : iI a >>> (iI k &&& 31) = iI (a / p2 k) := by
  rw [iI_nat h0, iI_nat k0]
  have e := iI_sm k.toNat (by omega)
  have h' : ((a.toNat / 2 ^ k.toNat : Nat) : Int) = a / p2 k := by
    rw [Int.natCast_ediv, Int.toNat_of_nonneg h0, p2]
    norm_cast
  rw [pk_shrN (by omega) _ k.toNat e, iI_nI, h']
/-- arrays of ints, read and written at an integer -/
def uZ (f : Int → Int) (i x : Int) : Int → Int := fun j => if j = i then x else f j
theorem uZ_s {f : Int → Int} {i x : Int} : uZ f i x i = x := if_pos rfl
theorem uZ_n {f : Int → Int} {i x j : Int} (h : j ≠ i) : uZ f i x j = f j := if_neg h
theorem uZ_upd (f : Int → Int) {i : Int} (h0 : 0 ≤ i) (x : Int) : upd (fun j : Nat => iI (f (j : Int))) i.toNat (iI x) = fun j : Nat => iI (uZ f i x (j : Int)) := by
  funext j
  unfold upd uZ
  by_cases h : j = i.toNat
  · rw [if_pos h, if_pos (by omega)]
  · rw [if_neg h, if_neg (by omega)]
def zA (cy : ClassId) (a n : Nat) (f : Int → Int) : Nat × va_E := (a, .inl (cy, n, .inl (fun j : Nat => iI (f (j : Int)))))
def zO (a ci : Nat) (fs : List Value) : Nat × va_E := (a, .inr (ci, fs))
def zR (cs : ClassId) (a n : Nat) (f : Nat → Option Nat) : Nat × va_E := (a, .inl (cs, n, .inr (.inr (.inr (.inr f)))))
theorem zA_at {D : va_G} {cl : List vw_C} {cy : ClassId} {a n : Nat} {f g : Int → Int} {H : Heap} (h : va_at D cl (zA cy a n f) H) (e : ∀ k : Int, 0 ≤ k → k < n → f k = g k) : va_at D cl (zA cy a n g) H := by
  have h1 : H[a]? = some (vp_cell cy (n, .inl (fun j : Nat => iI (f (j : Int))))) := h
  show H[a]? = some (vp_cell cy (n, .inl (fun j : Nat => iI (g (j : Int)))))
  rw [h1]
  simp only [vp_cell, arrV]
  congr 3
  funext j
  rw [e j.val (by omega) (by omega)]
/-- the kinds of arrays -/
def zT (cy cs : ClassId) : List (ClassId × FieldType) := [(cy, .int), (cs, .object "LikelyWalks$State")]
def Wd (D : va_G) (T : List (ClassId × FieldType)) (A : Nat → Prop) (H0 : Heap) (s : State) (ws : va_W) (H : Heap) (locs : List Loc) : Prop :=
  va_P D vwCl ws H ∧ va_D A ws ∧ va_S A H0 H locs ∧ va_K D vwCl T s
theorem z_map {α : Type} {l r : List α} : ∀ {is : List Nat} , is.map (fun i => l[i]?) = r.map some → ∀ (j : Nat) (q : α), r[j]? = some q → ∃ i, is[j]? = some i ∧ l[i]? = some q := by
  intro is h j q hq
  have h1 : (is.map (fun i => l[i]?))[j]? = some (some q) := by rw [h]; simp [hq]
  rw [List.getElem?_map] at h1
  cases hi : is[j]? with
  | none => rw [hi] at h1; cases h1
  | some i => rw [hi] at h1; exact ⟨i, rfl, by simpa using h1⟩
def zrep : va_W → List Nat → va_W → va_W
  | ws, [], _ => ws
  | ws, _ :: _, [] => ws
  | ws, i :: is, q :: qs => zrep (ws.set i q) is qs
theorem zrep_get : ∀ (is : List Nat) (qs ws : va_W) (k : Nat) (q : Nat × va_E), (zrep ws is qs)[k]? = some q → (∃ j : Nat, is[j]? = some k ∧ qs[j]? = some q) ∨ (ws[k]? = some q ∧ (qs.length = is.length → k ∉ is)) := by
  intro is
  induction is with
  | nil => intro qs ws k q h; exact Or.inr ⟨by simpa [zrep] using h, fun _ => List.not_mem_nil⟩
  | cons i is ih =>
    intro qs ws k q h
    cases qs with
    | nil => exact Or.inr ⟨by simpa [zrep] using h, fun e => by simp at e⟩
    | cons q1 qs =>
      rcases ih qs (ws.set i q1) k q h with ⟨j, h1, h2⟩ | ⟨h1, h2⟩
      · exact Or.inl ⟨j + 1, by simpa using h1, by simpa using h2⟩
      · by_cases hk : k = i
        · subst hk
          refine Or.inl ⟨0, rfl, ?_⟩
          rw [List.getElem?_set] at h1
          simp at h1
          exact by simpa using congrArg some h1.2
        · rw [List.getElem?_set_ne (fun e => hk e.symm)] at h1
          refine Or.inr ⟨h1, fun e hm => ?_⟩
          rcases List.mem_cons.mp hm with e1 | e1
          · exact hk e1
          · exact h2 (by simpa using e) e1
theorem zrep_adr {ws wc qs : va_W} {is : List Nat} (hC : is.map (fun i => ws[i]?) = wc.map some) (ha : qs.map Prod.fst = wc.map Prod.fst) (k : Nat) (q : Nat × va_E) (h : (zrep ws is qs)[k]? = some q) : ∃ q0 : Nat × va_E, ws[k]? = some q0 ∧ q0.1 = q.1 := by
  rcases zrep_get is qs ws k q h with ⟨j, h1, h2⟩ | ⟨h1, -⟩
  · have e1 : (qs.map Prod.fst)[j]? = some q.1 := by simp [h2]
    rw [ha, List.getElem?_map] at e1
    cases hw : wc[j]? with
    | none => rw [hw] at e1; cases e1
    | some qq =>
      rw [hw] at e1
      obtain ⟨i, hi, hq⟩ := z_map hC j qq hw
      rw [h1] at hi
      cases hi
      exact ⟨qq, hq, by simpa using e1⟩
  · exact ⟨q, h1, rfl⟩
theorem zrep_P {D : va_G} {cl : List vw_C} {A : Nat → Prop} {ws wc qs : va_W} {is : List Nat} {H H1 : Heap} (hP : va_P D cl ws H) (hD : va_D A ws) (hC : is.map (fun i => ws[i]?) = wc.map some) (ha : qs.map Prod.fst = wc.map Prod.fst) (hP1 : va_P D cl qs H1) (hk : ∀ q : Nat, q < H.size → ¬ va_A wc H.size q → H1[q]? = H[q]?) : va_P D cl (zrep ws is qs) H1 ∧ va_D A (zrep ws is qs) := by
  have hlen : qs.length = is.length := by
    have h1 := congrArg List.length hC
    have h2 := congrArg List.length ha
    simp at h1 h2
    omega
  refine ⟨fun k q h => ?_, fun i j p q hi hj e => ?_, fun k q h => ?_⟩
  · rcases zrep_get is qs ws k q h with ⟨j, h1, h2⟩ | ⟨h1, h2⟩
    · exact hP1 j q h2
    · have hlt := (hP k q h1).lt
      refine (hP k q h1).kept (hk q.1 hlt ?_)
      rintro (⟨j, e, he⟩ | hge)
      · obtain ⟨i, hi, hq⟩ := z_map hC j _ he
        have hik : i = k := hD.1 i k _ _ hq h1 rfl
        subst hik
        exact h2 hlen (List.mem_of_getElem? hi)
      · omega
  · obtain ⟨p0, hp0, e1⟩ := zrep_adr hC ha i p hi
    obtain ⟨q0, hq0, e2⟩ := zrep_adr hC ha j q hj
    exact hD.1 i j p0 q0 hp0 hq0 (by rw [e1, e2, e])
  · obtain ⟨q0, hq0, e⟩ := zrep_adr hC ha k q h
    rw [← e]
    exact hD.2 k q0 hq0
theorem z_fm {α : Type} {l r : List α} {is : List Nat} (h : is.map (fun i => l[i]?) = r.map some) : is.filterMap (fun i => l[i]?) = r := by
  have h1 : is.filterMap (fun i => l[i]?) = (is.map (fun i => l[i]?)).filterMap id := by rw [List.filterMap_map]; rfl
  rw [h1, h, List.filterMap_map]
  have : (id ∘ some : α → Option α) = some := rfl
  rw [this, List.filterMap_some]
