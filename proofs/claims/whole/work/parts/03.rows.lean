/-! rows over integers, over one bundle of the world -/
section ZR
variable {p : Program} {l : Launch} {e : Env} {R : Room} {s : State} {m : MethodId} {args : Array Value} {below : List Frame} {meth : Method} {c : Code} {H : Heap} {locs : List Loc} {cells slots : Nat} {Q : State → Prop} {cc : ByteArray} {nL : Nat} {Ts : List Cond} {own : String}
variable {pc : Nat} {ls : Array Slot} {rest : List Value} {D : va_G} {T : List (ClassId × FieldType)} {A : Nat → Prop} {H0 : Heap} {ws ws2 : va_W}
theorem z_iconst (C : CallFix p m c cc nL s args Ts own) {n : Int} (hdg : decode cc pc = .ok (.iconst n, 1))
    (k : W p l e R s m args below meth c H locs cells slots Q (F0 m (pc + 1) ls (.int (iI n) :: rest))) : W p l e R s m args below meth c H locs cells slots Q (F0 m pc ls rest) := lv_iconst C.1 C.2.1 hdg rfl k
theorem z_bipush (C : CallFix p m c cc nL s args Ts own) {n : Int} (hdg : decode cc pc = .ok (.bipush n, 2)) (h : (Int8.ofInt n).toInt32 = iI n := by decide +kernel)
    (k : W p l e R s m args below meth c H locs cells slots Q (F0 m (pc + 2) ls (.int (iI n) :: rest))) : W p l e R s m args below meth c H locs cells slots Q (F0 m pc ls rest) := lv_bipush C.1 C.2.1 hdg h k
theorem z_sipush (C : CallFix p m c cc nL s args Ts own) {n : Int} (hdg : decode cc pc = .ok (.sipush n, 3)) (h : (Int16.ofInt n).toInt32 = iI n := by decide +kernel)
    (k : W p l e R s m args below meth c H locs cells slots Q (F0 m (pc + 3) ls (.int (iI n) :: rest))) : W p l e R s m args below meth c H locs cells slots Q (F0 m pc ls rest) := lv_sipush C.1 C.2.1 hdg h k
theorem z_iadd (C : CallFix p m c cc nL s args Ts own) {a b : Int} (hdg : decode cc pc = .ok (.iadd, 1))
    (k : W p l e R s m args below meth c H locs cells slots Q (F0 m (pc + 1) ls (.int (iI (a + b)) :: rest))) : W p l e R s m args below meth c H locs cells slots Q (F0 m pc ls (.int (iI b) :: .int (iI a) :: rest)) := by
  refine lv_iadd C.1 C.2.1 hdg ?_
  rw [iI_add]
  exact k
theorem z_isub (C : CallFix p m c cc nL s args Ts own) {a b : Int} (hdg : decode cc pc = .ok (.isub, 1))
    (k : W p l e R s m args below meth c H locs cells slots Q (F0 m (pc + 1) ls (.int (iI (a - b)) :: rest))) : W p l e R s m args below meth c H locs cells slots Q (F0 m pc ls (.int (iI b) :: .int (iI a) :: rest)) := by
  refine lv_isub C.1 C.2.1 hdg ?_
  rw [iI_sub]
  exact k
theorem z_imul (C : CallFix p m c cc nL s args Ts own) {a b : Int} (hdg : decode cc pc = .ok (.imul, 1))
    (k : W p l e R s m args below meth c H locs cells slots Q (F0 m (pc + 1) ls (.int (iI (a * b)) :: rest))) : W p l e R s m args below meth c H locs cells slots Q (F0 m pc ls (.int (iI b) :: .int (iI a) :: rest)) := by
  refine lv_imul C.1 C.2.1 hdg ?_
  rw [iI_mul]
  exact k
theorem z_idiv (C : CallFix p m c cc nL s args Ts own) {a b : Int} (hdg : decode cc pc = .ok (.idiv, 1)) (h : 0 ≤ a ∧ a < 2147483648 ∧ 0 < b ∧ b < 2147483648)
    (k : W p l e R s m args below meth c H locs cells slots Q (F0 m (pc + 1) ls (.int (iI (a / b)) :: rest))) : W p l e R s m args below meth c H locs cells slots Q (F0 m pc ls (.int (iI b) :: .int (iI a) :: rest)) := by
  refine lv_idiv C.1 C.2.1 hdg (fun e0 => ?_) ?_
  · rw [← iI_0, iI_eq (by omega) (by omega)] at e0
    omega
  · rw [iI_div h.1 h.2.1 h.2.2.1 h.2.2.2]
    exact k
theorem z_irem (C : CallFix p m c cc nL s args Ts own) {a b : Int} (hdg : decode cc pc = .ok (.irem, 1)) (h : 0 ≤ a ∧ a < 2147483648 ∧ 0 < b ∧ b < 2147483648)
    (k : W p l e R s m args below meth c H locs cells slots Q (F0 m (pc + 1) ls (.int (iI (a % b)) :: rest))) : W p l e R s m args below meth c H locs cells slots Q (F0 m pc ls (.int (iI b) :: .int (iI a) :: rest)) := by
  refine lv_irem C.1 C.2.1 hdg (fun e0 => ?_) ?_
  · rw [← iI_0, iI_eq (by omega) (by omega)] at e0
    omega
  · rw [iI_rem h.1 h.2.1 h.2.2.1 h.2.2.2]
    exact k
theorem z_iand (C : CallFix p m c cc nL s args Ts own) {a b : Int} (v : Int) (hdg : decode cc pc = .ok (.iand, 1)) (h : iI a &&& iI b = iI v)
    (k : W p l e R s m args below meth c H locs cells slots Q (F0 m (pc + 1) ls (.int (iI v) :: rest))) : W p l e R s m args below meth c H locs cells slots Q (F0 m pc ls (.int (iI b) :: .int (iI a) :: rest)) := by
  refine lv_iand C.1 C.2.1 hdg ?_
  rw [h]
  exact k
theorem z_ior (C : CallFix p m c cc nL s args Ts own) {a b : Int} (v : Int) (hdg : decode cc pc = .ok (.ior, 1)) (h : iI a ||| iI b = iI v)
    (k : W p l e R s m args below meth c H locs cells slots Q (F0 m (pc + 1) ls (.int (iI v) :: rest))) : W p l e R s m args below meth c H locs cells slots Q (F0 m pc ls (.int (iI b) :: .int (iI a) :: rest)) := by
  refine lv_ior C.1 C.2.1 hdg ?_
  rw [h]
  exact k
theorem z_ixor (C : CallFix p m c cc nL s args Ts own) {a b : Int} (v : Int) (hdg : decode cc pc = .ok (.ixor, 1)) (h : iI a ^^^ iI b = iI v)
    (k : W p l e R s m args below meth c H locs cells slots Q (F0 m (pc + 1) ls (.int (iI v) :: rest))) : W p l e R s m args below meth c H locs cells slots Q (F0 m pc ls (.int (iI b) :: .int (iI a) :: rest)) := by
  refine lv_ixor C.1 C.2.1 hdg ?_
  rw [h]
  exact k
theorem z_ishl (C : CallFix p m c cc nL s args Ts own) {a b : Int} (v : Int) (hdg : decode cc pc = .ok (.ishl, 1)) (h : iI a <<< (iI b &&& 31) = iI v)
    (k : W p l e R s m args below meth c H locs cells slots Q (F0 m (pc + 1) ls (.int (iI v) :: rest))) : W p l e R s m args below meth c H locs cells slots Q (F0 m pc ls (.int (iI b) :: .int (iI a) :: rest)) := by
  refine lv_ishl C.1 C.2.1 hdg ?_
  rw [h]
  exact k
theorem z_ishr (C : CallFix p m c cc nL s args Ts own) {a b : Int} (v : Int) (hdg : decode cc pc = .ok (.ishr, 1)) (h : iI a >>> (iI b &&& 31) = iI v)
    (k : W p l e R s m args below meth c H locs cells slots Q (F0 m (pc + 1) ls (.int (iI v) :: rest))) : W p l e R s m args below meth c H locs cells slots Q (F0 m pc ls (.int (iI b) :: .int (iI a) :: rest)) := by
  refine lv_ishr C.1 C.2.1 hdg ?_
  rw [h]
  exact k
theorem z_iload_n (C : CallFix p m c cc nL s args Ts own) {lv : List (Nat × Value)} (hl : lv_has ls nL lv) {kk : Fin 4} {i : Nat} {x : Int32} (q : Nat) (hdg : decode cc pc = .ok (.iload_n kk, 1)) (hi : (kk : Nat) = i) (hq : lv[q]? = some (i, .int x))
    (k : W p l e R s m args below meth c H locs cells slots Q (F0 m (pc + 1) ls (.int x :: rest))) : W p l e R s m args below meth c H locs cells slots Q (F0 m pc ls rest) := lv_iload_n C.1 C.2.1 hdg hi (lv_at hl q hq) k
theorem z_iload (C : CallFix p m c cc nL s args Ts own) {lv : List (Nat × Value)} (hl : lv_has ls nL lv) {i : Nat} {x : Int32} (q : Nat) (hdg : decode cc pc = .ok (.iload i, 2)) (hq : lv[q]? = some (i, .int x))
    (k : W p l e R s m args below meth c H locs cells slots Q (F0 m (pc + 2) ls (.int x :: rest))) : W p l e R s m args below meth c H locs cells slots Q (F0 m pc ls rest) := lv_iload C.1 C.2.1 hdg (lv_at hl q hq) k
theorem z_lload_n (C : CallFix p m c cc nL s args Ts own) {lv : List (Nat × Value)} (hl : lv_has ls nL lv) {kk : Fin 4} {i : Nat} {x : Int64} (q : Nat) (hdg : decode cc pc = .ok (.lload_n kk, 1)) (hi : (kk : Nat) = i) (hq : lv[q]? = some (i, .long x))
    (k : W p l e R s m args below meth c H locs cells slots Q (F0 m (pc + 1) ls (.long x :: rest))) : W p l e R s m args below meth c H locs cells slots Q (F0 m pc ls rest) := lv_lload_n C.1 C.2.1 hdg hi (lv_at hl q hq) k
theorem z_lload (C : CallFix p m c cc nL s args Ts own) {lv : List (Nat × Value)} (hl : lv_has ls nL lv) {i : Nat} {x : Int64} (q : Nat) (hdg : decode cc pc = .ok (.lload i, 2)) (hq : lv[q]? = some (i, .long x))
    (k : W p l e R s m args below meth c H locs cells slots Q (F0 m (pc + 2) ls (.long x :: rest))) : W p l e R s m args below meth c H locs cells slots Q (F0 m pc ls rest) := lv_lload C.1 C.2.1 hdg (lv_at hl q hq) k
theorem z_aload_n (C : CallFix p m c cc nL s args Ts own) {lv : List (Nat × Value)} (hl : lv_has ls nL lv) {kk : Fin 4} {i x : Nat} (q : Nat) (hdg : decode cc pc = .ok (.aload_n kk, 1)) (hi : (kk : Nat) = i) (hq : lv[q]? = some (i, .ref x))
    (k : W p l e R s m args below meth c H locs cells slots Q (F0 m (pc + 1) ls (.ref x :: rest))) : W p l e R s m args below meth c H locs cells slots Q (F0 m pc ls rest) := lv_aload_n C.1 C.2.1 hdg hi (lv_at hl q hq) k
theorem z_aload (C : CallFix p m c cc nL s args Ts own) {lv : List (Nat × Value)} (hl : lv_has ls nL lv) {i x : Nat} (q : Nat) (hdg : decode cc pc = .ok (.aload i, 2)) (hq : lv[q]? = some (i, .ref x))
    (k : W p l e R s m args below meth c H locs cells slots Q (F0 m (pc + 2) ls (.ref x :: rest))) : W p l e R s m args below meth c H locs cells slots Q (F0 m pc ls rest) := lv_aload C.1 C.2.1 hdg (lv_at hl q hq) k
theorem z_iinc (C : CallFix p m c cc nL s args Ts own) {lv lv' : List (Nat × Value)} (hl : lv_has ls nL lv) {i : Nat} {n a : Int} (q : Nat) (hdg : decode cc pc = .ok (.iinc i n, 3)) (hq : lv[q]? = some (i, .int (iI a))) (hn : i < nL) (hv : (i, Value.int (iI (a + n))) :: lv.filter (fun q => !(q.1 == i) && !(q.1 + 1 == i && q.2.category == 2)) = lv')
    (k : ∀ ls' : Array Slot, lv_has ls' nL lv' → W p l e R s m args below meth c H locs cells slots Q (F0 m (pc + 3) ls' rest)) : W p l e R s m args below meth c H locs cells slots Q (F0 m pc ls rest) := lv_iinc C.1 C.2.1 hdg hl hq (iI_add a n) hn hv k
theorem z_goto (C : CallFix p m c cc nL s args Ts own) {off : Int} {tgt : Nat} (hdg : decode cc pc = .ok (.goto off, 3)) (ht : (pc : Int) + off = (tgt : Int)) (k : W p l e R s m args below meth c H locs cells slots Q (F0 m tgt ls rest)) : W p l e R s m args below meth c H locs cells slots Q (F0 m pc ls rest) := lv_goto C.1 C.2.1 hdg ht k
theorem z_icmp_eq (C : CallFix p m c cc nL s args Ts own) {a b : Int} {off : Int} {tgt : Nat} (hdg : decode cc pc = .ok (.if_icmp .eq off, 3)) (ht : (pc : Int) + off = (tgt : Int)) (r : (-2147483648 ≤ a ∧ a < 2147483648) ∧ -2147483648 ≤ b ∧ b < 2147483648)
    (kt : a = b → W p l e R s m args below meth c H locs cells slots Q (F0 m tgt ls rest)) (kf : ¬ a = b → W p l e R s m args below meth c H locs cells slots Q (F0 m (pc + 3) ls rest)) : W p l e R s m args below meth c H locs cells slots Q (F0 m pc ls (.int (iI b) :: .int (iI a) :: rest)) := by
  have e0 := iI_eq r.1 r.2
  have e1 := iI_le r.1 r.2
  have e2 := iI_le r.2 r.1
  have e3 := iI_lt r.1 r.2
  have e4 := iI_lt r.2 r.1
  refine lv_icmp_eq C.1 C.2.1 hdg ht (fun h => kt ?_) (fun h => kf ?_)
  · simp only [e0, e1, e2, e3, e4, ne_eq] at h
    omega
  · simp only [e0, e1, e2, e3, e4, ne_eq] at h
    omega
theorem z_icmp_ne (C : CallFix p m c cc nL s args Ts own) {a b : Int} {off : Int} {tgt : Nat} (hdg : decode cc pc = .ok (.if_icmp .ne off, 3)) (ht : (pc : Int) + off = (tgt : Int)) (r : (-2147483648 ≤ a ∧ a < 2147483648) ∧ -2147483648 ≤ b ∧ b < 2147483648)
    (kt : ¬ a = b → W p l e R s m args below meth c H locs cells slots Q (F0 m tgt ls rest)) (kf : a = b → W p l e R s m args below meth c H locs cells slots Q (F0 m (pc + 3) ls rest)) : W p l e R s m args below meth c H locs cells slots Q (F0 m pc ls (.int (iI b) :: .int (iI a) :: rest)) := by
  have e0 := iI_eq r.1 r.2
  have e1 := iI_le r.1 r.2
  have e2 := iI_le r.2 r.1
  have e3 := iI_lt r.1 r.2
  have e4 := iI_lt r.2 r.1
  refine lv_icmp_ne C.1 C.2.1 hdg ht (fun h => kt ?_) (fun h => kf ?_)
  · simp only [e0, e1, e2, e3, e4, ne_eq] at h
    omega
  · simp only [e0, e1, e2, e3, e4, ne_eq] at h
    omega
theorem z_icmp_lt (C : CallFix p m c cc nL s args Ts own) {a b : Int} {off : Int} {tgt : Nat} (hdg : decode cc pc = .ok (.if_icmp .lt off, 3)) (ht : (pc : Int) + off = (tgt : Int)) (r : (-2147483648 ≤ a ∧ a < 2147483648) ∧ -2147483648 ≤ b ∧ b < 2147483648)
    (kt : a < b → W p l e R s m args below meth c H locs cells slots Q (F0 m tgt ls rest)) (kf : b ≤ a → W p l e R s m args below meth c H locs cells slots Q (F0 m (pc + 3) ls rest)) : W p l e R s m args below meth c H locs cells slots Q (F0 m pc ls (.int (iI b) :: .int (iI a) :: rest)) := by
  have e0 := iI_eq r.1 r.2
  have e1 := iI_le r.1 r.2
  have e2 := iI_le r.2 r.1
  have e3 := iI_lt r.1 r.2
  have e4 := iI_lt r.2 r.1
  refine lv_icmp_lt C.1 C.2.1 hdg ht (fun h => kt ?_) (fun h => kf ?_)
  · simp only [e0, e1, e2, e3, e4, ne_eq] at h
    omega
  · simp only [e0, e1, e2, e3, e4, ne_eq] at h
    omega
theorem z_icmp_ge (C : CallFix p m c cc nL s args Ts own) {a b : Int} {off : Int} {tgt : Nat} (hdg : decode cc pc = .ok (.if_icmp .ge off, 3)) (ht : (pc : Int) + off = (tgt : Int)) (r : (-2147483648 ≤ a ∧ a < 2147483648) ∧ -2147483648 ≤ b ∧ b < 2147483648)
    (kt : b ≤ a → W p l e R s m args below meth c H locs cells slots Q (F0 m tgt ls rest)) (kf : a < b → W p l e R s m args below meth c H locs cells slots Q (F0 m (pc + 3) ls rest)) : W p l e R s m args below meth c H locs cells slots Q (F0 m pc ls (.int (iI b) :: .int (iI a) :: rest)) := by
  have e0 := iI_eq r.1 r.2
  have e1 := iI_le r.1 r.2
  have e2 := iI_le r.2 r.1
  have e3 := iI_lt r.1 r.2
  have e4 := iI_lt r.2 r.1
  refine lv_icmp_ge C.1 C.2.1 hdg ht (fun h => kt ?_) (fun h => kf ?_)
  · simp only [e0, e1, e2, e3, e4, ne_eq] at h
    omega
  · simp only [e0, e1, e2, e3, e4, ne_eq] at h
    omega
theorem z_icmp_gt (C : CallFix p m c cc nL s args Ts own) {a b : Int} {off : Int} {tgt : Nat} (hdg : decode cc pc = .ok (.if_icmp .gt off, 3)) (ht : (pc : Int) + off = (tgt : Int)) (r : (-2147483648 ≤ a ∧ a < 2147483648) ∧ -2147483648 ≤ b ∧ b < 2147483648)
    (kt : b < a → W p l e R s m args below meth c H locs cells slots Q (F0 m tgt ls rest)) (kf : a ≤ b → W p l e R s m args below meth c H locs cells slots Q (F0 m (pc + 3) ls rest)) : W p l e R s m args below meth c H locs cells slots Q (F0 m pc ls (.int (iI b) :: .int (iI a) :: rest)) := by
  have e0 := iI_eq r.1 r.2
  have e1 := iI_le r.1 r.2
  have e2 := iI_le r.2 r.1
  have e3 := iI_lt r.1 r.2
  have e4 := iI_lt r.2 r.1
  refine lv_icmp_gt C.1 C.2.1 hdg ht (fun h => kt ?_) (fun h => kf ?_)
  · simp only [e0, e1, e2, e3, e4, ne_eq] at h
    omega
  · simp only [e0, e1, e2, e3, e4, ne_eq] at h
    omega
theorem z_icmp_le (C : CallFix p m c cc nL s args Ts own) {a b : Int} {off : Int} {tgt : Nat} (hdg : decode cc pc = .ok (.if_icmp .le off, 3)) (ht : (pc : Int) + off = (tgt : Int)) (r : (-2147483648 ≤ a ∧ a < 2147483648) ∧ -2147483648 ≤ b ∧ b < 2147483648)
    (kt : a ≤ b → W p l e R s m args below meth c H locs cells slots Q (F0 m tgt ls rest)) (kf : b < a → W p l e R s m args below meth c H locs cells slots Q (F0 m (pc + 3) ls rest)) : W p l e R s m args below meth c H locs cells slots Q (F0 m pc ls (.int (iI b) :: .int (iI a) :: rest)) := by
  have e0 := iI_eq r.1 r.2
  have e1 := iI_le r.1 r.2
  have e2 := iI_le r.2 r.1
  have e3 := iI_lt r.1 r.2
  have e4 := iI_lt r.2 r.1
  refine lv_icmp_le C.1 C.2.1 hdg ht (fun h => kt ?_) (fun h => kf ?_)
  · simp only [e0, e1, e2, e3, e4, ne_eq] at h
    omega
  · simp only [e0, e1, e2, e3, e4, ne_eq] at h
    omega
theorem z_if_eq (C : CallFix p m c cc nL s args Ts own) {a : Int} {off : Int} {tgt : Nat} (hdg : decode cc pc = .ok (.ifCond .eq off, 3)) (ht : (pc : Int) + off = (tgt : Int)) (r : -2147483648 ≤ a ∧ a < 2147483648)
    (kt : a = 0 → W p l e R s m args below meth c H locs cells slots Q (F0 m tgt ls rest)) (kf : ¬ a = 0 → W p l e R s m args below meth c H locs cells slots Q (F0 m (pc + 3) ls rest)) : W p l e R s m args below meth c H locs cells slots Q (F0 m pc ls (.int (iI a) :: rest)) := by
  have r0 : -2147483648 ≤ (0 : Int) ∧ (0 : Int) < 2147483648 := by omega
  have e0 : iI a = (0 : Int32) ↔ a = 0 := iI_eq r r0
  have e1 : iI a ≤ (0 : Int32) ↔ a ≤ 0 := iI_le r r0
  have e2 : (0 : Int32) ≤ iI a ↔ 0 ≤ a := iI_le r0 r
  have e3 : iI a < (0 : Int32) ↔ a < 0 := iI_lt r r0
  have e4 : (0 : Int32) < iI a ↔ 0 < a := iI_lt r0 r
  refine lv_if_eq C.1 C.2.1 hdg ht (fun h => kt ?_) (fun h => kf ?_)
  · simp only [e0, e1, e2, e3, e4, ne_eq] at h
    omega
  · simp only [e0, e1, e2, e3, e4, ne_eq] at h
    omega
theorem z_if_ne (C : CallFix p m c cc nL s args Ts own) {a : Int} {off : Int} {tgt : Nat} (hdg : decode cc pc = .ok (.ifCond .ne off, 3)) (ht : (pc : Int) + off = (tgt : Int)) (r : -2147483648 ≤ a ∧ a < 2147483648)
    (kt : ¬ a = 0 → W p l e R s m args below meth c H locs cells slots Q (F0 m tgt ls rest)) (kf : a = 0 → W p l e R s m args below meth c H locs cells slots Q (F0 m (pc + 3) ls rest)) : W p l e R s m args below meth c H locs cells slots Q (F0 m pc ls (.int (iI a) :: rest)) := by
  have r0 : -2147483648 ≤ (0 : Int) ∧ (0 : Int) < 2147483648 := by omega
  have e0 : iI a = (0 : Int32) ↔ a = 0 := iI_eq r r0
  have e1 : iI a ≤ (0 : Int32) ↔ a ≤ 0 := iI_le r r0
  have e2 : (0 : Int32) ≤ iI a ↔ 0 ≤ a := iI_le r0 r
  have e3 : iI a < (0 : Int32) ↔ a < 0 := iI_lt r r0
  have e4 : (0 : Int32) < iI a ↔ 0 < a := iI_lt r0 r
  refine lv_if_ne C.1 C.2.1 hdg ht (fun h => kt ?_) (fun h => kf ?_)
  · simp only [e0, e1, e2, e3, e4, ne_eq] at h
    omega
  · simp only [e0, e1, e2, e3, e4, ne_eq] at h
    omega
theorem z_if_lt (C : CallFix p m c cc nL s args Ts own) {a : Int} {off : Int} {tgt : Nat} (hdg : decode cc pc = .ok (.ifCond .lt off, 3)) (ht : (pc : Int) + off = (tgt : Int)) (r : -2147483648 ≤ a ∧ a < 2147483648)
    (kt : a < 0 → W p l e R s m args below meth c H locs cells slots Q (F0 m tgt ls rest)) (kf : 0 ≤ a → W p l e R s m args below meth c H locs cells slots Q (F0 m (pc + 3) ls rest)) : W p l e R s m args below meth c H locs cells slots Q (F0 m pc ls (.int (iI a) :: rest)) := by
  have r0 : -2147483648 ≤ (0 : Int) ∧ (0 : Int) < 2147483648 := by omega
  have e0 : iI a = (0 : Int32) ↔ a = 0 := iI_eq r r0
  have e1 : iI a ≤ (0 : Int32) ↔ a ≤ 0 := iI_le r r0
  have e2 : (0 : Int32) ≤ iI a ↔ 0 ≤ a := iI_le r0 r
  have e3 : iI a < (0 : Int32) ↔ a < 0 := iI_lt r r0
  have e4 : (0 : Int32) < iI a ↔ 0 < a := iI_lt r0 r
  refine lv_if_lt C.1 C.2.1 hdg ht (fun h => kt ?_) (fun h => kf ?_)
  · simp only [e0, e1, e2, e3, e4, ne_eq] at h
    omega
  · simp only [e0, e1, e2, e3, e4, ne_eq] at h
    omega
theorem z_if_ge (C : CallFix p m c cc nL s args Ts own) {a : Int} {off : Int} {tgt : Nat} (hdg : decode cc pc = .ok (.ifCond .ge off, 3)) (ht : (pc : Int) + off = (tgt : Int)) (r : -2147483648 ≤ a ∧ a < 2147483648)
    (kt : 0 ≤ a → W p l e R s m args below meth c H locs cells slots Q (F0 m tgt ls rest)) (kf : a < 0 → W p l e R s m args below meth c H locs cells slots Q (F0 m (pc + 3) ls rest)) : W p l e R s m args below meth c H locs cells slots Q (F0 m pc ls (.int (iI a) :: rest)) := by
  have r0 : -2147483648 ≤ (0 : Int) ∧ (0 : Int) < 2147483648 := by omega
  have e0 : iI a = (0 : Int32) ↔ a = 0 := iI_eq r r0
  have e1 : iI a ≤ (0 : Int32) ↔ a ≤ 0 := iI_le r r0
  have e2 : (0 : Int32) ≤ iI a ↔ 0 ≤ a := iI_le r0 r
  have e3 : iI a < (0 : Int32) ↔ a < 0 := iI_lt r r0
  have e4 : (0 : Int32) < iI a ↔ 0 < a := iI_lt r0 r
  refine lv_if_ge C.1 C.2.1 hdg ht (fun h => kt ?_) (fun h => kf ?_)
  · simp only [e0, e1, e2, e3, e4, ne_eq] at h
    omega
  · simp only [e0, e1, e2, e3, e4, ne_eq] at h
    omega
theorem z_if_gt (C : CallFix p m c cc nL s args Ts own) {a : Int} {off : Int} {tgt : Nat} (hdg : decode cc pc = .ok (.ifCond .gt off, 3)) (ht : (pc : Int) + off = (tgt : Int)) (r : -2147483648 ≤ a ∧ a < 2147483648)
    (kt : 0 < a → W p l e R s m args below meth c H locs cells slots Q (F0 m tgt ls rest)) (kf : a ≤ 0 → W p l e R s m args below meth c H locs cells slots Q (F0 m (pc + 3) ls rest)) : W p l e R s m args below meth c H locs cells slots Q (F0 m pc ls (.int (iI a) :: rest)) := by
  have r0 : -2147483648 ≤ (0 : Int) ∧ (0 : Int) < 2147483648 := by omega
  have e0 : iI a = (0 : Int32) ↔ a = 0 := iI_eq r r0
  have e1 : iI a ≤ (0 : Int32) ↔ a ≤ 0 := iI_le r r0
  have e2 : (0 : Int32) ≤ iI a ↔ 0 ≤ a := iI_le r0 r
  have e3 : iI a < (0 : Int32) ↔ a < 0 := iI_lt r r0
  have e4 : (0 : Int32) < iI a ↔ 0 < a := iI_lt r0 r
  refine lv_if_gt C.1 C.2.1 hdg ht (fun h => kt ?_) (fun h => kf ?_)
  · simp only [e0, e1, e2, e3, e4, ne_eq] at h
    omega
  · simp only [e0, e1, e2, e3, e4, ne_eq] at h
    omega
theorem z_if_le (C : CallFix p m c cc nL s args Ts own) {a : Int} {off : Int} {tgt : Nat} (hdg : decode cc pc = .ok (.ifCond .le off, 3)) (ht : (pc : Int) + off = (tgt : Int)) (r : -2147483648 ≤ a ∧ a < 2147483648)
    (kt : a ≤ 0 → W p l e R s m args below meth c H locs cells slots Q (F0 m tgt ls rest)) (kf : 0 < a → W p l e R s m args below meth c H locs cells slots Q (F0 m (pc + 3) ls rest)) : W p l e R s m args below meth c H locs cells slots Q (F0 m pc ls (.int (iI a) :: rest)) := by
  have r0 : -2147483648 ≤ (0 : Int) ∧ (0 : Int) < 2147483648 := by omega
  have e0 : iI a = (0 : Int32) ↔ a = 0 := iI_eq r r0
  have e1 : iI a ≤ (0 : Int32) ↔ a ≤ 0 := iI_le r r0
  have e2 : (0 : Int32) ≤ iI a ↔ 0 ≤ a := iI_le r0 r
  have e3 : iI a < (0 : Int32) ↔ a < 0 := iI_lt r r0
  have e4 : (0 : Int32) < iI a ↔ 0 < a := iI_lt r0 r
  refine lv_if_le C.1 C.2.1 hdg ht (fun h => kt ?_) (fun h => kf ?_)
  · simp only [e0, e1, e2, e3, e4, ne_eq] at h
    omega
  · simp only [e0, e1, e2, e3, e4, ne_eq] at h
    omega
theorem z_ifb_eq (C : CallFix p m c cc nL s args Ts own) {P : Prop} [Decidable P] {off : Int} {tgt : Nat} (hdg : decode cc pc = .ok (.ifCond .eq off, 3)) (ht : (pc : Int) + off = (tgt : Int))
    (kt : ¬ P → W p l e R s m args below meth c H locs cells slots Q (F0 m tgt ls rest)) (kf : P → W p l e R s m args below meth c H locs cells slots Q (F0 m (pc + 3) ls rest)) : W p l e R s m args below meth c H locs cells slots Q (F0 m pc ls (.int (iI (bI P)) :: rest)) := by
  have hb := bI_le (P := P)
  refine z_if_eq C hdg ht (by omega) (fun h => kt ?_) (fun h => kf ?_)
  · by_cases hP : P
    · first | exact hP | (rw [bI_t hP] at h; omega)
    · first | exact hP | (rw [bI_f hP] at h; omega)
  · by_cases hP : P
    · first | exact hP | (rw [bI_t hP] at h; omega)
    · first | exact hP | (rw [bI_f hP] at h; omega)
theorem z_ifb_ne (C : CallFix p m c cc nL s args Ts own) {P : Prop} [Decidable P] {off : Int} {tgt : Nat} (hdg : decode cc pc = .ok (.ifCond .ne off, 3)) (ht : (pc : Int) + off = (tgt : Int))
    (kt : P → W p l e R s m args below meth c H locs cells slots Q (F0 m tgt ls rest)) (kf : ¬ P → W p l e R s m args below meth c H locs cells slots Q (F0 m (pc + 3) ls rest)) : W p l e R s m args below meth c H locs cells slots Q (F0 m pc ls (.int (iI (bI P)) :: rest)) := by
  have hb := bI_le (P := P)
  refine z_if_ne C hdg ht (by omega) (fun h => kt ?_) (fun h => kf ?_)
  · by_cases hP : P
    · first | exact hP | (rw [bI_t hP] at h; omega)
    · first | exact hP | (rw [bI_f hP] at h; omega)
  · by_cases hP : P
    · first | exact hP | (rw [bI_t hP] at h; omega)
    · first | exact hP | (rw [bI_f hP] at h; omega)
variable {cy cs : ClassId}
theorem z_iald (C : CallFix p m c cc nL s args Ts own) (w : Wd D (zT cy cs) A H0 s ws H locs) (q0 : Nat) {a n : Nat} {f : Int → Int} (he : ws[q0]? = some (zA cy a n f)) {i : Int} (hi : 0 ≤ i ∧ i < (n : Int)) (hn : n < 2147483648) (hdg : decode cc pc = .ok (.iaload, 1))
    (k : W p l e R s m args below meth c H locs cells slots Q (F0 m (pc + 1) ls (.int (iI (f i)) :: rest))) : W p l e R s m args below meth c H locs cells slots Q (F0 m pc ls (.int (iI i) :: .ref a :: rest)) := by
  have e0 : iI (f (((iI i).toNatClampNeg : Nat) : Int)) = iI (f i) := by rw [(iI_idx hi.1 hi.2 hn).2, Int.toNat_of_nonneg hi.1]
  refine va_iald (f := fun j : Nat => iI (f (j : Int))) C.1 C.2.1 w.2.2.2 w.1 q0 0 he rfl (iI_idx hi.1 hi.2 hn).1 hdg ?_
  show W p l e R s m args below meth c H locs cells slots Q (F0 m (pc + 1) ls (.int (iI (f (((iI i).toNatClampNeg : Nat) : Int))) :: rest))
  rw [e0]
  exact k
theorem z_iast (C : CallFix p m c cc nL s args Ts own) (w : Wd D (zT cy cs) A H0 s ws H locs) (q0 : Nat) {a n : Nat} {f : Int → Int} (he : ws[q0]? = some (zA cy a n f)) {i x : Int} (hi : 0 ≤ i ∧ i < (n : Int)) (hn : n < 2147483648) (hs : ws.set q0 (zA cy a n (uZ f i x)) = ws2) (hdg : decode cc pc = .ok (.iastore, 1))
    (k : ∀ (H : Heap) (locs : List Loc), Wd D (zT cy cs) A H0 s ws2 H locs → W p l e R s m args below meth c H locs cells slots Q (F0 m (pc + 1) ls rest)) : W p l e R s m args below meth c H locs cells slots Q (F0 m pc ls (.int (iI x) :: .int (iI i) :: .ref a :: rest)) := by
  have e0 : ((a, .inl (cy, n, .inl (upd (fun j : Nat => iI (f (j : Int))) (iI i).toNatClampNeg (iI x)))) : Nat × va_E) = zA cy a n (uZ f i x) := by
    unfold zA
    rw [(iI_idx hi.1 hi.2 hn).2, uZ_upd f hi.1 x]
  refine va_iast (f := fun j : Nat => iI (f (j : Int))) C.1 C.2.1 w.2.2.2 w.1 w.2.1 w.2.2.1 q0 0 he rfl (iI_idx hi.1 hi.2 hn).1 hdg (fun H1 locs1 hP hD hS => k H1 locs1 ⟨?_, ?_, hS, w.2.2.2⟩)
  · rw [e0, hs] at hP
    exact hP
  · rw [e0, hs] at hD
    exact hD
theorem z_alen (C : CallFix p m c cc nL s args Ts own) (w : Wd D (zT cy cs) A H0 s ws H locs) (q0 : Nat) {a n : Nat} {f : Int → Int} (he : ws[q0]? = some (zA cy a n f)) (hdg : decode cc pc = .ok (.arraylength, 1))
    (k : W p l e R s m args below meth c H locs cells slots Q (F0 m (pc + 1) ls (.int (iI (n : Int)) :: rest))) : W p l e R s m args below meth c H locs cells slots Q (F0 m pc ls (.ref a :: rest)) :=
  va_alen C.1 C.2.1 w.2.2.2 w.1 q0 0 he rfl (iI_nI n) hdg k
theorem z_get (C : CallFix p m c cc nL s args Ts own) (w : Wd D T A H0 s ws H locs) {Cn ref : String} {TT : u_T} {N ci index : Nat} (hin : ∀ w ∈ u_ws Cn TT N, w ∈ Ts) (q0 : Nat) {a : Nat} {fs : List Value} (he : ws[q0]? = some (zO a ci fs)) (hc : vwCl[ci]? = some (Cn, TT, N)) (k0 : Nat) (hk : k0 < N) (hlink : (Cond.fieldLink own index ref (TT k0).2.1 (TT k0).2.2.1).before args s = true) (hsame : ∀ x, s.fieldFound? (TT k0).1 (TT k0).2.1 (TT k0).2.2.1 = some x → s.fieldFound? ref (TT k0).2.1 (TT k0).2.2.1 = some x) {v : Value} (hv : fs[k0]? = some v) (hdg : decode cc pc = .ok (.getfield index, 3))
    (k : W p l e R s m args below meth c H locs cells slots Q (F0 m (pc + 3) ls (v :: rest))) : W p l e R s m args below meth c H locs cells slots Q (F0 m pc ls (.ref a :: rest)) :=
  va_get C.1 C.2.1 C.2.2.2.2 hin C.2.2.2.1 w.2.2.2 w.1 q0 he hc k0 hk hlink hsame hv hdg k
theorem z_put (C : CallFix p m c cc nL s args Ts own) (w : Wd D T A H0 s ws H locs) {Cn ref : String} {TT : u_T} {N ci index : Nat} (hin : ∀ w ∈ u_ws Cn TT N, w ∈ Ts) (ty0 : Nat → FieldType) (hty : ∀ k, k < N → parseFieldDescriptor (TT k).2.2.1 = some (ty0 k)) (hnm : ∀ a, a < N → ∀ b, b < N → a ≠ b → (TT a).2.1 ≠ (TT b).2.1) (q0 : Nat) {a : Nat} {fs : List Value} (he : ws[q0]? = some (zO a ci fs)) (hc : vwCl[ci]? = some (Cn, TT, N)) (k0 : Nat) (hk : k0 < N) (hlink : (Cond.fieldLink own index ref (TT k0).2.1 (TT k0).2.2.1).before args s = true) (hsame : ∀ x, s.fieldFound? (TT k0).1 (TT k0).2.1 (TT k0).2.2.1 = some x → s.fieldFound? ref (TT k0).2.1 (TT k0).2.2.1 = some x) (hfin : (TT k0).2.2.2 = false) {ty : FieldType} {v : Value} (hd : parseFieldDescriptor (TT k0).2.2.1 = some ty) (hn : narrow ty v = v) (hfit : fits ty v = true) (hl : k0 < fs.length) (hs : ws.set q0 (zO a ci (fs.set k0 v)) = ws2)
    (hdg : decode cc pc = .ok (.putfield index, 3)) (k : ∀ (H : Heap) (locs : List Loc), Wd D T A H0 s ws2 H locs → W p l e R s m args below meth c H locs cells slots Q (F0 m (pc + 3) ls rest)) : W p l e R s m args below meth c H locs cells slots Q (F0 m pc ls (v :: .ref a :: rest)) :=
  va_put C.1 C.2.1 C.2.2.2.2 hin ty0 hty hnm C.2.2.2.1 w.2.2.2 w.1 w.2.1 w.2.2.1 q0 he hc k0 hk hlink hsame hfin hd hn hfit hl hdg (fun H1 locs1 hP hD hS => k H1 locs1 ⟨by rw [← hs]; exact hP, by rw [← hs]; exact hD, hS, w.2.2.2⟩)
theorem z_putF (C : CallFix p m c cc nL s args Ts own) (w : Wd D T A H0 s ws H locs) {Cn ref : String} {TT : u_T} {N ci index : Nat} (hin : ∀ w ∈ u_ws Cn TT N, w ∈ Ts) (ty0 : Nat → FieldType) (hty : ∀ k, k < N → parseFieldDescriptor (TT k).2.2.1 = some (ty0 k)) (hnm : ∀ a, a < N → ∀ b, b < N → a ≠ b → (TT a).2.1 ≠ (TT b).2.1) (q0 : Nat) {a : Nat} {fs : List Value} (he : ws[q0]? = some (zO a ci fs)) (hc : vwCl[ci]? = some (Cn, TT, N)) (k0 : Nat) (hk : k0 < N) (hlink : (Cond.fieldLink own index ref (TT k0).2.1 (TT k0).2.2.1).before args s = true) (hsame : ∀ x, s.fieldFound? (TT k0).1 (TT k0).2.1 (TT k0).2.2.1 = some x → s.fieldFound? ref (TT k0).2.1 (TT k0).2.2.1 = some x) (hfin : (TT k0).2.2.2 = true) (hin2 : meth.name = "<init>") (hdecl : (TT k0).1 = own) {ty : FieldType} {v : Value} (hd : parseFieldDescriptor (TT k0).2.2.1 = some ty) (hn : narrow ty v = v) (hfit : fits ty v = true) (hl : k0 < fs.length) (hs : ws.set q0 (zO a ci (fs.set k0 v)) = ws2)
    (hdg : decode cc pc = .ok (.putfield index, 3)) (k : ∀ (H : Heap) (locs : List Loc), Wd D T A H0 s ws2 H locs → W p l e R s m args below meth c H locs cells slots Q (F0 m (pc + 3) ls rest)) : W p l e R s m args below meth c H locs cells slots Q (F0 m pc ls (v :: .ref a :: rest)) :=
  va_putF C.1 C.2.1 C.2.2.2.2 hin ty0 hty hnm C.2.2.2.1 w.2.2.2 w.1 w.2.1 w.2.2.1 q0 he hc k0 hk hlink hsame hfin hin2 hdecl hd hn hfit hl hdg (fun H1 locs1 hP hD hS => k H1 locs1 ⟨by rw [← hs]; exact hP, by rw [← hs]; exact hD, hS, w.2.2.2⟩)
theorem z_cell (w : Wd D (zT cy cs) A H0 s ws H locs) (q0 : Nat) {a n : Nat} {f g : Int → Int} (he : ws[q0]? = some (zA cy a n f)) (e : ∀ k : Int, 0 ≤ k → k < n → f k = g k) (hs : ws.set q0 (zA cy a n g) = ws2) : Wd D (zT cy cs) A H0 s ws2 H locs := by
  have h1 : (a, (zA cy a n g).2) = zA cy a n g := rfl
  have h2 := w.1.set (e := (zA cy a n g).2) w.2.1 he (zA_at (w.1 q0 _ he) e) (fun _ _ => rfl)
  have h3 := w.2.1.set (e := (zA cy a n g).2) he
  rw [h1, hs] at h2 h3
  exact ⟨h2, h3, w.2.2.1, w.2.2.2⟩
end ZR
/-! contracts -/
def zPre (D : va_G) (T : List (ClassId × FieldType)) (ws : va_W) (sz : Nat) : State → Prop := fun U => U.heap.size = sz ∧ va_P D vwCl ws U.heap ∧ va_K D vwCl T U ∧ va_D (fun _ => True) ws
def zQ (D : va_G) (T : List (ClassId × FieldType)) (A : Nat → Prop) (ws : va_W) : State → Prop := fun t => va_P D vwCl ws t.heap ∧ va_K D vwCl T t ∧ va_D A ws
def zCi (l : Launch) (D : va_G) (T : List (ClassId × FieldType)) (y : MethodName) (wl : List Cond) (rm : Room) (av : List Value) (ws : va_W) (res : Int) (ws' : va_W) : Prop :=
  ∀ sz : Nat, Met l y wl rm (va_Pc av (zPre D T ws sz)) (va_Qi (fun r (_ : Unit) => r = iI res) (fun _ t => zQ D T (va_A ws sz) ws' t) (va_A ws sz)) 0 0 (va_A ws sz)
def zCl (l : Launch) (D : va_G) (T : List (ClassId × FieldType)) (y : MethodName) (wl : List Cond) (rm : Room) (av : List Value) (ws : va_W) (res : Int) (ws' : va_W) : Prop :=
  ∀ sz : Nat, Met l y wl rm (va_Pc av (zPre D T ws sz)) (va_Ql (fun r (_ : Unit) => r = lI res) (fun _ t => zQ D T (va_A ws sz) ws' t) (va_A ws sz)) 0 0 (va_A ws sz)
def zCv (l : Launch) (D : va_G) (T : List (ClassId × FieldType)) (y : MethodName) (wl : List Cond) (rm : Room) (av : List Value) (ws : va_W) (ws' : va_W) : Prop :=
  ∀ sz : Nat, Met l y wl rm (va_Pc av (zPre D T ws sz)) (va_Qv (fun (_ : Unit) => True) (fun _ t => zQ D T (va_A ws sz) ws' t) (va_A ws sz)) 0 0 (va_A ws sz)
section ZM
variable {l : Launch} {D : va_G} {T : List (ClassId × FieldType)} {y : MethodName} {wl wl' : List Cond} {rm : Room} {av : List Value} {ws ws' : va_W} {res : Int} {cc : ByteArray} {maxL : Nat} {ret : Option FieldType} {own : String} {lv : List (Nat × Value)}
theorem zM_mk {Qc : Nat → Array Value → State → Outcome → State → Prop} {mc ms : Nat} (hy : plainName y.cls = true) (hw : wl = Cond.code y cc maxL ret :: wl') (ho : y.cls = own) (hn : (lg_sl av).length ≤ maxL) (ha : lv_args 0 av = lv) (sz : Nat)
    (body : ∀ (p : Program) (e : Env) (s : State) (m : MethodId) (args : Array Value) (below : List Frame) (meth : Method) (c : Code) (ls : Array Slot), CallFix p m c cc maxL s args wl own → meth.sig.returnType = ret → meth.locks = false → meth.name = y.name → lv_has ls maxL lv → s.heap.size = sz → (∀ q, s.heap.size ≤ q → va_A ws sz q) → Wd D T (va_A ws sz) s.heap s ws s.heap [] →
      W p l e rm s m args below meth c s.heap [] 0 0 (MQ below (Qc sz) args s mc ms (va_A ws sz)) (F0 m 0 ls [])) : Met l y wl rm (va_Pc av (zPre D T ws sz)) (Qc sz) mc ms (va_A ws sz) := by
  refine Met.ofW (cc := cc) (maxL := maxL) (ret := ret) hy hw ?_
  intro p e s m args below meth c s₁ B hml hv
  obtain ⟨rfl, hsz, hP, hK, hD0⟩ := hv
  have hts := atoms_spec (ws := wl) B.pre
  have hown : s.vm.findClass own = some m.cls := by rw [← ho]; exact findClass_of_methodNamed B.named
  have hl := lv_entry av (n := maxL) hn
  rw [lg_entry_eq]
  rw [ha] at hl
  exact body p e s m _ below meth c _ ⟨B.exec, B.bytes, hml, hown, hts⟩ B.returns B.notSynchronized (name_of_methodNamed B.named B.method).1 hl hsz (fun q h => Or.inr (by omega)) ⟨hP, hD0.self, va_S.rf, hK⟩
end ZM
