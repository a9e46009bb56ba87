/-! what is made: arrays, objects, and constructors that make cells -/
def zNv {σ : Type} (l : Launch) (D : va_G) (T : List (ClassId × FieldType)) (y : MethodName) (wl : List Cond) (rm : Room) (mc ms : Nat) (av : List Value) (ws : va_W) (PU : σ → Prop) (ws' : σ → va_W) : Prop :=
  ∀ sz : Nat, Met l y wl rm (va_Pc av (zPre D T ws sz)) (va_Qv (fun (u : σ) => PU u) (fun u t => zQ D T (va_A ws sz) (ws' u) t) (va_A ws sz)) mc ms (va_A ws sz)
/-- the same, where the row of states can be made -/
def zPreO (D : va_G) (T : List (ClassId × FieldType)) (ws : va_W) (sz : Nat) : State → Prop := fun U => zPre D T ws sz U ∧ va_AO "LikelyWalks$State" U
def zNo {σ : Type} (l : Launch) (D : va_G) (T : List (ClassId × FieldType)) (y : MethodName) (wl : List Cond) (rm : Room) (mc ms : Nat) (av : List Value) (ws : va_W) (PU : σ → Prop) (ws' : σ → va_W) : Prop :=
  ∀ sz : Nat, Met l y wl rm (va_Pc av (zPreO D T ws sz)) (va_Qv (fun (u : σ) => PU u) (fun u t => zQ D T (va_A ws sz) (ws' u) t) (va_A ws sz)) mc ms (va_A ws sz)
section ZMO
variable {l : Launch} {D : va_G} {T : List (ClassId × FieldType)} {y : MethodName} {wl wl' : List Cond} {rm : Room} {av : List Value} {ws ws' : va_W} {res : Int} {cc : ByteArray} {maxL : Nat} {ret : Option FieldType} {own : String} {lv : List (Nat × Value)}
theorem zM_mkO {Qc : Nat → Array Value → State → Outcome → State → Prop} {mc ms : Nat} (hy : plainName y.cls = true) (hw : wl = Cond.code y cc maxL ret :: wl') (ho : y.cls = own) (hn : (lg_sl av).length ≤ maxL) (ha : lv_args 0 av = lv) (sz : Nat)
    (body : ∀ (p : Program) (e : Env) (s : State) (m : MethodId) (args : Array Value) (below : List Frame) (meth : Method) (c : Code) (ls : Array Slot), CallFix p m c cc maxL s args wl own → meth.sig.returnType = ret → meth.locks = false → meth.name = y.name → lv_has ls maxL lv → s.heap.size = sz → (∀ q, s.heap.size ≤ q → va_A ws sz q) → Wd D T (va_A ws sz) s.heap s ws s.heap [] → va_AO "LikelyWalks$State" s →
      W p l e rm s m args below meth c s.heap [] 0 0 (MQ below (Qc sz) args s mc ms (va_A ws sz)) (F0 m 0 ls [])) : Met l y wl rm (va_Pc av (zPreO D T ws sz)) (Qc sz) mc ms (va_A ws sz) := by
  refine Met.ofW (cc := cc) (maxL := maxL) (ret := ret) hy hw ?_
  intro p e s m args below meth c s₁ B hml hv
  obtain ⟨rfl, ⟨hsz, hP, hK, hD0⟩, hO⟩ := hv
  have hts := atoms_spec (ws := wl) B.pre
  have hown : s.vm.findClass own = some m.cls := by rw [← ho]; exact findClass_of_methodNamed B.named
  have hl := lv_entry av (n := maxL) hn
  rw [lg_entry_eq]
  rw [ha] at hl
  exact body p e s m _ below meth c _ ⟨B.exec, B.bytes, hml, hown, hts⟩ B.returns B.notSynchronized (name_of_methodNamed B.named B.method).1 hl hsz (fun q h => Or.inr (by omega)) ⟨hP, hD0.self, va_S.rf, hK⟩ hO
end ZMO
section ZNW
variable {p : Program} {l : Launch} {e : Env} {R : Room} {s : State} {m : MethodId} {args : Array Value} {below : List Frame} {meth : Method} {c : Code} {H : Heap} {locs : List Loc} {cells slots : Nat} {Q : State → Prop} {cc : ByteArray} {nL : Nat} {Ts : List Cond} {own : String}
variable {pc : Nat} {ls : Array Slot} {rest st : List Value} {D : va_G} {T : List (ClassId × FieldType)} {A : Nat → Prop} {ws wc wr ws2 : va_W} {cy cs : ClassId}
theorem z_newa (C : CallFix p m c cc nL s args Ts own) (wd : Wd D (zT cy cs) A s.heap s ws H locs) (hA : ∀ q, s.heap.size ≤ q → A q) {n : Int} {N : Nat} (harr : (Cond.arrayClass .int).before args s = true) (hn : 0 ≤ n ∧ n < 100000) (hN : n.toNat = N) (hcells : cells + 1 ≤ R.cells) (hslots : slots + N ≤ R.slots) (hdg : decode cc pc = .ok (.newarray .int, 2))
    (k : ∀ (q : Nat) (H1 : Heap), Wd D (zT cy cs) A s.heap s (ws ++ [zA cy q N (fun _ => 0)]) H1 locs → W p l e R s m args below meth c H1 locs (cells + 1) (slots + N) Q (F0 m (pc + 2) ls (.ref q :: rest))) : W p l e R s m args below meth c H locs cells slots Q (F0 m pc ls (.int (iI n) :: rest)) := by
  have cn : (iI n).toNatClampNeg = N := by
    rw [iI_nat hn.1, nI_clamp (by omega)]
    exact hN
  have hneg : ¬ iI n < 0 := by
    have h1 := iI_lt (a := n) (b := 0) (by omega) (by omega)
    rw [iI_0] at h1
    rw [h1]
    omega
  refine va_newa (atype := .int) (ty := .int) (a0 := (N, .inl (fun _ : Nat => iI 0))) C.1 C.2.1 harr rfl wd.2.2.2 wd.1 wd.2.1 wd.2.2.1 hA (fun cA => rfl) hneg cn ?_ hcells hslots hdg (fun q cA H1 hK hP hD hS => ?_)
  · show N * 4 ≤ 536870912
    omega
  · have h1 := va_nm_int (hK.2 2 (cA, .int) rfl).2
    have h2 := va_nm_int (wd.2.2.2.2 0 (cy, .int) rfl).2
    have e : cA = cy := by
      rw [h1] at h2
      exact Option.some.inj h2
    subst e
    exact k q H1 ⟨hP, hD, hS, wd.2.2.2⟩
theorem z_newq (C : CallFix p m c cc nL s args Ts own) (wd : Wd D (zT cy cs) A s.heap s ws H locs) (hA : ∀ q, s.heap.size ≤ q → A q) {n : Int} {N index : Nat} (hcl : (Cond.classLink own index "LikelyWalks$State").before args s = true) (hO : va_AO "LikelyWalks$State" s) (hn : 0 ≤ n ∧ n < 100000) (hN : n.toNat = N) (hcells : cells + 1 ≤ R.cells) (hslots : slots + N ≤ R.slots) (hdg : decode cc pc = .ok (.anewarray index, 3))
    (k : ∀ (q : Nat) (H1 : Heap), Wd D (zT cy cs) A s.heap s (ws ++ [zR cs q N (fun _ => none)]) H1 locs → W p l e R s m args below meth c H1 locs (cells + 1) (slots + N) Q (F0 m (pc + 3) ls (.ref q :: rest))) : W p l e R s m args below meth c H locs cells slots Q (F0 m pc ls (.int (iI n) :: rest)) := by
  have cn : (iI n).toNatClampNeg = N := by
    rw [iI_nat hn.1, nI_clamp (by omega)]
    exact hN
  have hneg : ¬ iI n < 0 := by
    have h1 := iI_lt (a := n) (b := 0) (by omega) (by omega)
    rw [iI_0] at h1
    rw [h1]
    omega
  refine va_newq C.1 C.2.1 C.2.2.2.1 hcl hO wd.2.2.2 wd.1 wd.2.1 wd.2.2.1 hA hneg cn (by omega) hcells hslots hdg (fun q cA H1 hK hP hD hS => ?_)
  obtain ⟨kA, comp, -, -, -, h1⟩ := (hK.2 2 (cA, .object "LikelyWalks$State") rfl).2
  obtain ⟨kA2, comp2, -, -, -, h2⟩ := (wd.2.2.2.2 1 (cs, .object "LikelyWalks$State") rfl).2
  have e : cA = cs := by
    rw [h1] at h2
    exact Option.some.inj h2
  subst e
  exact k q H1 ⟨hP, hD, hS, wd.2.2.2⟩
theorem z_new (C : CallFix p m c cc nL s args Ts own) (wd : Wd D T A s.heap s ws H locs) (hA : ∀ q, s.heap.size ≤ q → A q) {Cn : String} {TT : u_T} {N ci index : Nat} (hin : ∀ w ∈ u_ws Cn TT N, w ∈ Ts) (ty0 : Nat → FieldType) (hty : ∀ k, k < N → parseFieldDescriptor (TT k).2.2.1 = some (ty0 k)) (hcl : (Cond.classLink own index Cn).before args s = true) (hinst : (Cond.instantiable Cn N).before args s = true) (hini : (Cond.initialized Cn).before args s = true) (hc : vwCl[ci]? = some (Cn, TT, N)) {fs : List Value} (hfs : (List.range N).all (fun j => decide (defaultValue (ty0 j) = vp_V fs j)) = true) (hcells : cells + 1 ≤ R.cells) (hslots : slots + N ≤ R.slots) (hdg : decode cc pc = .ok (.new index, 3))
    (k : ∀ (q : Nat) (H1 : Heap), Wd D T A s.heap s (ws ++ [zO q ci fs]) H1 locs → W p l e R s m args below meth c H1 locs (cells + 1) (slots + N) Q (F0 m (pc + 3) ls (.ref q :: rest))) : W p l e R s m args below meth c H locs cells slots Q (F0 m pc ls rest) :=
  va_new C.1 C.2.1 C.2.2.2.2 hin ty0 hty C.2.2.2.1 hcl hinst hini wd.2.2.2 wd.1 wd.2.1 wd.2.2.1 hA hc (fun j hj => of_decide_eq_true (List.all_eq_true.mp hfs j (List.mem_range.mpr hj))) hcells hslots hdg (fun q H1 hP hD hS => k q H1 ⟨hP, hD, hS, wd.2.2.2⟩)
theorem z_blindO {av : List Value} {sz : Nat} : FrameBlind (va_Pc av (zPreO D T wc sz)) := fun a U g mk q => by
  obtain ⟨q0, ⟨q1, qP, qK, qD⟩, qO⟩ := q
  exact ⟨q0, ⟨q1, qP, va_K.moved (u := U) (U := U.calling g mk a) (Vm.Alike.refl U.vm) qK, qD⟩, va_AO.moved (u := U) (U := U.calling g mk a) (Vm.Alike.refl U.vm) qO⟩
theorem z_backN (w : Wd D T A s.heap s ws H locs) {is isR : List Nat} (hC : is.map (fun i => ws[i]?) = wc.map some) (hR : isR.map (fun i => ws[i]?) = wr.map some) (hn : va_nd isR = true) (hdis : isR.all (fun i => !is.contains i) = true) (hA : ∀ q, s.heap.size ≤ q → A q) {wc' : va_W} {t : State} {H1 : Heap} {locs1 : List Loc} (ht : t.heap = H1) (hB : zQ D T (va_A wc H.size) wc' t) (hk : ∀ q : Nat, q < H.size → ¬ va_A wc H.size q → H1[q]? = H[q]?) (hS : va_S A s.heap H1 locs1) : Wd D T A s.heap s (wr ++ wc') H1 locs1 := by
  obtain ⟨hP1, hK1, hD1⟩ := hB
  rw [ht] at hP1
  have hF := va_free w.2.1 w.2.2.1 hA is hC
  obtain ⟨h1, h2⟩ := va_join w.1 w.2.1 is isR hC hR hn (fun i hi => by have := List.all_eq_true.mp hdis i hi; simpa using this) hk hF hP1 hD1
  exact ⟨h1, h2, hS, w.2.2.2⟩
theorem z_cin (C : CallFix p m c cc nL s args Ts own) (w : Wd D T A s.heap s ws H locs) (hA : ∀ q, s.heap.size ≤ q → A q) {σ : Type} {PU : σ → Prop} {wc' : σ → va_W} {y : MethodName} {wl : List Cond} {rm : Room} {b mc ms : Nat} {As : List Value} {index n maxL : Nat} {bytes : ByteArray}
    (hM : zNv l D T y wl rm mc ms (.ref b :: As) wc PU wc') (cw : CallB R s args own index y bytes maxL none wl rm mc ms n ∧ y.name = "<init>" ∧ (Cond.instanceMethod y).before args s = true) (is isR : List Nat) (hC : is.map (fun i => ws[i]?) = wc.map some) (hnC : va_nd is = true) (hR : isR.map (fun i => ws[i]?) = wr.map some) (hn : va_nd isR = true) (hdis : isR.all (fun i => !is.contains i) = true) (hlen : As.length = n) (hst : st = As.reverse ++ .ref b :: rest) (hcat : (rest.map fun v => v.category).sum ≤ 8) (hsz : ls.size = nL) (hdg : decode cc pc = .ok (.invokespecial index, 3)) (hroom : cells + mc ≤ R.cells ∧ slots + ms ≤ R.slots)
    (k : ∀ (u : σ), PU u → ∀ (H : Heap) (locs : List Loc), Wd D T A s.heap s (wr ++ wc' u) H locs → W p l e R s m args below meth c H locs (cells + mc) (slots + ms) Q (F0 m (pc + 3) ls rest)) : W p l e R s m args below meth c H locs cells slots Q (F0 m pc ls st) := by
  have hF := va_free w.2.1 w.2.2.1 hA is hC
  refine va_callv (va_runI (As := As) (rest := rest) C (hM H.size) cw ⟨z_blind, fun U hU hW => z_pre w hC hnC U hU hW⟩ rfl hlen hsz hst (lv_room hcat) hdg hroom) w.2.2.1 (fun q _ h => hF q h) hF (fun u t H1 locs1 ht hvm hw hB hz1 hk1 hS => ?_)
  exact k u hw H1 locs1 (z_backN w hC hR hn hdis hA ht hB hk1 hS)
theorem z_cinO (C : CallFix p m c cc nL s args Ts own) (w : Wd D T A s.heap s ws H locs) (hA : ∀ q, s.heap.size ≤ q → A q) (hO : va_AO "LikelyWalks$State" s) {σ : Type} {PU : σ → Prop} {wc' : σ → va_W} {y : MethodName} {wl : List Cond} {rm : Room} {b mc ms : Nat} {As : List Value} {index n maxL : Nat} {bytes : ByteArray}
    (hM : zNo l D T y wl rm mc ms (.ref b :: As) wc PU wc') (cw : CallB R s args own index y bytes maxL none wl rm mc ms n ∧ y.name = "<init>" ∧ (Cond.instanceMethod y).before args s = true) (is isR : List Nat) (hC : is.map (fun i => ws[i]?) = wc.map some) (hnC : va_nd is = true) (hR : isR.map (fun i => ws[i]?) = wr.map some) (hn : va_nd isR = true) (hdis : isR.all (fun i => !is.contains i) = true) (hlen : As.length = n) (hst : st = As.reverse ++ .ref b :: rest) (hcat : (rest.map fun v => v.category).sum ≤ 8) (hsz : ls.size = nL) (hdg : decode cc pc = .ok (.invokespecial index, 3)) (hroom : cells + mc ≤ R.cells ∧ slots + ms ≤ R.slots)
    (k : ∀ (u : σ), PU u → ∀ (H : Heap) (locs : List Loc), Wd D T A s.heap s (wr ++ wc' u) H locs → W p l e R s m args below meth c H locs (cells + mc) (slots + ms) Q (F0 m (pc + 3) ls rest)) : W p l e R s m args below meth c H locs cells slots Q (F0 m pc ls st) := by
  have hF := va_free w.2.1 w.2.2.1 hA is hC
  refine va_callv (va_runI (As := As) (rest := rest) C (hM H.size) cw ⟨z_blindO, fun U hU hW => ?_⟩ rfl hlen hsz hst (lv_room hcat) hdg hroom) w.2.2.1 (fun q _ h => hF q h) hF (fun u t H1 locs1 ht hvm hw hB hz1 hk1 hS => ?_)
  · obtain ⟨h1, h2⟩ := z_pre w hC hnC U hU hW
    exact ⟨h1, h2, va_AO.moved hW.alike hO⟩
  · exact k u hw H1 locs1 (z_backN w hC hR hn hdis hA ht hB hk1 hS)
end ZNW
/-- the first state, in the reference's row -/
def M_0 : Int → Int := clR (uZ (uZ (uZ (uZ (uZ (fun _ => 0) 0 2) 1 2) 2 7) 3 5) 5 10)
theorem z_pick {D : va_G} {T : List (ClassId × FieldType)} {A : Nat → Prop} {H0 H : Heap} {s : State} {ws ws2 : va_W} {locs : List Loc} (w : Wd D T A H0 s ws H locs) (is : List Nat) (hC : is.map (fun i => ws[i]?) = ws2.map some) (hn : va_nd is = true) : Wd D T A H0 s ws2 H locs :=
  ⟨w.1.sub is (z_fm hC), w.2.1.sub is hn hC, w.2.2.1, w.2.2.2⟩
theorem M0_0 (j : Int) (h : 12 ≤ j ∧ j < 572 ∨ 604 ≤ j) : M_0 j = 0 := by
  unfold M_0 clR uZ
  split
  · rfl
  · split
    · omega
    · split
      · rfl
      · rw [if_neg (by omega), if_neg (by omega), if_neg (by omega), if_neg (by omega), if_neg (by omega)]
theorem M0_tp (j : Int) (h0 : 0 ≤ j) (h1 : j < 3) : uZ (uZ (uZ (fun _ => 0) 0 7) 1 5) 2 0 j = sl M_0 2 j := by
  rcases (show j = 0 ∨ j = 1 ∨ j = 2 by omega) with rfl | rfl | rfl <;> rfl
theorem M0_me (j : Int) (h0 : 0 ≤ j) (h1 : j < 32) : uZ (fun _ => -1) 0 0 j = sl M_0 572 j := clR_572 _ j h0 h1
