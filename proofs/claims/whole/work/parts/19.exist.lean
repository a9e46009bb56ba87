/-! contracts whose world behind holds what is not told: there are such rows -/
def zXi {σ : Type} (l : Launch) (D : va_G) (T : List (ClassId × FieldType)) (y : MethodName) (wl : List Cond) (rm : Room) (av : List Value) (ws : va_W) (res : Int) (PU : σ → Prop) (ws' : σ → va_W) : Prop :=
  ∀ sz : Nat, Met l y wl rm (va_Pc av (zPre D T ws sz)) (va_Qi (fun r (u : σ) => r = iI res ∧ PU u) (fun u t => zQ D T (va_A ws sz) (ws' u) t) (va_A ws sz)) 0 0 (va_A ws sz)
def zXv {σ : Type} (l : Launch) (D : va_G) (T : List (ClassId × FieldType)) (y : MethodName) (wl : List Cond) (rm : Room) (av : List Value) (ws : va_W) (PU : σ → Prop) (ws' : σ → va_W) : Prop :=
  ∀ sz : Nat, Met l y wl rm (va_Pc av (zPre D T ws sz)) (va_Qv (fun (u : σ) => PU u) (fun u t => zQ D T (va_A ws sz) (ws' u) t) (va_A ws sz)) 0 0 (va_A ws sz)
section ZKX
variable {p : Program} {l : Launch} {e : Env} {R : Room} {s : State} {m : MethodId} {args : Array Value} {below : List Frame} {meth : Method} {c : Code} {H : Heap} {locs : List Loc} {cells slots : Nat} {Q : State → Prop} {cc : ByteArray} {nL : Nat} {Ts : List Cond} {own : String}
variable {pc : Nat} {ls : Array Slot} {rest st : List Value} {D : va_G} {T : List (ClassId × FieldType)} {A : Nat → Prop} {ws wc : va_W}
variable {σ : Type} {wc' ws2 wsF : σ → va_W} {PU : σ → Prop}
theorem z_iretX (C : CallFix p m c cc nL s args Ts own) (hr : meth.sig.returnType = some .int) (hlk : meth.locks = false) {v res : Int} (u : σ) (hpu : PU u) (w : Wd D T A s.heap s (wsF u) H locs) (hv : v = res) (hdg : decode cc pc = .ok (.ireturn, 1)) :
    W p l e R s m args below meth c H locs cells slots (MQ below (va_Qi (fun r (u : σ) => r = iI res ∧ PU u) (fun u t => zQ D T A (wsF u) t) A) args s cells slots A) (F0 m pc ls [.int (iI v)]) := by
  subst hv
  exact W.iret C.1 C.2.1 hr (fun t ht hW => ⟨⟨iI v, u, rfl, ⟨rfl, hpu⟩, zQ_of w ht hW⟩, w.2.2.1.F ht⟩) w.2.2.1.2.2 hdg hlk
theorem z_vretX (C : CallFix p m c cc nL s args Ts own) (hr : meth.sig.returnType = none) (hlk : meth.locks = false) (u : σ) (hpu : PU u) (w : Wd D T A s.heap s (wsF u) H locs) (hdg : decode cc pc = .ok (.return_, 1)) :
    W p l e R s m args below meth c H locs cells slots (MQ below (va_Qv (fun (u : σ) => PU u) (fun u t => zQ D T A (wsF u) t) A) args s cells slots A) (F0 m pc ls []) :=
  W.vret C.1 C.2.1 hr (fun t ht hW => ⟨⟨u, rfl, hpu, zQ_of w ht hW⟩, w.2.2.1.F ht⟩) w.2.2.1.2.2 hdg hlk
theorem z_cviX (C : CallFix p m c cc nL s args Ts own) (w : Wd D T A s.heap s ws H locs) (hA : ∀ q, s.heap.size ≤ q → A q) {y : MethodName} {wl : List Cond} {rm : Room} {b : Nat} {As : List Value} {res : Int} {Cn : String} {TT : u_T} {N ci index n maxL : Nat} {fs : List Value} {bytes : ByteArray} {ret : Option FieldType}
    (hM : zXi l D T y wl rm (.ref b :: As) wc res PU wc') (cw : CallW R s args own Cn index y bytes maxL ret wl rm 0 0 n) (is : List Nat) (hC : is.map (fun i => ws[i]?) = wc.map some) (hn : va_nd is = true) (ha : ∀ u, (wc' u).map Prod.fst = wc.map Prod.fst) (hs : ∀ u, ZR ws is (wc' u) (ws2 u)) (he : wc[0]? = some (zO b ci fs)) (hc : vwCl[ci]? = some (Cn, TT, N)) (hlen : As.length = n) (hst : st = As.reverse ++ .ref b :: rest) (hcat : (rest.map fun v => v.category).sum ≤ 8) (hsz : ls.size = nL) (hdg : decode cc pc = .ok (.invokevirtual index, 3)) (hroom : cells ≤ R.cells ∧ slots ≤ R.slots)
    (k : ∀ (u : σ), PU u → ∀ (H : Heap) (locs : List Loc), Wd D T A s.heap s (ws2 u) H locs → W p l e R s m args below meth c H locs cells slots Q (F0 m (pc + 3) ls (.int (iI res) :: rest))) : W p l e R s m args below meth c H locs cells slots Q (F0 m pc ls st) := by
  have hF := va_free w.2.1 w.2.2.1 hA is hC
  refine va_calli (va_runV (As := As) (rest := rest) C (hM H.size) cw ⟨z_blind, va_recv w.2.2.2 (w.1.sub is (z_fm hC)) (ci := ci) (q0 := 0) hc he, fun U hU hW => z_pre w hC hn U hU hW⟩ rfl hlen hsz hst (lv_room hcat) hdg hroom) w.2.2.1 (fun q _ h => hF q h) hF (fun r u t H1 locs1 ht hvm hw hB hz1 hk1 hS => ?_)
  obtain ⟨hw, hpu⟩ := hw
  subst hw
  exact k u hpu H1 locs1 (z_back w hC (ha u) (hs u) ht hB hk1 hS)
theorem z_cvvX (C : CallFix p m c cc nL s args Ts own) (w : Wd D T A s.heap s ws H locs) (hA : ∀ q, s.heap.size ≤ q → A q) {y : MethodName} {wl : List Cond} {rm : Room} {b : Nat} {As : List Value} {Cn : String} {TT : u_T} {N ci index n maxL : Nat} {fs : List Value} {bytes : ByteArray} {ret : Option FieldType}
    (hM : zXv l D T y wl rm (.ref b :: As) wc PU wc') (cw : CallW R s args own Cn index y bytes maxL ret wl rm 0 0 n) (is : List Nat) (hC : is.map (fun i => ws[i]?) = wc.map some) (hn : va_nd is = true) (ha : ∀ u, (wc' u).map Prod.fst = wc.map Prod.fst) (hs : ∀ u, ZR ws is (wc' u) (ws2 u)) (he : wc[0]? = some (zO b ci fs)) (hc : vwCl[ci]? = some (Cn, TT, N)) (hlen : As.length = n) (hst : st = As.reverse ++ .ref b :: rest) (hcat : (rest.map fun v => v.category).sum ≤ 8) (hsz : ls.size = nL) (hdg : decode cc pc = .ok (.invokevirtual index, 3)) (hroom : cells ≤ R.cells ∧ slots ≤ R.slots)
    (k : ∀ (u : σ), PU u → ∀ (H : Heap) (locs : List Loc), Wd D T A s.heap s (ws2 u) H locs → W p l e R s m args below meth c H locs cells slots Q (F0 m (pc + 3) ls rest)) : W p l e R s m args below meth c H locs cells slots Q (F0 m pc ls st) := by
  have hF := va_free w.2.1 w.2.2.1 hA is hC
  refine va_callv (va_runV (As := As) (rest := rest) C (hM H.size) cw ⟨z_blind, va_recv w.2.2.2 (w.1.sub is (z_fm hC)) (ci := ci) (q0 := 0) hc he, fun U hU hW => z_pre w hC hn U hU hW⟩ rfl hlen hsz hst (lv_room hcat) hdg hroom) w.2.2.1 (fun q _ h => hF q h) hF (fun u t H1 locs1 ht hvm hw hB hz1 hk1 hS => ?_)
  exact k u hw H1 locs1 (z_back w hC (ha u) (hs u) ht hB hk1 hS)
end ZKX
