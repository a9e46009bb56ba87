section ZK
variable {p : Program} {l : Launch} {e : Env} {R : Room} {s : State} {m : MethodId} {args : Array Value} {below : List Frame} {meth : Method} {c : Code} {H : Heap} {locs : List Loc} {cells slots : Nat} {Q : State → Prop} {cc : ByteArray} {nL : Nat} {Ts : List Cond} {own : String}
variable {pc : Nat} {ls : Array Slot} {rest st : List Value} {D : va_G} {T : List (ClassId × FieldType)} {A : Nat → Prop} {ws ws2 wc wc' wsF : va_W}
theorem zQ_of (w : Wd D T A s.heap s wsF H locs) {t : State} (ht : t.heap = H) (hW : s.WarmedH t.vm) : zQ D T A wsF t := ⟨by rw [ht]; exact w.1, va_K.moved hW.alike w.2.2.2, w.2.1⟩
theorem z_iret (C : CallFix p m c cc nL s args Ts own) (hr : meth.sig.returnType = some .int) (hlk : meth.locks = false) {v res : Int} (w : Wd D T A s.heap s wsF H locs) (hv : v = res) (hdg : decode cc pc = .ok (.ireturn, 1)) :
    W p l e R s m args below meth c H locs cells slots (MQ below (va_Qi (fun r (_ : Unit) => r = iI res) (fun _ t => zQ D T A wsF t) A) args s cells slots A) (F0 m pc ls [.int (iI v)]) := by
  subst hv
  exact W.iret C.1 C.2.1 hr (fun t ht hW => ⟨⟨iI v, (), rfl, rfl, zQ_of w ht hW⟩, w.2.2.1.F ht⟩) w.2.2.1.2.2 hdg hlk
theorem z_bnar {v : Int} (h : v = 0 ∨ v = 1) : narrow .boolean (.int (iI v)) = .int (iI v) := by
  rcases h with rfl | rfl <;> rfl
theorem z_zret (C : CallFix p m c cc nL s args Ts own) (hr : meth.sig.returnType = some .boolean) (hlk : meth.locks = false) {v res : Int} (h01 : v = 0 ∨ v = 1) (w : Wd D T A s.heap s wsF H locs) (hv : v = res) (hdg : decode cc pc = .ok (.ireturn, 1)) :
    W p l e R s m args below meth c H locs cells slots (MQ below (va_Qi (fun r (_ : Unit) => r = iI res) (fun _ t => zQ D T A wsF t) A) args s cells slots A) (F0 m pc ls [.int (iI v)]) := by
  have h1 := z_bnar h01
  subst hv
  exact W.zret C.1 C.2.1 hr h1 (fun t ht hW => ⟨⟨iI v, (), rfl, rfl, zQ_of w ht hW⟩, w.2.2.1.F ht⟩) w.2.2.1.2.2 hdg hlk
theorem z_lret (C : CallFix p m c cc nL s args Ts own) (hr : meth.sig.returnType = some .long) (hlk : meth.locks = false) {v res : Int} (w : Wd D T A s.heap s wsF H locs) (hv : v = res) (hdg : decode cc pc = .ok (.lreturn, 1)) :
    W p l e R s m args below meth c H locs cells slots (MQ below (va_Ql (fun r (_ : Unit) => r = lI res) (fun _ t => zQ D T A wsF t) A) args s cells slots A) (F0 m pc ls [.long (lI v)]) := by
  subst hv
  exact W.lret C.1 C.2.1 hr (fun t ht hW => ⟨⟨lI v, (), rfl, rfl, zQ_of w ht hW⟩, w.2.2.1.F ht⟩) w.2.2.1.2.2 hdg hlk
theorem z_vret (C : CallFix p m c cc nL s args Ts own) (hr : meth.sig.returnType = none) (hlk : meth.locks = false) (w : Wd D T A s.heap s wsF H locs) (hdg : decode cc pc = .ok (.return_, 1)) :
    W p l e R s m args below meth c H locs cells slots (MQ below (va_Qv (fun (_ : Unit) => True) (fun _ t => zQ D T A wsF t) A) args s cells slots A) (F0 m pc ls []) :=
  W.vret C.1 C.2.1 hr (fun t ht hW => ⟨⟨(), rfl, trivial, zQ_of w ht hW⟩, w.2.2.1.F ht⟩) w.2.2.1.2.2 hdg hlk
theorem z_blind {av : List Value} {sz : Nat} : FrameBlind (va_Pc av (zPre D T wc sz)) := fun a U g mk q => by
  obtain ⟨q0, q1, qP, qK, qD⟩ := q
  exact ⟨q0, q1, qP, va_K.moved (u := U) (U := U.calling g mk a) (Vm.Alike.refl U.vm) qK, qD⟩
theorem z_pre {av : List Value} (w : Wd D T A s.heap s ws H locs) {is : List Nat} (hC : is.map (fun i => ws[i]?) = wc.map some) (hn : va_nd is = true) (U : State) (hU : U.heap = H) (hW : s.WarmedH U.vm) : va_Pc av (zPre D T wc H.size) av.toArray U :=
  ⟨rfl, by rw [hU], by rw [hU]; exact w.1.sub is (z_fm hC), va_K.moved hW.alike w.2.2.2, (w.2.1.sub is hn hC).weaken (fun _ _ _ _ => trivial)⟩
theorem z_back (w : Wd D T A s.heap s ws H locs) {is : List Nat} {A1 : Nat → Prop} (hC : is.map (fun i => ws[i]?) = wc.map some) (ha : wc'.map Prod.fst = wc.map Prod.fst) (hs : zrep ws is wc' = ws2) {t : State} {H1 : Heap} {locs1 : List Loc} (ht : t.heap = H1) (hB : zQ D T A1 wc' t) (hk : ∀ q : Nat, q < H.size → ¬ va_A wc H.size q → H1[q]? = H[q]?) (hS : va_S A s.heap H1 locs1) : Wd D T A s.heap s ws2 H1 locs1 := by
  obtain ⟨hP1, hK1, hD1⟩ := hB
  rw [ht] at hP1
  obtain ⟨h1, h2⟩ := zrep_P w.1 w.2.1 hC ha hP1 hk
  rw [hs] at h1 h2
  exact ⟨h1, h2, hS, w.2.2.2⟩
theorem z_cvi (C : CallFix p m c cc nL s args Ts own) (w : Wd D T A s.heap s ws H locs) (hA : ∀ q, s.heap.size ≤ q → A q) {y : MethodName} {wl : List Cond} {rm : Room} {b : Nat} {As : List Value} {res : Int} {Cn : String} {TT : u_T} {N ci index n maxL : Nat} {fs : List Value} {bytes : ByteArray} {ret : Option FieldType}
    (hM : zCi l D T y wl rm (.ref b :: As) wc res wc') (cw : CallW R s args own Cn index y bytes maxL ret wl rm 0 0 n) (is : List Nat) (hC : is.map (fun i => ws[i]?) = wc.map some) (hn : va_nd is = true) (ha : wc'.map Prod.fst = wc.map Prod.fst) (hs : zrep ws is wc' = ws2) (he : wc[0]? = some (zO b ci fs)) (hc : vwCl[ci]? = some (Cn, TT, N)) (hlen : As.length = n) (hst : st = As.reverse ++ .ref b :: rest) (hcat : (rest.map fun v => v.category).sum ≤ 8) (hsz : ls.size = nL) (hdg : decode cc pc = .ok (.invokevirtual index, 3)) (hroom : cells ≤ R.cells ∧ slots ≤ R.slots)
    (k : ∀ (H : Heap) (locs : List Loc), Wd D T A s.heap s ws2 H locs → W p l e R s m args below meth c H locs cells slots Q (F0 m (pc + 3) ls (.int (iI res) :: rest))) : W p l e R s m args below meth c H locs cells slots Q (F0 m pc ls st) := by
  have hF := va_free w.2.1 w.2.2.1 hA is hC
  refine va_calli (va_runV (As := As) (rest := rest) C (hM H.size) cw ⟨z_blind, va_recv w.2.2.2 (w.1.sub is (z_fm hC)) (ci := ci) (q0 := 0) hc he, fun U hU hW => z_pre w hC hn U hU hW⟩ rfl hlen hsz hst (lv_room hcat) hdg hroom) w.2.2.1 (fun q _ h => hF q h) hF (fun r u t H1 locs1 ht hvm hw hB hz1 hk1 hS => ?_)
  subst hw
  exact k H1 locs1 (z_back w hC ha hs ht hB hk1 hS)
theorem z_cvl (C : CallFix p m c cc nL s args Ts own) (w : Wd D T A s.heap s ws H locs) (hA : ∀ q, s.heap.size ≤ q → A q) {y : MethodName} {wl : List Cond} {rm : Room} {b : Nat} {As : List Value} {res : Int} {Cn : String} {TT : u_T} {N ci index n maxL : Nat} {fs : List Value} {bytes : ByteArray} {ret : Option FieldType}
    (hM : zCl l D T y wl rm (.ref b :: As) wc res wc') (cw : CallW R s args own Cn index y bytes maxL ret wl rm 0 0 n) (is : List Nat) (hC : is.map (fun i => ws[i]?) = wc.map some) (hn : va_nd is = true) (ha : wc'.map Prod.fst = wc.map Prod.fst) (hs : zrep ws is wc' = ws2) (he : wc[0]? = some (zO b ci fs)) (hc : vwCl[ci]? = some (Cn, TT, N)) (hlen : As.length = n) (hst : st = As.reverse ++ .ref b :: rest) (hcat : (rest.map fun v => v.category).sum ≤ 8) (hsz : ls.size = nL) (hdg : decode cc pc = .ok (.invokevirtual index, 3)) (hroom : cells ≤ R.cells ∧ slots ≤ R.slots)
    (k : ∀ (H : Heap) (locs : List Loc), Wd D T A s.heap s ws2 H locs → W p l e R s m args below meth c H locs cells slots Q (F0 m (pc + 3) ls (.long (lI res) :: rest))) : W p l e R s m args below meth c H locs cells slots Q (F0 m pc ls st) := by
  have hF := va_free w.2.1 w.2.2.1 hA is hC
  refine va_calll (va_runV (As := As) (rest := rest) C (hM H.size) cw ⟨z_blind, va_recv w.2.2.2 (w.1.sub is (z_fm hC)) (ci := ci) (q0 := 0) hc he, fun U hU hW => z_pre w hC hn U hU hW⟩ rfl hlen hsz hst (lv_room hcat) hdg hroom) w.2.2.1 (fun q _ h => hF q h) hF (fun r u t H1 locs1 ht hvm hw hB hz1 hk1 hS => ?_)
  subst hw
  exact k H1 locs1 (z_back w hC ha hs ht hB hk1 hS)
theorem z_cvv (C : CallFix p m c cc nL s args Ts own) (w : Wd D T A s.heap s ws H locs) (hA : ∀ q, s.heap.size ≤ q → A q) {y : MethodName} {wl : List Cond} {rm : Room} {b : Nat} {As : List Value} {Cn : String} {TT : u_T} {N ci index n maxL : Nat} {fs : List Value} {bytes : ByteArray} {ret : Option FieldType}
    (hM : zCv l D T y wl rm (.ref b :: As) wc wc') (cw : CallW R s args own Cn index y bytes maxL ret wl rm 0 0 n) (is : List Nat) (hC : is.map (fun i => ws[i]?) = wc.map some) (hn : va_nd is = true) (ha : wc'.map Prod.fst = wc.map Prod.fst) (hs : zrep ws is wc' = ws2) (he : wc[0]? = some (zO b ci fs)) (hc : vwCl[ci]? = some (Cn, TT, N)) (hlen : As.length = n) (hst : st = As.reverse ++ .ref b :: rest) (hcat : (rest.map fun v => v.category).sum ≤ 8) (hsz : ls.size = nL) (hdg : decode cc pc = .ok (.invokevirtual index, 3)) (hroom : cells ≤ R.cells ∧ slots ≤ R.slots)
    (k : ∀ (H : Heap) (locs : List Loc), Wd D T A s.heap s ws2 H locs → W p l e R s m args below meth c H locs cells slots Q (F0 m (pc + 3) ls rest)) : W p l e R s m args below meth c H locs cells slots Q (F0 m pc ls st) := by
  have hF := va_free w.2.1 w.2.2.1 hA is hC
  refine va_callv (va_runV (As := As) (rest := rest) C (hM H.size) cw ⟨z_blind, va_recv w.2.2.2 (w.1.sub is (z_fm hC)) (ci := ci) (q0 := 0) hc he, fun U hU hW => z_pre w hC hn U hU hW⟩ rfl hlen hsz hst (lv_room hcat) hdg hroom) w.2.2.1 (fun q _ h => hF q h) hF (fun u t H1 locs1 ht hvm hw hB hz1 hk1 hS => ?_)
  exact k H1 locs1 (z_back w hC ha hs ht hB hk1 hS)
theorem z_csi (C : CallFix p m c cc nL s args Ts own) (w : Wd D T A s.heap s ws H locs) (hA : ∀ q, s.heap.size ≤ q → A q) {y : MethodName} {wl : List Cond} {rm : Room} {As : List Value} {res : Int} {index n maxL : Nat} {bytes : ByteArray} {ret : Option FieldType}
    (hM : zCi l D T y wl rm As wc res wc') (cw : CallB R s args own index y bytes maxL ret wl rm 0 0 n ∧ (Cond.static y).before args s = true) (is : List Nat) (hC : is.map (fun i => ws[i]?) = wc.map some) (hn : va_nd is = true) (ha : wc'.map Prod.fst = wc.map Prod.fst) (hs : zrep ws is wc' = ws2) (hlen : As.length = n) (hst : st = As.reverse ++ rest) (hcat : (rest.map fun v => v.category).sum ≤ 8) (hsz : ls.size = nL) (hdg : decode cc pc = .ok (.invokestatic index, 3)) (hroom : cells ≤ R.cells ∧ slots ≤ R.slots)
    (k : ∀ (H : Heap) (locs : List Loc), Wd D T A s.heap s ws2 H locs → W p l e R s m args below meth c H locs cells slots Q (F0 m (pc + 3) ls (.int (iI res) :: rest))) : W p l e R s m args below meth c H locs cells slots Q (F0 m pc ls st) := by
  have hF := va_free w.2.1 w.2.2.1 hA is hC
  refine va_calli (va_runS (As := As) (rest := rest) C (hM H.size) cw ⟨z_blind, fun U hU hW => z_pre w hC hn U hU hW⟩ rfl hlen hsz hst (lv_room hcat) hdg hroom) w.2.2.1 (fun q _ h => hF q h) hF (fun r u t H1 locs1 ht hvm hw hB hz1 hk1 hS => ?_)
  subst hw
  exact k H1 locs1 (z_back w hC ha hs ht hB hk1 hS)
theorem z_csv (C : CallFix p m c cc nL s args Ts own) (w : Wd D T A s.heap s ws H locs) (hA : ∀ q, s.heap.size ≤ q → A q) {y : MethodName} {wl : List Cond} {rm : Room} {As : List Value} {index n maxL : Nat} {bytes : ByteArray} {ret : Option FieldType}
    (hM : zCv l D T y wl rm As wc wc') (cw : CallB R s args own index y bytes maxL ret wl rm 0 0 n ∧ (Cond.static y).before args s = true) (is : List Nat) (hC : is.map (fun i => ws[i]?) = wc.map some) (hn : va_nd is = true) (ha : wc'.map Prod.fst = wc.map Prod.fst) (hs : zrep ws is wc' = ws2) (hlen : As.length = n) (hst : st = As.reverse ++ rest) (hcat : (rest.map fun v => v.category).sum ≤ 8) (hsz : ls.size = nL) (hdg : decode cc pc = .ok (.invokestatic index, 3)) (hroom : cells ≤ R.cells ∧ slots ≤ R.slots)
    (k : ∀ (H : Heap) (locs : List Loc), Wd D T A s.heap s ws2 H locs → W p l e R s m args below meth c H locs cells slots Q (F0 m (pc + 3) ls rest)) : W p l e R s m args below meth c H locs cells slots Q (F0 m pc ls st) := by
  have hF := va_free w.2.1 w.2.2.1 hA is hC
  refine va_callv (va_runS (As := As) (rest := rest) C (hM H.size) cw ⟨z_blind, fun U hU hW => z_pre w hC hn U hU hW⟩ rfl hlen hsz hst (lv_room hcat) hdg hroom) w.2.2.1 (fun q _ h => hF q h) hF (fun u t H1 locs1 ht hvm hw hB hz1 hk1 hS => ?_)
  exact k H1 locs1 (z_back w hC ha hs ht hB hk1 hS)
end ZK
