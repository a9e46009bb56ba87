def ZR (ws : va_W) (is : List Nat) (qs ws2 : va_W) : Prop := is.map (fun i => ws2[i]?) = qs.map some ∧ ∃ (isR : List Nat) (wr : va_W) (n : Nat), isR.map (fun i => ws2[i]?) = wr.map some ∧ isR.map (fun i => ws[i]?) = wr.map some ∧ ws2.length = n ∧ (List.range n).all (fun k => is.contains k || isR.contains k) = true
theorem ZR_get {ws qs ws2 : va_W} {is : List Nat} (h : ZR ws is qs ws2) (k : Nat) (q : Nat × va_E) (hk : ws2[k]? = some q) : (∃ j : Nat, is[j]? = some k ∧ qs[j]? = some q) ∨ (ws[k]? = some q ∧ k ∉ is) := by
  obtain ⟨h1, isR, wr, n, h2a, h2b, h3, h4⟩ := h
  have h2 := h2a.trans h2b.symm
  by_cases hm : k ∈ is
  · obtain ⟨j, hj⟩ := List.getElem?_of_mem hm
    refine Or.inl ⟨j, hj, ?_⟩
    have e1 : (is.map (fun i => ws2[i]?))[j]? = some (some q) := by rw [List.getElem?_map, hj]; simp [hk]
    rw [h1, List.getElem?_map] at e1
    cases hq : qs[j]? with
    | none => rw [hq] at e1; cases e1
    | some x => rw [hq] at e1; simpa using e1
  · refine Or.inr ⟨?_, hm⟩
    have hlt : k < n := by rw [← h3]; exact (List.getElem?_eq_some_iff.mp hk).1
    have h5 := List.all_eq_true.mp h4 k (List.mem_range.mpr hlt)
    simp at h5
    have hr : k ∈ isR := h5.resolve_left hm
    obtain ⟨j, hj⟩ := List.getElem?_of_mem hr
    have e1 : (isR.map (fun i => ws2[i]?))[j]? = some (some q) := by rw [List.getElem?_map, hj]; simp [hk]
    rw [h2, List.getElem?_map, hj] at e1
    simpa using e1
theorem ZR_adr {ws wc qs ws2 : va_W} {is : List Nat} (hR : ZR ws is qs ws2) (hC : is.map (fun i => ws[i]?) = wc.map some) (ha : qs.map Prod.fst = wc.map Prod.fst) (k : Nat) (q : Nat × va_E) (h : ws2[k]? = some q) : ∃ q0 : Nat × va_E, ws[k]? = some q0 ∧ q0.1 = q.1 := by
  rcases ZR_get hR k q h with ⟨j, h1, h2⟩ | ⟨h1, -⟩
  · have e1 : (qs.map Prod.fst)[j]? = some q.1 := by simp [h2]
    rw [ha, List.getElem?_map] at e1
    cases hw : wc[j]? with
    | none => rw [hw] at e1; cases e1
    | some qq =>
      rw [hw] at e1
      obtain ⟨i, hi, hq⟩ := z_map hC j qq hw
      rw [h1] at hi
      cases hi
      exact ⟨qq, hq, by simpa using e1⟩
  · exact ⟨q, h1, rfl⟩
theorem ZR_P {D : va_G} {cl : List vw_C} {A : Nat → Prop} {ws wc qs ws2 : va_W} {is : List Nat} {H H1 : Heap} (hR : ZR ws is qs ws2) (hP : va_P D cl ws H) (hD : va_D A ws) (hC : is.map (fun i => ws[i]?) = wc.map some) (ha : qs.map Prod.fst = wc.map Prod.fst) (hP1 : va_P D cl qs H1) (hk : ∀ q : Nat, q < H.size → ¬ va_A wc H.size q → H1[q]? = H[q]?) : va_P D cl ws2 H1 ∧ va_D A ws2 := by
  refine ⟨fun k q h => ?_, fun i j p q hi hj e => ?_, fun k q h => ?_⟩
  · rcases ZR_get hR k q h with ⟨j, h1, h2⟩ | ⟨h1, h2⟩
    · exact hP1 j q h2
    · have hlt := (hP k q h1).lt
      refine (hP k q h1).kept (hk q.1 hlt ?_)
      rintro (⟨j, e, he⟩ | hge)
      · obtain ⟨i, hi, hq⟩ := z_map hC j _ he
        have hik : i = k := hD.1 i k _ _ hq h1 rfl
        subst hik
        exact h2 (List.mem_of_getElem? hi)
      · omega
  · obtain ⟨p0, hp0, e1⟩ := ZR_adr hR hC ha i p hi
    obtain ⟨q0, hq0, e2⟩ := ZR_adr hR hC ha j q hj
    exact hD.1 i j p0 q0 hp0 hq0 (by rw [e1, e2, e])
  · obtain ⟨q0, hq0, e⟩ := ZR_adr hR hC ha k q h
    rw [← e]
    exact hD.2 k q0 hq0
section ZK
variable {p : Program} {l : Launch} {e : Env} {R : Room} {s : State} {m : MethodId} {args : Array Value} {below : List Frame} {meth : Method} {c : Code} {H : Heap} {locs : List Loc} {cells slots : Nat} {Q : State → Prop} {cc : ByteArray} {nL : Nat} {Ts : List Cond} {own : String}
variable {pc : Nat} {ls : Array Slot} {rest st : List Value} {D : va_G} {T : List (ClassId × FieldType)} {A : Nat → Prop} {ws ws2 wc wc' wsF : va_W}
theorem zQ_of (w : Wd D T A s.heap s wsF H locs) {t : State} (ht : t.heap = H) (hW : s.WarmedH t.vm) : zQ D T A wsF t := ⟨by rw [ht]; exact w.1, va_K.moved hW.alike w.2.2.2, w.2.1⟩
theorem z_iret (C : CallFix p m c cc nL s args Ts own) (hr : meth.sig.returnType = some .int) (hlk : meth.locks = false) {v res : Int} (w : Wd D T A s.heap s wsF H locs) (hv : v = res) (hdg : decode cc pc = .ok (.ireturn, 1)) :
    W p l e R s m args below meth c H locs cells slots (MQ below (va_Qi (fun r (_ : Unit) => r = iI res) (fun _ t => zQ D T A wsF t) A) args s cells slots A) (F0 m pc ls [.int (iI v)]) := by
  subst hv
  exact W.iret C.1 C.2.1 hr (fun t ht hW => ⟨⟨iI v, (), rfl, rfl, zQ_of w ht hW⟩, w.2.2.1.F ht⟩) w.2.2.1.2.2 hdg hlk
theorem z_bnar {v : Int} (h : v = 0 ∨ v = 1) : narrow .boolean (.int (iI v)) = .int (iI v) := by
  rcases h with rfl | rfl <;> rfl
theorem z_bfit {v : Int} (h : v = 0 ∨ v = 1) : fits .boolean (.int (iI v)) = true := by
  rcases h with rfl | rfl <;> rfl
theorem z_zret (C : CallFix p m c cc nL s args Ts own) (hr : meth.sig.returnType = some .boolean) (hlk : meth.locks = false) {v res : Int} (h01 : v = 0 ∨ v = 1) (w : Wd D T A s.heap s wsF H locs) (hv : v = res) (hdg : decode cc pc = .ok (.ireturn, 1)) :
    W p l e R s m args below meth c H locs cells slots (MQ below (va_Qi (fun r (_ : Unit) => r = iI res) (fun _ t => zQ D T A wsF t) A) args s cells slots A) (F0 m pc ls [.int (iI v)]) := by
  have h1 := z_bnar h01
  subst hv
  exact W.zret C.1 C.2.1 hr h1 (fun t ht hW => ⟨⟨iI v, (), rfl, rfl, zQ_of w ht hW⟩, w.2.2.1.F ht⟩) w.2.2.1.2.2 hdg hlk
theorem z_lret (C : CallFix p m c cc nL s args Ts own) (hr : meth.sig.returnType = some .long) (hlk : meth.locks = false) {v res : Int} (w : Wd D T A s.heap s wsF H locs) (hv : v = res) (hdg : decode cc pc = .ok (.lreturn, 1)) :
    W p l e R s m args below meth c H locs cells slots (MQ below (va_Ql (fun r (_ : Unit) => r = lI res) (fun _ t => zQ D T A wsF t) A) args s cells slots A) (F0 m pc ls [.long (lI v)]) := by
  subst hv
  exact W.lret C.1 C.2.1 hr (fun t ht hW => ⟨⟨lI v, (), rfl, rfl, zQ_of w ht hW⟩, w.2.2.1.F ht⟩) w.2.2.1.2.2 hdg hlk
theorem z_vret (C : CallFix p m c cc nL s args Ts own) (hr : meth.sig.returnType = none) (hlk : meth.locks = false) (w : Wd D T A s.heap s wsF H locs) (hdg : decode cc pc = .ok (.return_, 1)) :
    W p l e R s m args below meth c H locs cells slots (MQ below (va_Qv (fun (_ : Unit) => True) (fun _ t => zQ D T A wsF t) A) args s cells slots A) (F0 m pc ls []) :=
  W.vret C.1 C.2.1 hr (fun t ht hW => ⟨⟨(), rfl, trivial, zQ_of w ht hW⟩, w.2.2.1.F ht⟩) w.2.2.1.2.2 hdg hlk
theorem z_blind {av : List Value} {sz : Nat} : FrameBlind (va_Pc av (zPre D T wc sz)) := fun a U g mk q => by
  obtain ⟨q0, q1, qP, qK, qD⟩ := q
  exact ⟨q0, q1, qP, va_K.moved (u := U) (U := U.calling g mk a) (Vm.Alike.refl U.vm) qK, qD⟩
theorem z_pre {av : List Value} (w : Wd D T A s.heap s ws H locs) {is : List Nat} (hC : is.map (fun i => ws[i]?) = wc.map some) (hn : va_nd is = true) (U : State) (hU : U.heap = H) (hW : s.WarmedH U.vm) : va_Pc av (zPre D T wc H.size) av.toArray U :=
  ⟨rfl, by rw [hU], by rw [hU]; exact w.1.sub is (z_fm hC), va_K.moved hW.alike w.2.2.2, (w.2.1.sub is hn hC).weaken (fun _ _ _ _ => trivial)⟩
theorem z_back (w : Wd D T A s.heap s ws H locs) {is : List Nat} {A1 : Nat → Prop} (hC : is.map (fun i => ws[i]?) = wc.map some) (ha : wc'.map Prod.fst = wc.map Prod.fst) (hs : ZR ws is wc' ws2) {t : State} {H1 : Heap} {locs1 : List Loc} (ht : t.heap = H1) (hB : zQ D T A1 wc' t) (hk : ∀ q : Nat, q < H.size → ¬ va_A wc H.size q → H1[q]? = H[q]?) (hS : va_S A s.heap H1 locs1) : Wd D T A s.heap s ws2 H1 locs1 := by
  obtain ⟨hP1, hK1, hD1⟩ := hB
  rw [ht] at hP1
  obtain ⟨h1, h2⟩ := ZR_P hs w.1 w.2.1 hC ha hP1 hk
  exact ⟨h1, h2, hS, w.2.2.2⟩
theorem z_cvi (C : CallFix p m c cc nL s args Ts own) (w : Wd D T A s.heap s ws H locs) (hA : ∀ q, s.heap.size ≤ q → A q) {y : MethodName} {wl : List Cond} {rm : Room} {b : Nat} {As : List Value} {res : Int} {Cn : String} {TT : u_T} {N ci index n maxL : Nat} {fs : List Value} {bytes : ByteArray} {ret : Option FieldType}
    (hM : zCi l D T y wl rm (.ref b :: As) wc res wc') (cw : CallW R s args own Cn index y bytes maxL ret wl rm 0 0 n) (is : List Nat) (hC : is.map (fun i => ws[i]?) = wc.map some) (hn : va_nd is = true) (ha : wc'.map Prod.fst = wc.map Prod.fst) (hs : ZR ws is wc' ws2) (he : wc[0]? = some (zO b ci fs)) (hc : vwCl[ci]? = some (Cn, TT, N)) (hlen : As.length = n) (hst : st = As.reverse ++ .ref b :: rest) (hcat : (rest.map fun v => v.category).sum ≤ 8) (hsz : ls.size = nL) (hdg : decode cc pc = .ok (.invokevirtual index, 3)) (hroom : cells ≤ R.cells ∧ slots ≤ R.slots)
    (k : ∀ (H : Heap) (locs : List Loc), Wd D T A s.heap s ws2 H locs → W p l e R s m args below meth c H locs cells slots Q (F0 m (pc + 3) ls (.int (iI res) :: rest))) : W p l e R s m args below meth c H locs cells slots Q (F0 m pc ls st) := by
  have hF := va_free w.2.1 w.2.2.1 hA is hC
  refine va_calli (va_runV (As := As) (rest := rest) C (hM H.size) cw ⟨z_blind, va_recv w.2.2.2 (w.1.sub is (z_fm hC)) (ci := ci) (q0 := 0) hc he, fun U hU hW => z_pre w hC hn U hU hW⟩ rfl hlen hsz hst (lv_room hcat) hdg hroom) w.2.2.1 (fun q _ h => hF q h) hF (fun r u t H1 locs1 ht hvm hw hB hz1 hk1 hS => ?_)
  subst hw
  exact k H1 locs1 (z_back w hC ha hs ht hB hk1 hS)
theorem z_cvl (C : CallFix p m c cc nL s args Ts own) (w : Wd D T A s.heap s ws H locs) (hA : ∀ q, s.heap.size ≤ q → A q) {y : MethodName} {wl : List Cond} {rm : Room} {b : Nat} {As : List Value} {res : Int} {Cn : String} {TT : u_T} {N ci index n maxL : Nat} {fs : List Value} {bytes : ByteArray} {ret : Option FieldType}
    (hM : zCl l D T y wl rm (.ref b :: As) wc res wc') (cw : CallW R s args own Cn index y bytes maxL ret wl rm 0 0 n) (is : List Nat) (hC : is.map (fun i => ws[i]?) = wc.map some) (hn : va_nd is = true) (ha : wc'.map Prod.fst = wc.map Prod.fst) (hs : ZR ws is wc' ws2) (he : wc[0]? = some (zO b ci fs)) (hc : vwCl[ci]? = some (Cn, TT, N)) (hlen : As.length = n) (hst : st = As.reverse ++ .ref b :: rest) (hcat : (rest.map fun v => v.category).sum ≤ 8) (hsz : ls.size = nL) (hdg : decode cc pc = .ok (.invokevirtual index, 3)) (hroom : cells ≤ R.cells ∧ slots ≤ R.slots)
    (k : ∀ (H : Heap) (locs : List Loc), Wd D T A s.heap s ws2 H locs → W p l e R s m args below meth c H locs cells slots Q (F0 m (pc + 3) ls (.long (lI res) :: rest))) : W p l e R s m args below meth c H locs cells slots Q (F0 m pc ls st) := by
  have hF := va_free w.2.1 w.2.2.1 hA is hC
  refine va_calll (va_runV (As := As) (rest := rest) C (hM H.size) cw ⟨z_blind, va_recv w.2.2.2 (w.1.sub is (z_fm hC)) (ci := ci) (q0 := 0) hc he, fun U hU hW => z_pre w hC hn U hU hW⟩ rfl hlen hsz hst (lv_room hcat) hdg hroom) w.2.2.1 (fun q _ h => hF q h) hF (fun r u t H1 locs1 ht hvm hw hB hz1 hk1 hS => ?_)
  subst hw
  exact k H1 locs1 (z_back w hC ha hs ht hB hk1 hS)
theorem z_cvv (C : CallFix p m c cc nL s args Ts own) (w : Wd D T A s.heap s ws H locs) (hA : ∀ q, s.heap.size ≤ q → A q) {y : MethodName} {wl : List Cond} {rm : Room} {b : Nat} {As : List Value} {Cn : String} {TT : u_T} {N ci index n maxL : Nat} {fs : List Value} {bytes : ByteArray} {ret : Option FieldType}
    (hM : zCv l D T y wl rm (.ref b :: As) wc wc') (cw : CallW R s args own Cn index y bytes maxL ret wl rm 0 0 n) (is : List Nat) (hC : is.map (fun i => ws[i]?) = wc.map some) (hn : va_nd is = true) (ha : wc'.map Prod.fst = wc.map Prod.fst) (hs : ZR ws is wc' ws2) (he : wc[0]? = some (zO b ci fs)) (hc : vwCl[ci]? = some (Cn, TT, N)) (hlen : As.length = n) (hst : st = As.reverse ++ .ref b :: rest) (hcat : (rest.map fun v => v.category).sum ≤ 8) (hsz : ls.size = nL) (hdg : decode cc pc = .ok (.invokevirtual index, 3)) (hroom : cells ≤ R.cells ∧ slots ≤ R.slots)
    (k : ∀ (H : Heap) (locs : List Loc), Wd D T A s.heap s ws2 H locs → W p l e R s m args below meth c H locs cells slots Q (F0 m (pc + 3) ls rest)) : W p l e R s m args below meth c H locs cells slots Q (F0 m pc ls st) := by
  have hF := va_free w.2.1 w.2.2.1 hA is hC
  refine va_callv (va_runV (As := As) (rest := rest) C (hM H.size) cw ⟨z_blind, va_recv w.2.2.2 (w.1.sub is (z_fm hC)) (ci := ci) (q0 := 0) hc he, fun U hU hW => z_pre w hC hn U hU hW⟩ rfl hlen hsz hst (lv_room hcat) hdg hroom) w.2.2.1 (fun q _ h => hF q h) hF (fun u t H1 locs1 ht hvm hw hB hz1 hk1 hS => ?_)
  exact k H1 locs1 (z_back w hC ha hs ht hB hk1 hS)
theorem z_csi (C : CallFix p m c cc nL s args Ts own) (w : Wd D T A s.heap s ws H locs) (hA : ∀ q, s.heap.size ≤ q → A q) {y : MethodName} {wl : List Cond} {rm : Room} {As : List Value} {res : Int} {index n maxL : Nat} {bytes : ByteArray} {ret : Option FieldType}
    (hM : zCi l D T y wl rm As wc res wc') (cw : CallB R s args own index y bytes maxL ret wl rm 0 0 n ∧ (Cond.static y).before args s = true) (is : List Nat) (hC : is.map (fun i => ws[i]?) = wc.map some) (hn : va_nd is = true) (ha : wc'.map Prod.fst = wc.map Prod.fst) (hs : ZR ws is wc' ws2) (hlen : As.length = n) (hst : st = As.reverse ++ rest) (hcat : (rest.map fun v => v.category).sum ≤ 8) (hsz : ls.size = nL) (hdg : decode cc pc = .ok (.invokestatic index, 3)) (hroom : cells ≤ R.cells ∧ slots ≤ R.slots)
    (k : ∀ (H : Heap) (locs : List Loc), Wd D T A s.heap s ws2 H locs → W p l e R s m args below meth c H locs cells slots Q (F0 m (pc + 3) ls (.int (iI res) :: rest))) : W p l e R s m args below meth c H locs cells slots Q (F0 m pc ls st) := by
  have hF := va_free w.2.1 w.2.2.1 hA is hC
  refine va_calli (va_runS (As := As) (rest := rest) C (hM H.size) cw ⟨z_blind, fun U hU hW => z_pre w hC hn U hU hW⟩ rfl hlen hsz hst (lv_room hcat) hdg hroom) w.2.2.1 (fun q _ h => hF q h) hF (fun r u t H1 locs1 ht hvm hw hB hz1 hk1 hS => ?_)
  subst hw
  exact k H1 locs1 (z_back w hC ha hs ht hB hk1 hS)
theorem z_csv (C : CallFix p m c cc nL s args Ts own) (w : Wd D T A s.heap s ws H locs) (hA : ∀ q, s.heap.size ≤ q → A q) {y : MethodName} {wl : List Cond} {rm : Room} {As : List Value} {index n maxL : Nat} {bytes : ByteArray} {ret : Option FieldType}
    (hM : zCv l D T y wl rm As wc wc') (cw : CallB R s args own index y bytes maxL ret wl rm 0 0 n ∧ (Cond.static y).before args s = true) (is : List Nat) (hC : is.map (fun i => ws[i]?) = wc.map some) (hn : va_nd is = true) (ha : wc'.map Prod.fst = wc.map Prod.fst) (hs : ZR ws is wc' ws2) (hlen : As.length = n) (hst : st = As.reverse ++ rest) (hcat : (rest.map fun v => v.category).sum ≤ 8) (hsz : ls.size = nL) (hdg : decode cc pc = .ok (.invokestatic index, 3)) (hroom : cells ≤ R.cells ∧ slots ≤ R.slots)
    (k : ∀ (H : Heap) (locs : List Loc), Wd D T A s.heap s ws2 H locs → W p l e R s m args below meth c H locs cells slots Q (F0 m (pc + 3) ls rest)) : W p l e R s m args below meth c H locs cells slots Q (F0 m pc ls st) := by
  have hF := va_free w.2.1 w.2.2.1 hA is hC
  refine va_callv (va_runS (As := As) (rest := rest) C (hM H.size) cw ⟨z_blind, fun U hU hW => z_pre w hC hn U hU hW⟩ rfl hlen hsz hst (lv_room hcat) hdg hroom) w.2.2.1 (fun q _ h => hF q h) hF (fun u t H1 locs1 ht hvm hw hB hz1 hk1 hS => ?_)
  exact k H1 locs1 (z_back w hC ha hs ht hB hk1 hS)
theorem z_topI {x : Int32} {b : Int} (h : x = iI b) (k : W p l e R s m args below meth c H locs cells slots Q (F0 m pc ls (.int (iI b) :: rest))) : W p l e R s m args below meth c H locs cells slots Q (F0 m pc ls (.int x :: rest)) := by
  subst h
  exact k
theorem z_top {a b : Int} (h : a = b) (k : W p l e R s m args below meth c H locs cells slots Q (F0 m pc ls (.int (iI b) :: rest))) : W p l e R s m args below meth c H locs cells slots Q (F0 m pc ls (.int (iI a) :: rest)) := by
  subst h
  exact k
end ZK
section ZL
variable {p : Program} {l : Launch} {e : Env} {R : Room} {s : State} {m : MethodId} {args : Array Value} {below : List Frame} {meth : Method} {c : Code} {H : Heap} {locs : List Loc} {cells slots : Nat} {Q : State → Prop} {cc : ByteArray} {nL : Nat} {Ts : List Cond} {own : String}
variable {pc : Nat} {ls : Array Slot} {D : va_G} {T : List (ClassId × FieldType)} {A : Nat → Prop} {H0 : Heap}
theorem z_loop1 {A1 : Type} {P : A1 → Prop} {mu : A1 → Nat} {ws : A1 → va_W} {lv : A1 → List (Nat × Value)} (x1 : A1) (_ : CallFix p m c cc nL s args Ts own) (h0 : P x1) (w0 : Wd D T A H0 s (ws x1) H locs) (hl0 : lv_has ls nL (lv x1))
    (body : ∀ (x1 : A1), P x1 → (∀ (y1 : A1), P y1 → mu y1 < mu x1 → ∀ (H : Heap) (locs : List Loc) (ls : Array Slot), Wd D T A H0 s (ws y1) H locs → lv_has ls nL (lv y1) → W p l e R s m args below meth c H locs cells slots Q (F0 m pc ls [])) → ∀ (H : Heap) (locs : List Loc) (ls : Array Slot), Wd D T A H0 s (ws x1) H locs → lv_has ls nL (lv x1) → W p l e R s m args below meth c H locs cells slots Q (F0 m pc ls [])) : W p l e R s m args below meth c H locs cells slots Q (F0 m pc ls []) := by
  have key : ∀ (n : Nat) (x1 : A1), mu x1 < n → P x1 → ∀ (H : Heap) (locs : List Loc) (ls : Array Slot), Wd D T A H0 s (ws x1) H locs → lv_has ls nL (lv x1) → W p l e R s m args below meth c H locs cells slots Q (F0 m pc ls []) := by
    intro n
    induction n with
    | zero => intro x1 h; exact absurd h (Nat.not_lt_zero _)
    | succ n ih => intro x1 h hP H locs ls w hl; exact body x1 hP (fun y1 hy hm => ih y1 (by omega) hy) H locs ls w hl
  exact key _ x1 (Nat.lt_succ_self _) h0 H locs ls w0 hl0
theorem z_loop2 {A1 A2 : Type} {P : A1 → A2 → Prop} {mu : A1 → A2 → Nat} {ws : A1 → A2 → va_W} {lv : A1 → A2 → List (Nat × Value)} (x1 : A1) (x2 : A2) (_ : CallFix p m c cc nL s args Ts own) (h0 : P x1 x2) (w0 : Wd D T A H0 s (ws x1 x2) H locs) (hl0 : lv_has ls nL (lv x1 x2))
    (body : ∀ (x1 : A1) (x2 : A2), P x1 x2 → (∀ (y1 : A1) (y2 : A2), P y1 y2 → mu y1 y2 < mu x1 x2 → ∀ (H : Heap) (locs : List Loc) (ls : Array Slot), Wd D T A H0 s (ws y1 y2) H locs → lv_has ls nL (lv y1 y2) → W p l e R s m args below meth c H locs cells slots Q (F0 m pc ls [])) → ∀ (H : Heap) (locs : List Loc) (ls : Array Slot), Wd D T A H0 s (ws x1 x2) H locs → lv_has ls nL (lv x1 x2) → W p l e R s m args below meth c H locs cells slots Q (F0 m pc ls [])) : W p l e R s m args below meth c H locs cells slots Q (F0 m pc ls []) := by
  have key : ∀ (n : Nat) (x1 : A1) (x2 : A2), mu x1 x2 < n → P x1 x2 → ∀ (H : Heap) (locs : List Loc) (ls : Array Slot), Wd D T A H0 s (ws x1 x2) H locs → lv_has ls nL (lv x1 x2) → W p l e R s m args below meth c H locs cells slots Q (F0 m pc ls []) := by
    intro n
    induction n with
    | zero => intro x1 x2 h; exact absurd h (Nat.not_lt_zero _)
    | succ n ih => intro x1 x2 h hP H locs ls w hl; exact body x1 x2 hP (fun y1 y2 hy hm => ih y1 y2 (by omega) hy) H locs ls w hl
  exact key _ x1 x2 (Nat.lt_succ_self _) h0 H locs ls w0 hl0
theorem z_loop3 {A1 A2 A3 : Type} {P : A1 → A2 → A3 → Prop} {mu : A1 → A2 → A3 → Nat} {ws : A1 → A2 → A3 → va_W} {lv : A1 → A2 → A3 → List (Nat × Value)} (x1 : A1) (x2 : A2) (x3 : A3) (_ : CallFix p m c cc nL s args Ts own) (h0 : P x1 x2 x3) (w0 : Wd D T A H0 s (ws x1 x2 x3) H locs) (hl0 : lv_has ls nL (lv x1 x2 x3))
    (body : ∀ (x1 : A1) (x2 : A2) (x3 : A3), P x1 x2 x3 → (∀ (y1 : A1) (y2 : A2) (y3 : A3), P y1 y2 y3 → mu y1 y2 y3 < mu x1 x2 x3 → ∀ (H : Heap) (locs : List Loc) (ls : Array Slot), Wd D T A H0 s (ws y1 y2 y3) H locs → lv_has ls nL (lv y1 y2 y3) → W p l e R s m args below meth c H locs cells slots Q (F0 m pc ls [])) → ∀ (H : Heap) (locs : List Loc) (ls : Array Slot), Wd D T A H0 s (ws x1 x2 x3) H locs → lv_has ls nL (lv x1 x2 x3) → W p l e R s m args below meth c H locs cells slots Q (F0 m pc ls [])) : W p l e R s m args below meth c H locs cells slots Q (F0 m pc ls []) := by
  have key : ∀ (n : Nat) (x1 : A1) (x2 : A2) (x3 : A3), mu x1 x2 x3 < n → P x1 x2 x3 → ∀ (H : Heap) (locs : List Loc) (ls : Array Slot), Wd D T A H0 s (ws x1 x2 x3) H locs → lv_has ls nL (lv x1 x2 x3) → W p l e R s m args below meth c H locs cells slots Q (F0 m pc ls []) := by
    intro n
    induction n with
    | zero => intro x1 x2 x3 h; exact absurd h (Nat.not_lt_zero _)
    | succ n ih => intro x1 x2 x3 h hP H locs ls w hl; exact body x1 x2 x3 hP (fun y1 y2 y3 hy hm => ih y1 y2 y3 (by omega) hy) H locs ls w hl
  exact key _ x1 x2 x3 (Nat.lt_succ_self _) h0 H locs ls w0 hl0
theorem z_loop4 {A1 A2 A3 A4 : Type} {P : A1 → A2 → A3 → A4 → Prop} {mu : A1 → A2 → A3 → A4 → Nat} {ws : A1 → A2 → A3 → A4 → va_W} {lv : A1 → A2 → A3 → A4 → List (Nat × Value)} (x1 : A1) (x2 : A2) (x3 : A3) (x4 : A4) (_ : CallFix p m c cc nL s args Ts own) (h0 : P x1 x2 x3 x4) (w0 : Wd D T A H0 s (ws x1 x2 x3 x4) H locs) (hl0 : lv_has ls nL (lv x1 x2 x3 x4))
    (body : ∀ (x1 : A1) (x2 : A2) (x3 : A3) (x4 : A4), P x1 x2 x3 x4 → (∀ (y1 : A1) (y2 : A2) (y3 : A3) (y4 : A4), P y1 y2 y3 y4 → mu y1 y2 y3 y4 < mu x1 x2 x3 x4 → ∀ (H : Heap) (locs : List Loc) (ls : Array Slot), Wd D T A H0 s (ws y1 y2 y3 y4) H locs → lv_has ls nL (lv y1 y2 y3 y4) → W p l e R s m args below meth c H locs cells slots Q (F0 m pc ls [])) → ∀ (H : Heap) (locs : List Loc) (ls : Array Slot), Wd D T A H0 s (ws x1 x2 x3 x4) H locs → lv_has ls nL (lv x1 x2 x3 x4) → W p l e R s m args below meth c H locs cells slots Q (F0 m pc ls [])) : W p l e R s m args below meth c H locs cells slots Q (F0 m pc ls []) := by
  have key : ∀ (n : Nat) (x1 : A1) (x2 : A2) (x3 : A3) (x4 : A4), mu x1 x2 x3 x4 < n → P x1 x2 x3 x4 → ∀ (H : Heap) (locs : List Loc) (ls : Array Slot), Wd D T A H0 s (ws x1 x2 x3 x4) H locs → lv_has ls nL (lv x1 x2 x3 x4) → W p l e R s m args below meth c H locs cells slots Q (F0 m pc ls []) := by
    intro n
    induction n with
    | zero => intro x1 x2 x3 x4 h; exact absurd h (Nat.not_lt_zero _)
    | succ n ih => intro x1 x2 x3 x4 h hP H locs ls w hl; exact body x1 x2 x3 x4 hP (fun y1 y2 y3 y4 hy hm => ih y1 y2 y3 y4 (by omega) hy) H locs ls w hl
  exact key _ x1 x2 x3 x4 (Nat.lt_succ_self _) h0 H locs ls w0 hl0
theorem z_loop5 {A1 A2 A3 A4 A5 : Type} {P : A1 → A2 → A3 → A4 → A5 → Prop} {mu : A1 → A2 → A3 → A4 → A5 → Nat} {ws : A1 → A2 → A3 → A4 → A5 → va_W} {lv : A1 → A2 → A3 → A4 → A5 → List (Nat × Value)} (x1 : A1) (x2 : A2) (x3 : A3) (x4 : A4) (x5 : A5) (_ : CallFix p m c cc nL s args Ts own) (h0 : P x1 x2 x3 x4 x5) (w0 : Wd D T A H0 s (ws x1 x2 x3 x4 x5) H locs) (hl0 : lv_has ls nL (lv x1 x2 x3 x4 x5))
    (body : ∀ (x1 : A1) (x2 : A2) (x3 : A3) (x4 : A4) (x5 : A5), P x1 x2 x3 x4 x5 → (∀ (y1 : A1) (y2 : A2) (y3 : A3) (y4 : A4) (y5 : A5), P y1 y2 y3 y4 y5 → mu y1 y2 y3 y4 y5 < mu x1 x2 x3 x4 x5 → ∀ (H : Heap) (locs : List Loc) (ls : Array Slot), Wd D T A H0 s (ws y1 y2 y3 y4 y5) H locs → lv_has ls nL (lv y1 y2 y3 y4 y5) → W p l e R s m args below meth c H locs cells slots Q (F0 m pc ls [])) → ∀ (H : Heap) (locs : List Loc) (ls : Array Slot), Wd D T A H0 s (ws x1 x2 x3 x4 x5) H locs → lv_has ls nL (lv x1 x2 x3 x4 x5) → W p l e R s m args below meth c H locs cells slots Q (F0 m pc ls [])) : W p l e R s m args below meth c H locs cells slots Q (F0 m pc ls []) := by
  have key : ∀ (n : Nat) (x1 : A1) (x2 : A2) (x3 : A3) (x4 : A4) (x5 : A5), mu x1 x2 x3 x4 x5 < n → P x1 x2 x3 x4 x5 → ∀ (H : Heap) (locs : List Loc) (ls : Array Slot), Wd D T A H0 s (ws x1 x2 x3 x4 x5) H locs → lv_has ls nL (lv x1 x2 x3 x4 x5) → W p l e R s m args below meth c H locs cells slots Q (F0 m pc ls []) := by
    intro n
    induction n with
    | zero => intro x1 x2 x3 x4 x5 h; exact absurd h (Nat.not_lt_zero _)
    | succ n ih => intro x1 x2 x3 x4 x5 h hP H locs ls w hl; exact body x1 x2 x3 x4 x5 hP (fun y1 y2 y3 y4 y5 hy hm => ih y1 y2 y3 y4 y5 (by omega) hy) H locs ls w hl
  exact key _ x1 x2 x3 x4 x5 (Nat.lt_succ_self _) h0 H locs ls w0 hl0
theorem z_loop6 {A1 A2 A3 A4 A5 A6 : Type} {P : A1 → A2 → A3 → A4 → A5 → A6 → Prop} {mu : A1 → A2 → A3 → A4 → A5 → A6 → Nat} {ws : A1 → A2 → A3 → A4 → A5 → A6 → va_W} {lv : A1 → A2 → A3 → A4 → A5 → A6 → List (Nat × Value)} (x1 : A1) (x2 : A2) (x3 : A3) (x4 : A4) (x5 : A5) (x6 : A6) (_ : CallFix p m c cc nL s args Ts own) (h0 : P x1 x2 x3 x4 x5 x6) (w0 : Wd D T A H0 s (ws x1 x2 x3 x4 x5 x6) H locs) (hl0 : lv_has ls nL (lv x1 x2 x3 x4 x5 x6))
    (body : ∀ (x1 : A1) (x2 : A2) (x3 : A3) (x4 : A4) (x5 : A5) (x6 : A6), P x1 x2 x3 x4 x5 x6 → (∀ (y1 : A1) (y2 : A2) (y3 : A3) (y4 : A4) (y5 : A5) (y6 : A6), P y1 y2 y3 y4 y5 y6 → mu y1 y2 y3 y4 y5 y6 < mu x1 x2 x3 x4 x5 x6 → ∀ (H : Heap) (locs : List Loc) (ls : Array Slot), Wd D T A H0 s (ws y1 y2 y3 y4 y5 y6) H locs → lv_has ls nL (lv y1 y2 y3 y4 y5 y6) → W p l e R s m args below meth c H locs cells slots Q (F0 m pc ls [])) → ∀ (H : Heap) (locs : List Loc) (ls : Array Slot), Wd D T A H0 s (ws x1 x2 x3 x4 x5 x6) H locs → lv_has ls nL (lv x1 x2 x3 x4 x5 x6) → W p l e R s m args below meth c H locs cells slots Q (F0 m pc ls [])) : W p l e R s m args below meth c H locs cells slots Q (F0 m pc ls []) := by
  have key : ∀ (n : Nat) (x1 : A1) (x2 : A2) (x3 : A3) (x4 : A4) (x5 : A5) (x6 : A6), mu x1 x2 x3 x4 x5 x6 < n → P x1 x2 x3 x4 x5 x6 → ∀ (H : Heap) (locs : List Loc) (ls : Array Slot), Wd D T A H0 s (ws x1 x2 x3 x4 x5 x6) H locs → lv_has ls nL (lv x1 x2 x3 x4 x5 x6) → W p l e R s m args below meth c H locs cells slots Q (F0 m pc ls []) := by
    intro n
    induction n with
    | zero => intro x1 x2 x3 x4 x5 x6 h; exact absurd h (Nat.not_lt_zero _)
    | succ n ih => intro x1 x2 x3 x4 x5 x6 h hP H locs ls w hl; exact body x1 x2 x3 x4 x5 x6 hP (fun y1 y2 y3 y4 y5 y6 hy hm => ih y1 y2 y3 y4 y5 y6 (by omega) hy) H locs ls w hl
  exact key _ x1 x2 x3 x4 x5 x6 (Nat.lt_succ_self _) h0 H locs ls w0 hl0
theorem z_loop7 {A1 A2 A3 A4 A5 A6 A7 : Type} {P : A1 → A2 → A3 → A4 → A5 → A6 → A7 → Prop} {mu : A1 → A2 → A3 → A4 → A5 → A6 → A7 → Nat} {ws : A1 → A2 → A3 → A4 → A5 → A6 → A7 → va_W} {lv : A1 → A2 → A3 → A4 → A5 → A6 → A7 → List (Nat × Value)} (x1 : A1) (x2 : A2) (x3 : A3) (x4 : A4) (x5 : A5) (x6 : A6) (x7 : A7) (_ : CallFix p m c cc nL s args Ts own) (h0 : P x1 x2 x3 x4 x5 x6 x7) (w0 : Wd D T A H0 s (ws x1 x2 x3 x4 x5 x6 x7) H locs) (hl0 : lv_has ls nL (lv x1 x2 x3 x4 x5 x6 x7))
    (body : ∀ (x1 : A1) (x2 : A2) (x3 : A3) (x4 : A4) (x5 : A5) (x6 : A6) (x7 : A7), P x1 x2 x3 x4 x5 x6 x7 → (∀ (y1 : A1) (y2 : A2) (y3 : A3) (y4 : A4) (y5 : A5) (y6 : A6) (y7 : A7), P y1 y2 y3 y4 y5 y6 y7 → mu y1 y2 y3 y4 y5 y6 y7 < mu x1 x2 x3 x4 x5 x6 x7 → ∀ (H : Heap) (locs : List Loc) (ls : Array Slot), Wd D T A H0 s (ws y1 y2 y3 y4 y5 y6 y7) H locs → lv_has ls nL (lv y1 y2 y3 y4 y5 y6 y7) → W p l e R s m args below meth c H locs cells slots Q (F0 m pc ls [])) → ∀ (H : Heap) (locs : List Loc) (ls : Array Slot), Wd D T A H0 s (ws x1 x2 x3 x4 x5 x6 x7) H locs → lv_has ls nL (lv x1 x2 x3 x4 x5 x6 x7) → W p l e R s m args below meth c H locs cells slots Q (F0 m pc ls [])) : W p l e R s m args below meth c H locs cells slots Q (F0 m pc ls []) := by
  have key : ∀ (n : Nat) (x1 : A1) (x2 : A2) (x3 : A3) (x4 : A4) (x5 : A5) (x6 : A6) (x7 : A7), mu x1 x2 x3 x4 x5 x6 x7 < n → P x1 x2 x3 x4 x5 x6 x7 → ∀ (H : Heap) (locs : List Loc) (ls : Array Slot), Wd D T A H0 s (ws x1 x2 x3 x4 x5 x6 x7) H locs → lv_has ls nL (lv x1 x2 x3 x4 x5 x6 x7) → W p l e R s m args below meth c H locs cells slots Q (F0 m pc ls []) := by
    intro n
    induction n with
    | zero => intro x1 x2 x3 x4 x5 x6 x7 h; exact absurd h (Nat.not_lt_zero _)
    | succ n ih => intro x1 x2 x3 x4 x5 x6 x7 h hP H locs ls w hl; exact body x1 x2 x3 x4 x5 x6 x7 hP (fun y1 y2 y3 y4 y5 y6 y7 hy hm => ih y1 y2 y3 y4 y5 y6 y7 (by omega) hy) H locs ls w hl
  exact key _ x1 x2 x3 x4 x5 x6 x7 (Nat.lt_succ_self _) h0 H locs ls w0 hl0
theorem z_loop8 {A1 A2 A3 A4 A5 A6 A7 A8 : Type} {P : A1 → A2 → A3 → A4 → A5 → A6 → A7 → A8 → Prop} {mu : A1 → A2 → A3 → A4 → A5 → A6 → A7 → A8 → Nat} {ws : A1 → A2 → A3 → A4 → A5 → A6 → A7 → A8 → va_W} {lv : A1 → A2 → A3 → A4 → A5 → A6 → A7 → A8 → List (Nat × Value)} (x1 : A1) (x2 : A2) (x3 : A3) (x4 : A4) (x5 : A5) (x6 : A6) (x7 : A7) (x8 : A8) (_ : CallFix p m c cc nL s args Ts own) (h0 : P x1 x2 x3 x4 x5 x6 x7 x8) (w0 : Wd D T A H0 s (ws x1 x2 x3 x4 x5 x6 x7 x8) H locs) (hl0 : lv_has ls nL (lv x1 x2 x3 x4 x5 x6 x7 x8))
    (body : ∀ (x1 : A1) (x2 : A2) (x3 : A3) (x4 : A4) (x5 : A5) (x6 : A6) (x7 : A7) (x8 : A8), P x1 x2 x3 x4 x5 x6 x7 x8 → (∀ (y1 : A1) (y2 : A2) (y3 : A3) (y4 : A4) (y5 : A5) (y6 : A6) (y7 : A7) (y8 : A8), P y1 y2 y3 y4 y5 y6 y7 y8 → mu y1 y2 y3 y4 y5 y6 y7 y8 < mu x1 x2 x3 x4 x5 x6 x7 x8 → ∀ (H : Heap) (locs : List Loc) (ls : Array Slot), Wd D T A H0 s (ws y1 y2 y3 y4 y5 y6 y7 y8) H locs → lv_has ls nL (lv y1 y2 y3 y4 y5 y6 y7 y8) → W p l e R s m args below meth c H locs cells slots Q (F0 m pc ls [])) → ∀ (H : Heap) (locs : List Loc) (ls : Array Slot), Wd D T A H0 s (ws x1 x2 x3 x4 x5 x6 x7 x8) H locs → lv_has ls nL (lv x1 x2 x3 x4 x5 x6 x7 x8) → W p l e R s m args below meth c H locs cells slots Q (F0 m pc ls [])) : W p l e R s m args below meth c H locs cells slots Q (F0 m pc ls []) := by
  have key : ∀ (n : Nat) (x1 : A1) (x2 : A2) (x3 : A3) (x4 : A4) (x5 : A5) (x6 : A6) (x7 : A7) (x8 : A8), mu x1 x2 x3 x4 x5 x6 x7 x8 < n → P x1 x2 x3 x4 x5 x6 x7 x8 → ∀ (H : Heap) (locs : List Loc) (ls : Array Slot), Wd D T A H0 s (ws x1 x2 x3 x4 x5 x6 x7 x8) H locs → lv_has ls nL (lv x1 x2 x3 x4 x5 x6 x7 x8) → W p l e R s m args below meth c H locs cells slots Q (F0 m pc ls []) := by
    intro n
    induction n with
    | zero => intro x1 x2 x3 x4 x5 x6 x7 x8 h; exact absurd h (Nat.not_lt_zero _)
    | succ n ih => intro x1 x2 x3 x4 x5 x6 x7 x8 h hP H locs ls w hl; exact body x1 x2 x3 x4 x5 x6 x7 x8 hP (fun y1 y2 y3 y4 y5 y6 y7 y8 hy hm => ih y1 y2 y3 y4 y5 y6 y7 y8 (by omega) hy) H locs ls w hl
  exact key _ x1 x2 x3 x4 x5 x6 x7 x8 (Nat.lt_succ_self _) h0 H locs ls w0 hl0
theorem z_join0 {P : Prop} {ws : va_W} {lv : List (Nat × Value)} {stj : List Value} {st : List Value} (q : Nat)
    (body : P → ∀ (H : Heap) (locs : List Loc) (ls : Array Slot), Wd D T A H0 s ws H locs → lv_has ls nL lv → W p l e R s m args below meth c H locs cells slots Q (F0 m q ls stj))
    (k : (P → ∀ (H : Heap) (locs : List Loc) (ls : Array Slot), Wd D T A H0 s ws H locs → lv_has ls nL lv → W p l e R s m args below meth c H locs cells slots Q (F0 m q ls stj)) → W p l e R s m args below meth c H locs cells slots Q (F0 m pc ls st)) : W p l e R s m args below meth c H locs cells slots Q (F0 m pc ls st) := k body
theorem z_join1 {A1 : Type} {P : A1 → Prop} {ws : A1 → va_W} {lv : A1 → List (Nat × Value)} {stj : A1 → List Value} {st : List Value} (q : Nat)
    (body : ∀ (x1 : A1), (P x1) → ∀ (H : Heap) (locs : List Loc) (ls : Array Slot), Wd D T A H0 s (ws x1) H locs → lv_has ls nL (lv x1) → W p l e R s m args below meth c H locs cells slots Q (F0 m q ls (stj x1)))
    (k : (∀ (x1 : A1), (P x1) → ∀ (H : Heap) (locs : List Loc) (ls : Array Slot), Wd D T A H0 s (ws x1) H locs → lv_has ls nL (lv x1) → W p l e R s m args below meth c H locs cells slots Q (F0 m q ls (stj x1))) → W p l e R s m args below meth c H locs cells slots Q (F0 m pc ls st)) : W p l e R s m args below meth c H locs cells slots Q (F0 m pc ls st) := k body
theorem z_join2 {A1 A2 : Type} {P : A1 → A2 → Prop} {ws : A1 → A2 → va_W} {lv : A1 → A2 → List (Nat × Value)} {stj : A1 → A2 → List Value} {st : List Value} (q : Nat)
    (body : ∀ (x1 : A1) (x2 : A2), (P x1 x2) → ∀ (H : Heap) (locs : List Loc) (ls : Array Slot), Wd D T A H0 s (ws x1 x2) H locs → lv_has ls nL (lv x1 x2) → W p l e R s m args below meth c H locs cells slots Q (F0 m q ls (stj x1 x2)))
    (k : (∀ (x1 : A1) (x2 : A2), (P x1 x2) → ∀ (H : Heap) (locs : List Loc) (ls : Array Slot), Wd D T A H0 s (ws x1 x2) H locs → lv_has ls nL (lv x1 x2) → W p l e R s m args below meth c H locs cells slots Q (F0 m q ls (stj x1 x2))) → W p l e R s m args below meth c H locs cells slots Q (F0 m pc ls st)) : W p l e R s m args below meth c H locs cells slots Q (F0 m pc ls st) := k body
theorem z_join3 {A1 A2 A3 : Type} {P : A1 → A2 → A3 → Prop} {ws : A1 → A2 → A3 → va_W} {lv : A1 → A2 → A3 → List (Nat × Value)} {stj : A1 → A2 → A3 → List Value} {st : List Value} (q : Nat)
    (body : ∀ (x1 : A1) (x2 : A2) (x3 : A3), (P x1 x2 x3) → ∀ (H : Heap) (locs : List Loc) (ls : Array Slot), Wd D T A H0 s (ws x1 x2 x3) H locs → lv_has ls nL (lv x1 x2 x3) → W p l e R s m args below meth c H locs cells slots Q (F0 m q ls (stj x1 x2 x3)))
    (k : (∀ (x1 : A1) (x2 : A2) (x3 : A3), (P x1 x2 x3) → ∀ (H : Heap) (locs : List Loc) (ls : Array Slot), Wd D T A H0 s (ws x1 x2 x3) H locs → lv_has ls nL (lv x1 x2 x3) → W p l e R s m args below meth c H locs cells slots Q (F0 m q ls (stj x1 x2 x3))) → W p l e R s m args below meth c H locs cells slots Q (F0 m pc ls st)) : W p l e R s m args below meth c H locs cells slots Q (F0 m pc ls st) := k body
theorem z_join4 {A1 A2 A3 A4 : Type} {P : A1 → A2 → A3 → A4 → Prop} {ws : A1 → A2 → A3 → A4 → va_W} {lv : A1 → A2 → A3 → A4 → List (Nat × Value)} {stj : A1 → A2 → A3 → A4 → List Value} {st : List Value} (q : Nat)
    (body : ∀ (x1 : A1) (x2 : A2) (x3 : A3) (x4 : A4), (P x1 x2 x3 x4) → ∀ (H : Heap) (locs : List Loc) (ls : Array Slot), Wd D T A H0 s (ws x1 x2 x3 x4) H locs → lv_has ls nL (lv x1 x2 x3 x4) → W p l e R s m args below meth c H locs cells slots Q (F0 m q ls (stj x1 x2 x3 x4)))
    (k : (∀ (x1 : A1) (x2 : A2) (x3 : A3) (x4 : A4), (P x1 x2 x3 x4) → ∀ (H : Heap) (locs : List Loc) (ls : Array Slot), Wd D T A H0 s (ws x1 x2 x3 x4) H locs → lv_has ls nL (lv x1 x2 x3 x4) → W p l e R s m args below meth c H locs cells slots Q (F0 m q ls (stj x1 x2 x3 x4))) → W p l e R s m args below meth c H locs cells slots Q (F0 m pc ls st)) : W p l e R s m args below meth c H locs cells slots Q (F0 m pc ls st) := k body
theorem z_join5 {A1 A2 A3 A4 A5 : Type} {P : A1 → A2 → A3 → A4 → A5 → Prop} {ws : A1 → A2 → A3 → A4 → A5 → va_W} {lv : A1 → A2 → A3 → A4 → A5 → List (Nat × Value)} {stj : A1 → A2 → A3 → A4 → A5 → List Value} {st : List Value} (q : Nat)
    (body : ∀ (x1 : A1) (x2 : A2) (x3 : A3) (x4 : A4) (x5 : A5), (P x1 x2 x3 x4 x5) → ∀ (H : Heap) (locs : List Loc) (ls : Array Slot), Wd D T A H0 s (ws x1 x2 x3 x4 x5) H locs → lv_has ls nL (lv x1 x2 x3 x4 x5) → W p l e R s m args below meth c H locs cells slots Q (F0 m q ls (stj x1 x2 x3 x4 x5)))
    (k : (∀ (x1 : A1) (x2 : A2) (x3 : A3) (x4 : A4) (x5 : A5), (P x1 x2 x3 x4 x5) → ∀ (H : Heap) (locs : List Loc) (ls : Array Slot), Wd D T A H0 s (ws x1 x2 x3 x4 x5) H locs → lv_has ls nL (lv x1 x2 x3 x4 x5) → W p l e R s m args below meth c H locs cells slots Q (F0 m q ls (stj x1 x2 x3 x4 x5))) → W p l e R s m args below meth c H locs cells slots Q (F0 m pc ls st)) : W p l e R s m args below meth c H locs cells slots Q (F0 m pc ls st) := k body
theorem z_join6 {A1 A2 A3 A4 A5 A6 : Type} {P : A1 → A2 → A3 → A4 → A5 → A6 → Prop} {ws : A1 → A2 → A3 → A4 → A5 → A6 → va_W} {lv : A1 → A2 → A3 → A4 → A5 → A6 → List (Nat × Value)} {stj : A1 → A2 → A3 → A4 → A5 → A6 → List Value} {st : List Value} (q : Nat)
    (body : ∀ (x1 : A1) (x2 : A2) (x3 : A3) (x4 : A4) (x5 : A5) (x6 : A6), (P x1 x2 x3 x4 x5 x6) → ∀ (H : Heap) (locs : List Loc) (ls : Array Slot), Wd D T A H0 s (ws x1 x2 x3 x4 x5 x6) H locs → lv_has ls nL (lv x1 x2 x3 x4 x5 x6) → W p l e R s m args below meth c H locs cells slots Q (F0 m q ls (stj x1 x2 x3 x4 x5 x6)))
    (k : (∀ (x1 : A1) (x2 : A2) (x3 : A3) (x4 : A4) (x5 : A5) (x6 : A6), (P x1 x2 x3 x4 x5 x6) → ∀ (H : Heap) (locs : List Loc) (ls : Array Slot), Wd D T A H0 s (ws x1 x2 x3 x4 x5 x6) H locs → lv_has ls nL (lv x1 x2 x3 x4 x5 x6) → W p l e R s m args below meth c H locs cells slots Q (F0 m q ls (stj x1 x2 x3 x4 x5 x6))) → W p l e R s m args below meth c H locs cells slots Q (F0 m pc ls st)) : W p l e R s m args below meth c H locs cells slots Q (F0 m pc ls st) := k body
theorem z_join7 {A1 A2 A3 A4 A5 A6 A7 : Type} {P : A1 → A2 → A3 → A4 → A5 → A6 → A7 → Prop} {ws : A1 → A2 → A3 → A4 → A5 → A6 → A7 → va_W} {lv : A1 → A2 → A3 → A4 → A5 → A6 → A7 → List (Nat × Value)} {stj : A1 → A2 → A3 → A4 → A5 → A6 → A7 → List Value} {st : List Value} (q : Nat)
    (body : ∀ (x1 : A1) (x2 : A2) (x3 : A3) (x4 : A4) (x5 : A5) (x6 : A6) (x7 : A7), (P x1 x2 x3 x4 x5 x6 x7) → ∀ (H : Heap) (locs : List Loc) (ls : Array Slot), Wd D T A H0 s (ws x1 x2 x3 x4 x5 x6 x7) H locs → lv_has ls nL (lv x1 x2 x3 x4 x5 x6 x7) → W p l e R s m args below meth c H locs cells slots Q (F0 m q ls (stj x1 x2 x3 x4 x5 x6 x7)))
    (k : (∀ (x1 : A1) (x2 : A2) (x3 : A3) (x4 : A4) (x5 : A5) (x6 : A6) (x7 : A7), (P x1 x2 x3 x4 x5 x6 x7) → ∀ (H : Heap) (locs : List Loc) (ls : Array Slot), Wd D T A H0 s (ws x1 x2 x3 x4 x5 x6 x7) H locs → lv_has ls nL (lv x1 x2 x3 x4 x5 x6 x7) → W p l e R s m args below meth c H locs cells slots Q (F0 m q ls (stj x1 x2 x3 x4 x5 x6 x7))) → W p l e R s m args below meth c H locs cells slots Q (F0 m pc ls st)) : W p l e R s m args below meth c H locs cells slots Q (F0 m pc ls st) := k body
theorem z_join8 {A1 A2 A3 A4 A5 A6 A7 A8 : Type} {P : A1 → A2 → A3 → A4 → A5 → A6 → A7 → A8 → Prop} {ws : A1 → A2 → A3 → A4 → A5 → A6 → A7 → A8 → va_W} {lv : A1 → A2 → A3 → A4 → A5 → A6 → A7 → A8 → List (Nat × Value)} {stj : A1 → A2 → A3 → A4 → A5 → A6 → A7 → A8 → List Value} {st : List Value} (q : Nat)
    (body : ∀ (x1 : A1) (x2 : A2) (x3 : A3) (x4 : A4) (x5 : A5) (x6 : A6) (x7 : A7) (x8 : A8), (P x1 x2 x3 x4 x5 x6 x7 x8) → ∀ (H : Heap) (locs : List Loc) (ls : Array Slot), Wd D T A H0 s (ws x1 x2 x3 x4 x5 x6 x7 x8) H locs → lv_has ls nL (lv x1 x2 x3 x4 x5 x6 x7 x8) → W p l e R s m args below meth c H locs cells slots Q (F0 m q ls (stj x1 x2 x3 x4 x5 x6 x7 x8)))
    (k : (∀ (x1 : A1) (x2 : A2) (x3 : A3) (x4 : A4) (x5 : A5) (x6 : A6) (x7 : A7) (x8 : A8), (P x1 x2 x3 x4 x5 x6 x7 x8) → ∀ (H : Heap) (locs : List Loc) (ls : Array Slot), Wd D T A H0 s (ws x1 x2 x3 x4 x5 x6 x7 x8) H locs → lv_has ls nL (lv x1 x2 x3 x4 x5 x6 x7 x8) → W p l e R s m args below meth c H locs cells slots Q (F0 m q ls (stj x1 x2 x3 x4 x5 x6 x7 x8))) → W p l e R s m args below meth c H locs cells slots Q (F0 m pc ls st)) : W p l e R s m args below meth c H locs cells slots Q (F0 m pc ls st) := k body
end ZL
