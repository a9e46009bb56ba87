theorem iI_and31 (v : Int) : iI v &&& iI 31 = iI (v % 32) := by
  rw [← Int32.toBitVec_inj]
  apply BitVec.eq_of_toNat_eq
  have e : ((v % 4294967296).toNat &&& 31) = (v % 4294967296).toNat % 32 := Nat.and_two_pow_sub_one_eq_mod _ 5
  simp [iI, BitVec.toNat_ofInt]
  omega
section LWL
variable {p : Program} {l : Launch} {e : Env} {R : Room} {s : State} {m : MethodId} {args : Array Value} {below : List Frame} {meth : Method} {c : Code} {H : Heap} {locs : List Loc} {cells slots : Nat} {Q : State → Prop} {cc : ByteArray} {nL : Nat} {Ts : List Cond} {own : String}
variable {pc : Nat} {ls : Array Slot} {rest : List Value} {D : va_G} {T : List (ClassId × FieldType)} {A : Nat → Prop} {ws : va_W} {b Ls : Nat} {xs : Nat → Int32}
theorem z_slen (C : CallFix p m c cc nL s args Ts own) (wd : Wd D T A s.heap s ws H locs) (hX : va_X b Ls xs s s.heap) (hbl : b < s.heap.size) (hbA : ¬ A b) (hdg : decode cc pc = .ok (.arraylength, 1))
    (kk : W p l e R s m args below meth c H locs cells slots Q (F0 m (pc + 1) ls (.int (iI (Ls : Int)) :: rest))) : W p l e R s m args below meth c H locs cells slots Q (F0 m pc ls (.ref b :: rest)) := by
  refine va_slen C.1 C.2.1 hX hbl hbA wd.2.2.1 hdg ?_
  have e : Int32.ofNat Ls = iI (Ls : Int) := iI_nI Ls
  rw [e]
  exact kk
end LWL
set_option maxRecDepth 100000 in
set_option maxHeartbeats 20000000 in
theorem law_loop {p : Program} {l : Launch} {e : Env} {s : State} {m : MethodId} {below : List Frame} {meth : Method} {c : Code} {D : va_G} {b Ls : Nat} {xs : Nat → Int32} {cy cs : ClassId} {w0 w1 t0 t1 w2 : Nat} {mm : Nat → Nat} (C : CallFix p m c cL_law 4 s #[Value.ref b] wsL_law RL) (hX : va_X b Ls xs s s.heap) (hbl : b < s.heap.size) (hLs : Ls ≤ 2560) (hb0 : c.code = code) (hr : meth.sig.returnType = ret) (hlk : meth.locks = false) : ∀ (k : Nat) (i : Int), 0 ≤ i ∧ i ≤ Ls → ((Ls : Int) - i).toNat < k → lNX p l e s m below meth c b D cy cs w0 w1 t0 t1 w2 mm i 18 := by
  intro k
  induction k with
  | zero => intro i h0 h1; omega
  | succ k ih =>
    intro i hi hk iK n ty fv dz Hs Sh tx hd me wk fr B K X F G E hI H locs ls hl wd
    have hbA : ¬ (fun q : Nat => s.heap.size ≤ q) b := Nat.not_le.mpr hbl
    unfold lG
    refine lv_iload_n C.1 C.2.1 dL_law_18 rfl (lv_at hl 3 rfl) ?_
    refine lv_aload_n C.1 C.2.1 dL_law_19 rfl (lv_at hl 0 rfl) ?_
    refine z_slen C wd hX hbl hbA dL_law_20 ?_
    refine z_iconst C dL_law_21 ?_
    refine z_isub C dL_law_22 ?_
    refine z_icmp_gt C (tgt := 724) dL_law_23 (by decide) (by omega) (fun c_1 => ?_) (fun c_1 => ?_)
    · refine lv_iconst (v := 1) C.1 C.2.1 dL_law_724 (by decide) ?_
      refine va_forget wd.2.2.1.2.2 ?_
      refine W.widen (k := 600000) (n := 7302250) (Nat.le_of_ble_eq_true rfl) (Nat.le_of_ble_eq_true rfl) ?_
      exact lw_ret C.1 hb0 hr hlk dL_law_725
    · have hNX : lNX p l e s m below meth c b D cy cs w0 w1 t0 t1 w2 mm i 718 := by
        intro iK n ty fv dz Hs Sh tx hd me wk fr B K X F G E hI H locs ls hl wd
        unfold lG
        refine z_iinc C (lv' := [(3, .int (iI (i + 5))), (0, .ref b), (1, .ref w0), (2, .ref (mm 0))]) hl 3 dL_law_718 rfl (by decide) rfl (fun ls hl => ?_)
        refine z_goto C (tgt := 18) dL_law_721 (by decide) ?_
        exact ih (i + 5) (by omega) (by omega) iK n ty fv dz Hs Sh tx hd me wk fr B K X F G E hI H locs ls (lv_sub hl [1, 2, 3, 0] rfl) wd
      obtain ⟨v0, hv0⟩ : ∃ v, (xs i.toNat).toInt = v := ⟨_, rfl⟩
      refine lv_aload_n C.1 C.2.1 dL_law_26 rfl (lv_at hl 0 rfl) ?_
      refine lv_iload_n C.1 C.2.1 dL_law_27 rfl (lv_at hl 3 rfl) ?_
      refine z_sld C wd hX hbl hbA (v := v0) (by omega) hLs hv0 dL_law_28 ?_
      refine z_bipush C dL_law_29 (by decide +kernel) ?_
      refine z_iand C (v0 % 32) dL_law_31 (iI_and31 v0) ?_
      generalize hx : v0 % 32 = x
      have hx1 : 0 ≤ x ∧ x < 32 := by omega
      have hi5 : 0 ≤ i ∧ i + 5 ≤ (Ls : Int) := by omega
      rcases Int.lt_or_le 25 x with c_2 | c_2
      · refine lv_tableOut (tgt := 718) C.1 C.2.1 dL_law_32 (Or.inr (by rw [iI_toInt (by omega) (by omega)]; exact c_2)) (by decide) ?_
        exact hNX iK n ty fv dz Hs Sh tx hd me wk fr B K X F G E hI H locs ls hl wd
      rcases (show x = 0 ∨ x = 1 ∨ x = 2 ∨ x = 3 ∨ x = 4 ∨ x = 5 ∨ x = 6 ∨ x = 7 ∨ x = 8 ∨ x = 9 ∨ x = 10 ∨ x = 11 ∨ x = 12 ∨ x = 13 ∨ x = 14 ∨ x = 15 ∨ x = 16 ∨ x = 17 ∨ x = 18 ∨ x = 19 ∨ x = 20 ∨ x = 21 ∨ x = 22 ∨ x = 23 ∨ x = 24 ∨ x = 25 by omega) with c_3 | c_3 | c_3 | c_3 | c_3 | c_3 | c_3 | c_3 | c_3 | c_3 | c_3 | c_3 | c_3 | c_3 | c_3 | c_3 | c_3 | c_3 | c_3 | c_3 | c_3 | c_3 | c_3 | c_3 | c_3 | c_3
      · refine lv_tableIn (tgt := 152) (off := 120) C.1 C.2.1 dL_law_32 (by rw [iI_toInt (by omega) (by omega)]; omega) (by rw [iI_toInt (by omega) (by omega)]; omega) (by rw [iI_toInt (by omega) (by omega), c_3]; rfl) (by decide) ?_
        exact lf_setCode C hX hbl hLs hi5 hNX iK n ty fv dz Hs Sh tx hd me wk fr B K X F G E hI H locs ls hl wd
      · refine lv_tableIn (tgt := 205) (off := 173) C.1 C.2.1 dL_law_32 (by rw [iI_toInt (by omega) (by omega)]; omega) (by rw [iI_toInt (by omega) (by omega)]; omega) (by rw [iI_toInt (by omega) (by omega), c_3]; rfl) (by decide) ?_
        exact lf_setDepth C hX hbl hLs hi5 hNX iK n ty fv dz Hs Sh tx hd me wk fr B K X F G E hI H locs ls hl wd
      · refine lv_tableIn (tgt := 228) (off := 196) C.1 C.2.1 dL_law_32 (by rw [iI_toInt (by omega) (by omega)]; omega) (by rw [iI_toInt (by omega) (by omega)]; omega) (by rw [iI_toInt (by omega) (by omega), c_3]; rfl) (by decide) ?_
        exact lf_send C hX hbl hLs hi5 hNX iK n ty fv dz Hs Sh tx hd me wk fr B K X F G E hI H locs ls hl wd
      · refine lv_tableIn (tgt := 241) (off := 209) C.1 C.2.1 dL_law_32 (by rw [iI_toInt (by omega) (by omega)]; omega) (by rw [iI_toInt (by omega) (by omega)]; omega) (by rw [iI_toInt (by omega) (by omega), c_3]; rfl) (by decide) ?_
        exact lf_sendTail C hX hbl hLs hi5 hNX iK n ty fv dz Hs Sh tx hd me wk fr B K X F G E hI H locs ls hl wd
      · refine lv_tableIn (tgt := 254) (off := 222) C.1 C.2.1 dL_law_32 (by rw [iI_toInt (by omega) (by omega)]; omega) (by rw [iI_toInt (by omega) (by omega)]; omega) (by rw [iI_toInt (by omega) (by omega), c_3]; rfl) (by decide) ?_
        exact lf_flip C hX hbl hLs hi5 hNX iK n ty fv dz Hs Sh tx hd me wk fr B K X F G E hI H locs ls hl wd
      · refine lv_tableIn (tgt := 277) (off := 245) C.1 C.2.1 dL_law_32 (by rw [iI_toInt (by omega) (by omega)]; omega) (by rw [iI_toInt (by omega) (by omega)]; omega) (by rw [iI_toInt (by omega) (by omega), c_3]; rfl) (by decide) ?_
        exact lf_erase C hX hbl hLs hi5 hNX iK n ty fv dz Hs Sh tx hd me wk fr B K X F G E hI H locs ls hl wd
      · refine lv_tableIn (tgt := 300) (off := 268) C.1 C.2.1 dL_law_32 (by rw [iI_toInt (by omega) (by omega)]; omega) (by rw [iI_toInt (by omega) (by omega)]; omega) (by rw [iI_toInt (by omega) (by omega), c_3]; rfl) (by decide) ?_
        exact lf_take C hX hbl hLs hi5 hNX iK n ty fv dz Hs Sh tx hd me wk fr B K X F G E hI H locs ls hl wd
      · refine lv_tableIn (tgt := 323) (off := 291) C.1 C.2.1 dL_law_32 (by rw [iI_toInt (by omega) (by omega)]; omega) (by rw [iI_toInt (by omega) (by omega)]; omega) (by rw [iI_toInt (by omega) (by omega), c_3]; rfl) (by decide) ?_
        exact lf_hear C hX hbl hLs hi5 hNX iK n ty fv dz Hs Sh tx hd me wk fr B K X F G E hI H locs ls hl wd
      · refine lv_tableIn (tgt := 336) (off := 304) C.1 C.2.1 dL_law_32 (by rw [iI_toInt (by omega) (by omega)]; omega) (by rw [iI_toInt (by omega) (by omega)]; omega) (by rw [iI_toInt (by omega) (by omega), c_3]; rfl) (by decide) ?_
        exact lf_finish C hX hbl hLs hi5 hNX iK n ty fv dz Hs Sh tx hd me wk fr B K X F G E hI H locs ls hl wd
      · refine lv_tableIn (tgt := 375) (off := 343) C.1 C.2.1 dL_law_32 (by rw [iI_toInt (by omega) (by omega)]; omega) (by rw [iI_toInt (by omega) (by omega)]; omega) (by rw [iI_toInt (by omega) (by omega), c_3]; rfl) (by decide) ?_
        exact lf_reset C hX hbl hLs hi5 hNX iK n ty fv dz Hs Sh tx hd me wk fr B K X F G E hI H locs ls hl wd
      · refine lv_tableIn (tgt := 388) (off := 356) C.1 C.2.1 dL_law_32 (by rw [iI_toInt (by omega) (by omega)]; omega) (by rw [iI_toInt (by omega) (by omega)]; omega) (by rw [iI_toInt (by omega) (by omega), c_3]; rfl) (by decide) ?_
        exact lf_type C hX hbl hLs hi5 hNX iK n ty fv dz Hs Sh tx hd me wk fr B K X F G E hI H locs ls hl wd
      · refine lv_tableIn (tgt := 413) (off := 381) C.1 C.2.1 dL_law_32 (by rw [iI_toInt (by omega) (by omega)]; omega) (by rw [iI_toInt (by omega) (by omega)]; omega) (by rw [iI_toInt (by omega) (by omega), c_3]; rfl) (by decide) ?_
        exact lf_clearText C hX hbl hLs hi5 hNX iK n ty fv dz Hs Sh tx hd me wk fr B K X F G E hI H locs ls hl wd
      · refine lv_tableIn (tgt := 426) (off := 394) C.1 C.2.1 dL_law_32 (by rw [iI_toInt (by omega) (by omega)]; omega) (by rw [iI_toInt (by omega) (by omega)]; omega) (by rw [iI_toInt (by omega) (by omega), c_3]; rfl) (by decide) ?_
        exact lf_undo C hX hbl hLs hi5 hNX iK n ty fv dz Hs Sh tx hd me wk fr B K X F G E hI H locs ls hl wd
      · refine lv_tableIn (tgt := 439) (off := 407) C.1 C.2.1 dL_law_32 (by rw [iI_toInt (by omega) (by omega)]; omega) (by rw [iI_toInt (by omega) (by omega)]; omega) (by rw [iI_toInt (by omega) (by omega), c_3]; rfl) (by decide) ?_
        exact lf_keep C hX hbl hLs hi5 hNX iK n ty fv dz Hs Sh tx hd me wk fr B K X F G E hI H locs ls hl wd
      · refine lv_tableIn (tgt := 452) (off := 420) C.1 C.2.1 dL_law_32 (by rw [iI_toInt (by omega) (by omega)]; omega) (by rw [iI_toInt (by omega) (by omega)]; omega) (by rw [iI_toInt (by omega) (by omega), c_3]; rfl) (by decide) ?_
        exact lf_restore C hX hbl hLs hi5 hNX iK n ty fv dz Hs Sh tx hd me wk fr B K X F G E hI H locs ls hl wd
      · refine lv_tableIn (tgt := 465) (off := 433) C.1 C.2.1 dL_law_32 (by rw [iI_toInt (by omega) (by omega)]; omega) (by rw [iI_toInt (by omega) (by omega)]; omega) (by rw [iI_toInt (by omega) (by omega), c_3]; rfl) (by decide) ?_
        exact lf_step C hX hbl hLs hi5 hNX iK n ty fv dz Hs Sh tx hd me wk fr B K X F G E hI H locs ls hl wd
      · refine lv_tableIn (tgt := 508) (off := 476) C.1 C.2.1 dL_law_32 (by rw [iI_toInt (by omega) (by omega)]; omega) (by rw [iI_toInt (by omega) (by omega)]; omega) (by rw [iI_toInt (by omega) (by omega), c_3]; rfl) (by decide) ?_
        exact lf_line C hX hbl hLs hi5 hNX iK n ty fv dz Hs Sh tx hd me wk fr B K X F G E hI H locs ls hl wd
      · refine lv_tableIn (tgt := 541) (off := 509) C.1 C.2.1 dL_law_32 (by rw [iI_toInt (by omega) (by omega)]; omega) (by rw [iI_toInt (by omega) (by omega)]; omega) (by rw [iI_toInt (by omega) (by omega), c_3]; rfl) (by decide) ?_
        exact lf_sent C hX hbl hLs hi5 hNX iK n ty fv dz Hs Sh tx hd me wk fr B K X F G E hI H locs ls hl wd
      · refine lv_tableIn (tgt := 564) (off := 532) C.1 C.2.1 dL_law_32 (by rw [iI_toInt (by omega) (by omega)]; omega) (by rw [iI_toInt (by omega) (by omega)]; omega) (by rw [iI_toInt (by omega) (by omega), c_3]; rfl) (by decide) ?_
        exact lf_released C hX hbl hLs hi5 hNX iK n ty fv dz Hs Sh tx hd me wk fr B K X F G E hI H locs ls hl wd
      · refine lv_tableIn (tgt := 587) (off := 555) C.1 C.2.1 dL_law_32 (by rw [iI_toInt (by omega) (by omega)]; omega) (by rw [iI_toInt (by omega) (by omega)]; omega) (by rw [iI_toInt (by omega) (by omega), c_3]; rfl) (by decide) ?_
        exact lf_metric C hX hbl hLs hi5 hNX iK n ty fv dz Hs Sh tx hd me wk fr B K X F G E hI H locs ls hl wd
      · refine lv_tableIn (tgt := 610) (off := 578) C.1 C.2.1 dL_law_32 (by rw [iI_toInt (by omega) (by omega)]; omega) (by rw [iI_toInt (by omega) (by omega)]; omega) (by rw [iI_toInt (by omega) (by omega), c_3]; rfl) (by decide) ?_
        exact lf_survivor C hX hbl hLs hi5 hNX iK n ty fv dz Hs Sh tx hd me wk fr B K X F G E hI H locs ls hl wd
      · refine lv_tableIn (tgt := 643) (off := 611) C.1 C.2.1 dL_law_32 (by rw [iI_toInt (by omega) (by omega)]; omega) (by rw [iI_toInt (by omega) (by omega)]; omega) (by rw [iI_toInt (by omega) (by omega), c_3]; rfl) (by decide) ?_
        exact lf_agreed C hX hbl hLs hi5 hNX iK n ty fv dz Hs Sh tx hd me wk fr B K X F G E hI H locs ls hl wd
      · refine lv_tableIn (tgt := 656) (off := 624) C.1 C.2.1 dL_law_32 (by rw [iI_toInt (by omega) (by omega)]; omega) (by rw [iI_toInt (by omega) (by omega)]; omega) (by rw [iI_toInt (by omega) (by omega), c_3]; rfl) (by decide) ?_
        exact lf_freeDistance C hX hbl hLs hi5 hNX iK n ty fv dz Hs Sh tx hd me wk fr B K X F G E hI H locs ls hl wd
      · refine lv_tableIn (tgt := 669) (off := 637) C.1 C.2.1 dL_law_32 (by rw [iI_toInt (by omega) (by omega)]; omega) (by rw [iI_toInt (by omega) (by omega)]; omega) (by rw [iI_toInt (by omega) (by omega), c_3]; rfl) (by decide) ?_
        exact lf_hasIdleRing C hX hbl hLs hi5 hNX iK n ty fv dz Hs Sh tx hd me wk fr B K X F G E hI H locs ls hl wd
      · refine lv_tableIn (tgt := 682) (off := 650) C.1 C.2.1 dL_law_32 (by rw [iI_toInt (by omega) (by omega)]; omega) (by rw [iI_toInt (by omega) (by omega)]; omega) (by rw [iI_toInt (by omega) (by omega), c_3]; rfl) (by decide) ?_
        exact lf_wrongBits C hX hbl hLs hi5 hNX iK n ty fv dz Hs Sh tx hd me wk fr B K X F G E hI H locs ls hl wd
      · refine lv_tableIn (tgt := 695) (off := 663) C.1 C.2.1 dL_law_32 (by rw [iI_toInt (by omega) (by omega)]; omega) (by rw [iI_toInt (by omega) (by omega)]; omega) (by rw [iI_toInt (by omega) (by omega), c_3]; rfl) (by decide) ?_
        exact lf_count C hX hbl hLs hi5 hNX iK n ty fv dz Hs Sh tx hd me wk fr B K X F G E hI H locs ls hl wd
