theorem qL_extensionOf : (yL_extensionOf.cls = RL) ∧ yL_extensionOf.cls ≠ "java/lang/invoke/MethodHandle" ∧ yL_extensionOf.cls ≠ "java/lang/invoke/VarHandle" ∧ (parseMethodDescriptor yL_extensionOf.desc).map (fun d => d.parameters.length) = some 4 := by decide +kernel
set_option maxHeartbeats 4000000 in
set_option maxRecDepth 100000 in
theorem c_L_extensionOf (fu : Nat) (l : Launch) (hl0 : l.stackTraces = false) (dC : Nat → ClassId) (dI : Nat → Nat → Nat) (K : KT) (kI kE kL : ClassId) (ca : Nat → Nat) (a : Nat → Nat) (b : Nat → Nat) (oa : Nat → Nat) (ob : Nat → Nat) (ra : Nat → Nat) (sa : Nat → Nat) (ha : Nat → Nat) (ux : Nat → Nat → Nat) (uy : Nat → Nat → Nat) (tx : Nat) (c_tapeLength : Int32) (c_errorAt : Int32) (c_decodedLength : Int32) (f_tape : Nat → Int32) (f_dec : Nat → Int32) (ee : ES) (oo : OS) (tt : TS) (rr : RS) (sw : SS) (hh : HS) (p0 : Int32) (p1 : Int32) (q : Nat) (o : Nat → Int64) (sz : Nat) (z : (Int32 ⊕ String)) (hJ : J_X7_extensionOf fu f_tape f_dec ee oo tt rr sw hh p0 p1 = some z) (r : Int32) (o' : Nat → Int64) (hz : (∃ v, z = .inl v ∧ r = 0 ∧ o' = vp_updL o 0 v.toInt64) ∨ (z = .inr "java/lang/IndexOutOfBoundsException" ∧ r = 1 ∧ o' = o) ∨ (z = .inr "java/lang/IllegalArgumentException" ∧ r = 2 ∧ o' = o) ∨ (z = .inr "java/util/NoSuchElementException" ∧ r = 3 ∧ o' = o)) : Met l yL_extensionOf wsL_extensionOf ({ frames := 9, cells := 3, slots := 18, locals := 155 }) (va_Pc [.ref (ca 0), .int p0, .int p1, .ref q] (RWl K dC dI sz ((([COc ca a oa ra sa ha c_tapeLength c_errorAt c_decodedLength, AWc (ca 1) kI 800 f_tape, AWc (ca 2) kI 400 f_dec, EWc a b kI ee, OOc oa ob oo, AWc (oa 1) kI 400 (o_symbols oo), DWc ob kI (o_d oo), TWc (ca 3) tx tt, RWc ra kI rr, SWc sa kI sw, HWc ha ux uy kE kI hh] : List va_W).flatten ++ ([(q, .inl (kL, 1, .inr (.inl o)))] : va_W))) [(kI, .int), (kE, .object "LzwCodec$Encoder"), (kL, .long)])) (rwQi dC dI (va_A ((([COc ca a oa ra sa ha c_tapeLength c_errorAt c_decodedLength, AWc (ca 1) kI 800 f_tape, AWc (ca 2) kI 400 f_dec, EWc a b kI ee, OOc oa ob oo, AWc (oa 1) kI 400 (o_symbols oo), DWc ob kI (o_d oo), TWc (ca 3) tx tt, RWc ra kI rr, SWc sa kI sw, HWc ha ux uy kE kI hh] : List va_W).flatten ++ ([(q, .inl (kL, 1, .inr (.inl o)))] : va_W))) sz) ((([COc ca a oa ra sa ha c_tapeLength c_errorAt c_decodedLength, AWc (ca 1) kI 800 f_tape, AWc (ca 2) kI 400 f_dec, EWc a b kI ee, OOc oa ob oo, AWc (oa 1) kI 400 (o_symbols oo), DWc ob kI (o_d oo), TWc (ca 3) tx tt, RWc ra kI rr, SWc sa kI sw, HWc ha ux uy kE kI hh] : List va_W).flatten ++ ([(q, .inl (kL, 1, .inr (.inl o')))] : va_W))) r) 3 18 (va_A ((([COc ca a oa ra sa ha c_tapeLength c_errorAt c_decodedLength, AWc (ca 1) kI 800 f_tape, AWc (ca 2) kI 400 f_dec, EWc a b kI ee, OOc oa ob oo, AWc (oa 1) kI 400 (o_symbols oo), DWc ob kI (o_d oo), TWc (ca 3) tx tt, RWc ra kI rr, SWc sa kI sw, HWc ha ux uy kE kI hh] : List va_W).flatten ++ ([(q, .inl (kL, 1, .inr (.inl o)))] : va_W))) sz) := by
  refine l_start (Qc := fun A => rwQi dC dI A ((([COc ca a oa ra sa ha c_tapeLength c_errorAt c_decodedLength, AWc (ca 1) kI 800 f_tape, AWc (ca 2) kI 400 f_dec, EWc a b kI ee, OOc oa ob oo, AWc (oa 1) kI 400 (o_symbols oo), DWc ob kI (o_d oo), TWc (ca 3) tx tt, RWc ra kI rr, SWc sa kI sw, HWc ha ux uy kE kI hh] : List va_W).flatten ++ ([(q, .inl (kL, 1, .inr (.inl o')))] : va_W))) r) (cc := cL_extensionOf) (maxL := 5) (ret := some .int) (hh := [(0, 10, 13, 55), (0, 10, 17, 19), (0, 10, 21, 47)]) (by decide) rfl (Nat.le_of_ble_eq_true rfl) ?_
  intro p e s m args below meth c hx hb hr hml hown hts hlocks hNW hK hT hXN hXE A hA hCE H locs ls hP hD hS hl
  have hown : s.vm.findClass RL = some m.cls := hown
  have hl : lv_has ls 5 [(0, .ref (ca 0)), (1, .int p0), (2, .int p1), (3, .ref q)] := hl
  refine lv_aload_n hx hb dL_extensionOf_0 rfl (lv_at hl 3 rfl) ?_
  refine lv_iconst (v := 0) hx hb dL_extensionOf_1 (by decide) ?_
  refine lv_aload_n hx hb dL_extensionOf_2 rfl (lv_at hl 0 rfl) ?_
  refine lv_iload_n hx hb dL_extensionOf_3 rfl (lv_at hl 1 rfl) ?_
  refine lv_iload_n hx hb dL_extensionOf_4 rfl (lv_at hl 2 rfl) ?_
  refine l_Vio (As := [.int p0, .int p1]) (rest := [.int 0, .ref q]) (wc := ([COc ca a oa ra sa ha c_tapeLength c_errorAt c_decodedLength, AWc (ca 1) kI 800 f_tape, AWc (ca 2) kI 400 f_dec, EWc a b kI ee, OOc oa ob oo, AWc (oa 1) kI 400 (o_symbols oo), DWc ob kI (o_d oo), TWc (ca 3) tx tt, RWc ra kI rr, SWc sa kI sw, HWc ha ux uy kE kI hh] : List va_W).flatten) (wr := [(q, .inl (kL, 1, .inr (.inl o)))]) (ci := 7) (q0 := 0) hx hb hml hown hts (c_X7_extensionOf fu l hl0 dC dI K kI kE ca a b oa ob ra sa ha ux uy tx c_tapeLength c_errorAt c_decodedLength f_tape f_dec ee oo tt rr sw hh p0 p1 z hJ) gL_extensionOf_X7_extensionOf qX7_extensionOf rfl ⟨(Nat.le_of_ble_eq_true rfl), (Nat.le_of_ble_eq_true rfl)⟩ ⟨rfl, rfl⟩ hNW hCE hP hD hS hA (hK.sub (tys' := [(kI, .int), (kE, .object "LzwCodec$Encoder")]) [0, 1] rfl) rfl rfl rfl hl.1 rfl rfl (Nat.le_of_ble_eq_true rfl) dL_extensionOf_5 ⟨(Nat.le_of_ble_eq_true rfl), (Nat.le_of_ble_eq_true rfl)⟩ (fun E ce q9 H locs hzE hP hD hS g1 g2 g3 => ?_) (fun v H locs hzv hP hD hS => ?_)
  · rcases hz with ⟨v, h1, h2, h3⟩ | ⟨h1, h2, h3⟩ | ⟨h1, h2, h3⟩ | ⟨h1, h2, h3⟩
    · exact absurd (hzE.symm.trans h1) (fun h => nomatch h)
    · obtain rfl : E = "java/lang/IndexOutOfBoundsException" := Sum.inr.inj (hzE.symm.trans h1)
      subst h2
      subst h3
      refine l_catch (own := RL) (by decide) hown hXN hXE [] ({ startPc := 0, endPc := 10, handlerPc := 13, catchType := 55 }) [{ startPc := 0, endPc := 10, handlerPc := 17, catchType := 19 }, { startPc := 0, endPc := 10, handlerPc := 21, catchType := 47 }] hT (fun z9 h9 => nomatch h9) rfl (by decide) (hts _ (List.mem_of_getElem? (i := 1) rfl)) g1 g2 g3 ?_
      refine lv_astore (lv' := [(4, .ref q9), (0, .ref (ca 0)), (1, .int p0), (2, .int p1), (3, .ref q)]) hx hb dL_extensionOf_13 hl (by decide) rfl (fun ls hl => ?_)
      refine lv_iconst (v := 1) hx hb dL_extensionOf_15 (by decide) ?_
      exact rw_iret hx hb hr hlocks rfl hP hD hS dL_extensionOf_16
    · obtain rfl : E = "java/lang/IllegalArgumentException" := Sum.inr.inj (hzE.symm.trans h1)
      subst h2
      subst h3
      refine l_catch (own := RL) (by decide) hown hXN hXE [{ startPc := 0, endPc := 10, handlerPc := 13, catchType := 55 }] ({ startPc := 0, endPc := 10, handlerPc := 17, catchType := 19 }) [{ startPc := 0, endPc := 10, handlerPc := 21, catchType := 47 }] hT (List.forall_mem_cons.mpr ⟨Or.inr ⟨by decide, "java/lang/IndexOutOfBoundsException", by decide, by decide, (hts _ (List.mem_of_getElem? (i := 1) rfl))⟩, (fun z9 h9 => nomatch h9)⟩) rfl (by decide) (hts _ (List.mem_of_getElem? (i := 2) rfl)) g1 g2 g3 ?_
      refine lv_astore (lv' := [(4, .ref q9), (0, .ref (ca 0)), (1, .int p0), (2, .int p1), (3, .ref q)]) hx hb dL_extensionOf_17 hl (by decide) rfl (fun ls hl => ?_)
      refine lv_iconst (v := 2) hx hb dL_extensionOf_19 (by decide) ?_
      exact rw_iret hx hb hr hlocks rfl hP hD hS dL_extensionOf_20
    · obtain rfl : E = "java/util/NoSuchElementException" := Sum.inr.inj (hzE.symm.trans h1)
      subst h2
      subst h3
      refine l_catch (own := RL) (by decide) hown hXN hXE [{ startPc := 0, endPc := 10, handlerPc := 13, catchType := 55 }, { startPc := 0, endPc := 10, handlerPc := 17, catchType := 19 }] ({ startPc := 0, endPc := 10, handlerPc := 21, catchType := 47 }) [] hT (List.forall_mem_cons.mpr ⟨Or.inr ⟨by decide, "java/lang/IndexOutOfBoundsException", by decide, by decide, (hts _ (List.mem_of_getElem? (i := 1) rfl))⟩, (List.forall_mem_cons.mpr ⟨Or.inr ⟨by decide, "java/lang/IllegalArgumentException", by decide, by decide, (hts _ (List.mem_of_getElem? (i := 2) rfl))⟩, (fun z9 h9 => nomatch h9)⟩)⟩) rfl (by decide) (hts _ (List.mem_of_getElem? (i := 3) rfl)) g1 g2 g3 ?_
      refine lv_astore (lv' := [(4, .ref q9), (0, .ref (ca 0)), (1, .int p0), (2, .int p1), (3, .ref q)]) hx hb dL_extensionOf_21 hl (by decide) rfl (fun ls hl => ?_)
      refine lv_iconst (v := 3) hx hb dL_extensionOf_23 (by decide) ?_
      exact rw_iret hx hb hr hlocks rfl hP hD hS dL_extensionOf_24
  · rcases hz with ⟨v', h1, h2, h3⟩ | ⟨h1, h2, h3⟩ | ⟨h1, h2, h3⟩ | ⟨h1, h2, h3⟩
    · obtain rfl : v = v' := Sum.inl.inj (hzv.symm.trans h1)
      subst h2
      subst h3
      refine lv_i2l (v := v.toInt64) hx hb dL_extensionOf_8 rfl ?_
      have hP := hP.perm List.perm_append_comm
      have hD := hD.perm List.perm_append_comm
      refine va_last hx hb hK hP hD hS 0 2 rfl rfl (show ¬ ((0 : Int32) < 0 ∨ 1 ≤ (0 : Int32).toNatClampNeg) by decide) dL_extensionOf_9 (fun H locs hP hD hS => ?_)
      have hP := va_P.perm (w2 := ([COc ca a oa ra sa ha c_tapeLength c_errorAt c_decodedLength, AWc (ca 1) kI 800 f_tape, AWc (ca 2) kI 400 f_dec, EWc a b kI ee, OOc oa ob oo, AWc (oa 1) kI 400 (o_symbols oo), DWc ob kI (o_d oo), TWc (ca 3) tx tt, RWc ra kI rr, SWc sa kI sw, HWc ha ux uy kE kI hh] : List va_W).flatten ++ [(q, .inl (kL, 1, .inr (.inl (vp_updL o 0 v.toInt64))))]) List.perm_append_comm hP
      have hD := va_D.perm (w2 := ([COc ca a oa ra sa ha c_tapeLength c_errorAt c_decodedLength, AWc (ca 1) kI 800 f_tape, AWc (ca 2) kI 400 f_dec, EWc a b kI ee, OOc oa ob oo, AWc (oa 1) kI 400 (o_symbols oo), DWc ob kI (o_d oo), TWc (ca 3) tx tt, RWc ra kI rr, SWc sa kI sw, HWc ha ux uy kE kI hh] : List va_W).flatten ++ [(q, .inl (kL, 1, .inr (.inl (vp_updL o 0 v.toInt64))))]) List.perm_append_comm hD
      refine lv_goto (tgt := 25) hx hb dL_extensionOf_10 (by decide) ?_
      refine lv_iconst (v := 0) hx hb dL_extensionOf_25 (by decide) ?_
      exact rw_iret hx hb hr hlocks rfl hP hD hS dL_extensionOf_26
    · exact absurd (hzv.symm.trans h1) (fun h => nomatch h)
    · exact absurd (hzv.symm.trans h1) (fun h => nomatch h)
    · exact absurd (hzv.symm.trans h1) (fun h => nomatch h)
theorem qL_extensionCount : (yL_extensionCount.cls = RL) ∧ yL_extensionCount.cls ≠ "java/lang/invoke/MethodHandle" ∧ yL_extensionCount.cls ≠ "java/lang/invoke/VarHandle" ∧ (parseMethodDescriptor yL_extensionCount.desc).map (fun d => d.parameters.length) = some 3 := by decide +kernel
set_option maxHeartbeats 4000000 in
set_option maxRecDepth 100000 in
theorem c_L_extensionCount (fu : Nat) (l : Launch) (hl0 : l.stackTraces = false) (dC : Nat → ClassId) (dI : Nat → Nat → Nat) (K : KT) (kI kE kL : ClassId) (ca : Nat → Nat) (a : Nat → Nat) (b : Nat → Nat) (oa : Nat → Nat) (ob : Nat → Nat) (ra : Nat → Nat) (sa : Nat → Nat) (ha : Nat → Nat) (ux : Nat → Nat → Nat) (uy : Nat → Nat → Nat) (tx : Nat) (c_tapeLength : Int32) (c_errorAt : Int32) (c_decodedLength : Int32) (f_tape : Nat → Int32) (f_dec : Nat → Int32) (ee : ES) (oo : OS) (tt : TS) (rr : RS) (sw : SS) (hh : HS) (p0 : Int32) (q : Nat) (o : Nat → Int64) (sz : Nat) (z : (Int32 ⊕ String)) (hJ : J_X7_extensionCount fu f_tape f_dec ee oo tt rr sw hh p0 = some z) (r : Int32) (o' : Nat → Int64) (hz : (∃ v, z = .inl v ∧ r = 0 ∧ o' = vp_updL o 0 v.toInt64) ∨ (z = .inr "java/lang/IndexOutOfBoundsException" ∧ r = 1 ∧ o' = o)) : Met l yL_extensionCount wsL_extensionCount ({ frames := 9, cells := 1, slots := 6, locals := 153 }) (va_Pc [.ref (ca 0), .int p0, .ref q] (RWl K dC dI sz ((([COc ca a oa ra sa ha c_tapeLength c_errorAt c_decodedLength, AWc (ca 1) kI 800 f_tape, AWc (ca 2) kI 400 f_dec, EWc a b kI ee, OOc oa ob oo, AWc (oa 1) kI 400 (o_symbols oo), DWc ob kI (o_d oo), TWc (ca 3) tx tt, RWc ra kI rr, SWc sa kI sw, HWc ha ux uy kE kI hh] : List va_W).flatten ++ ([(q, .inl (kL, 1, .inr (.inl o)))] : va_W))) [(kI, .int), (kE, .object "LzwCodec$Encoder"), (kL, .long)])) (rwQi dC dI (va_A ((([COc ca a oa ra sa ha c_tapeLength c_errorAt c_decodedLength, AWc (ca 1) kI 800 f_tape, AWc (ca 2) kI 400 f_dec, EWc a b kI ee, OOc oa ob oo, AWc (oa 1) kI 400 (o_symbols oo), DWc ob kI (o_d oo), TWc (ca 3) tx tt, RWc ra kI rr, SWc sa kI sw, HWc ha ux uy kE kI hh] : List va_W).flatten ++ ([(q, .inl (kL, 1, .inr (.inl o)))] : va_W))) sz) ((([COc ca a oa ra sa ha c_tapeLength c_errorAt c_decodedLength, AWc (ca 1) kI 800 f_tape, AWc (ca 2) kI 400 f_dec, EWc a b kI ee, OOc oa ob oo, AWc (oa 1) kI 400 (o_symbols oo), DWc ob kI (o_d oo), TWc (ca 3) tx tt, RWc ra kI rr, SWc sa kI sw, HWc ha ux uy kE kI hh] : List va_W).flatten ++ ([(q, .inl (kL, 1, .inr (.inl o')))] : va_W))) r) 1 6 (va_A ((([COc ca a oa ra sa ha c_tapeLength c_errorAt c_decodedLength, AWc (ca 1) kI 800 f_tape, AWc (ca 2) kI 400 f_dec, EWc a b kI ee, OOc oa ob oo, AWc (oa 1) kI 400 (o_symbols oo), DWc ob kI (o_d oo), TWc (ca 3) tx tt, RWc ra kI rr, SWc sa kI sw, HWc ha ux uy kE kI hh] : List va_W).flatten ++ ([(q, .inl (kL, 1, .inr (.inl o)))] : va_W))) sz) := by
  refine l_start (Qc := fun A => rwQi dC dI A ((([COc ca a oa ra sa ha c_tapeLength c_errorAt c_decodedLength, AWc (ca 1) kI 800 f_tape, AWc (ca 2) kI 400 f_dec, EWc a b kI ee, OOc oa ob oo, AWc (oa 1) kI 400 (o_symbols oo), DWc ob kI (o_d oo), TWc (ca 3) tx tt, RWc ra kI rr, SWc sa kI sw, HWc ha ux uy kE kI hh] : List va_W).flatten ++ ([(q, .inl (kL, 1, .inr (.inl o')))] : va_W))) r) (cc := cL_extensionCount) (maxL := 4) (ret := some .int) (hh := [(0, 9, 12, 55)]) (by decide) rfl (Nat.le_of_ble_eq_true rfl) ?_
  intro p e s m args below meth c hx hb hr hml hown hts hlocks hNW hK hT hXN hXE A hA hCE H locs ls hP hD hS hl
  have hown : s.vm.findClass RL = some m.cls := hown
  have hl : lv_has ls 4 [(0, .ref (ca 0)), (1, .int p0), (2, .ref q)] := hl
  refine lv_aload_n hx hb dL_extensionCount_0 rfl (lv_at hl 2 rfl) ?_
  refine lv_iconst (v := 0) hx hb dL_extensionCount_1 (by decide) ?_
  refine lv_aload_n hx hb dL_extensionCount_2 rfl (lv_at hl 0 rfl) ?_
  refine lv_iload_n hx hb dL_extensionCount_3 rfl (lv_at hl 1 rfl) ?_
  refine l_Vio (As := [.int p0]) (rest := [.int 0, .ref q]) (wc := ([COc ca a oa ra sa ha c_tapeLength c_errorAt c_decodedLength, AWc (ca 1) kI 800 f_tape, AWc (ca 2) kI 400 f_dec, EWc a b kI ee, OOc oa ob oo, AWc (oa 1) kI 400 (o_symbols oo), DWc ob kI (o_d oo), TWc (ca 3) tx tt, RWc ra kI rr, SWc sa kI sw, HWc ha ux uy kE kI hh] : List va_W).flatten) (wr := [(q, .inl (kL, 1, .inr (.inl o)))]) (ci := 7) (q0 := 0) hx hb hml hown hts (c_X7_extensionCount fu l hl0 dC dI K kI kE ca a b oa ob ra sa ha ux uy tx c_tapeLength c_errorAt c_decodedLength f_tape f_dec ee oo tt rr sw hh p0 z hJ) gL_extensionCount_X7_extensionCount qX7_extensionCount rfl ⟨(Nat.le_of_ble_eq_true rfl), (Nat.le_of_ble_eq_true rfl)⟩ ⟨rfl, rfl⟩ hNW hCE hP hD hS hA (hK.sub (tys' := [(kI, .int), (kE, .object "LzwCodec$Encoder")]) [0, 1] rfl) rfl rfl rfl hl.1 rfl rfl (Nat.le_of_ble_eq_true rfl) dL_extensionCount_4 ⟨(Nat.le_of_ble_eq_true rfl), (Nat.le_of_ble_eq_true rfl)⟩ (fun E ce q9 H locs hzE hP hD hS g1 g2 g3 => ?_) (fun v H locs hzv hP hD hS => ?_)
  · rcases hz with ⟨v, h1, h2, h3⟩ | ⟨h1, h2, h3⟩
    · exact absurd (hzE.symm.trans h1) (fun h => nomatch h)
    · obtain rfl : E = "java/lang/IndexOutOfBoundsException" := Sum.inr.inj (hzE.symm.trans h1)
      subst h2
      subst h3
      refine l_catch (own := RL) (by decide) hown hXN hXE [] ({ startPc := 0, endPc := 9, handlerPc := 12, catchType := 55 }) [] hT (fun z9 h9 => nomatch h9) rfl (by decide) (hts _ (List.mem_of_getElem? (i := 1) rfl)) g1 g2 g3 ?_
      refine lv_astore_n (lv' := [(3, .ref q9), (0, .ref (ca 0)), (1, .int p0), (2, .ref q)]) hx hb dL_extensionCount_12 rfl hl (by decide) rfl (fun ls hl => ?_)
      refine lv_iconst (v := 1) hx hb dL_extensionCount_13 (by decide) ?_
      exact rw_iret hx hb hr hlocks rfl hP hD hS dL_extensionCount_14
  · rcases hz with ⟨v', h1, h2, h3⟩ | ⟨h1, h2, h3⟩
    · obtain rfl : v = v' := Sum.inl.inj (hzv.symm.trans h1)
      subst h2
      subst h3
      refine lv_i2l (v := v.toInt64) hx hb dL_extensionCount_7 rfl ?_
      have hP := hP.perm List.perm_append_comm
      have hD := hD.perm List.perm_append_comm
      refine va_last hx hb hK hP hD hS 0 2 rfl rfl (show ¬ ((0 : Int32) < 0 ∨ 1 ≤ (0 : Int32).toNatClampNeg) by decide) dL_extensionCount_8 (fun H locs hP hD hS => ?_)
      have hP := va_P.perm (w2 := ([COc ca a oa ra sa ha c_tapeLength c_errorAt c_decodedLength, AWc (ca 1) kI 800 f_tape, AWc (ca 2) kI 400 f_dec, EWc a b kI ee, OOc oa ob oo, AWc (oa 1) kI 400 (o_symbols oo), DWc ob kI (o_d oo), TWc (ca 3) tx tt, RWc ra kI rr, SWc sa kI sw, HWc ha ux uy kE kI hh] : List va_W).flatten ++ [(q, .inl (kL, 1, .inr (.inl (vp_updL o 0 v.toInt64))))]) List.perm_append_comm hP
      have hD := va_D.perm (w2 := ([COc ca a oa ra sa ha c_tapeLength c_errorAt c_decodedLength, AWc (ca 1) kI 800 f_tape, AWc (ca 2) kI 400 f_dec, EWc a b kI ee, OOc oa ob oo, AWc (oa 1) kI 400 (o_symbols oo), DWc ob kI (o_d oo), TWc (ca 3) tx tt, RWc ra kI rr, SWc sa kI sw, HWc ha ux uy kE kI hh] : List va_W).flatten ++ [(q, .inl (kL, 1, .inr (.inl (vp_updL o 0 v.toInt64))))]) List.perm_append_comm hD
      refine lv_goto (tgt := 15) hx hb dL_extensionCount_9 (by decide) ?_
      refine lv_iconst (v := 0) hx hb dL_extensionCount_15 (by decide) ?_
      exact rw_iret hx hb hr hlocks rfl hP hD hS dL_extensionCount_16
    · exact absurd (hzv.symm.trans h1) (fun h => nomatch h)
theorem qL_usesOf : (yL_usesOf.cls = RL) ∧ yL_usesOf.cls ≠ "java/lang/invoke/MethodHandle" ∧ yL_usesOf.cls ≠ "java/lang/invoke/VarHandle" ∧ (parseMethodDescriptor yL_usesOf.desc).map (fun d => d.parameters.length) = some 3 := by decide +kernel
set_option maxHeartbeats 4000000 in
set_option maxRecDepth 100000 in
theorem c_L_usesOf (fu : Nat) (l : Launch) (hl0 : l.stackTraces = false) (dC : Nat → ClassId) (dI : Nat → Nat → Nat) (K : KT) (kI kE kL : ClassId) (ca : Nat → Nat) (a : Nat → Nat) (b : Nat → Nat) (oa : Nat → Nat) (ob : Nat → Nat) (ra : Nat → Nat) (sa : Nat → Nat) (ha : Nat → Nat) (ux : Nat → Nat → Nat) (uy : Nat → Nat → Nat) (tx : Nat) (c_tapeLength : Int32) (c_errorAt : Int32) (c_decodedLength : Int32) (f_tape : Nat → Int32) (f_dec : Nat → Int32) (ee : ES) (oo : OS) (tt : TS) (rr : RS) (sw : SS) (hh : HS) (p0 : Int32) (q : Nat) (o : Nat → Int64) (sz : Nat) (z : (Int32 ⊕ String)) (hJ : J_X7_usesOf fu f_tape f_dec ee oo tt rr sw hh p0 = some z) (r : Int32) (o' : Nat → Int64) (hz : (∃ v, z = .inl v ∧ r = 0 ∧ o' = vp_updL o 0 v.toInt64) ∨ (z = .inr "java/lang/IndexOutOfBoundsException" ∧ r = 1 ∧ o' = o)) : Met l yL_usesOf wsL_usesOf ({ frames := 9, cells := 1, slots := 6, locals := 153 }) (va_Pc [.ref (ca 0), .int p0, .ref q] (RWl K dC dI sz ((([COc ca a oa ra sa ha c_tapeLength c_errorAt c_decodedLength, AWc (ca 1) kI 800 f_tape, AWc (ca 2) kI 400 f_dec, EWc a b kI ee, OOc oa ob oo, AWc (oa 1) kI 400 (o_symbols oo), DWc ob kI (o_d oo), TWc (ca 3) tx tt, RWc ra kI rr, SWc sa kI sw, HWc ha ux uy kE kI hh] : List va_W).flatten ++ ([(q, .inl (kL, 1, .inr (.inl o)))] : va_W))) [(kI, .int), (kE, .object "LzwCodec$Encoder"), (kL, .long)])) (rwQi dC dI (va_A ((([COc ca a oa ra sa ha c_tapeLength c_errorAt c_decodedLength, AWc (ca 1) kI 800 f_tape, AWc (ca 2) kI 400 f_dec, EWc a b kI ee, OOc oa ob oo, AWc (oa 1) kI 400 (o_symbols oo), DWc ob kI (o_d oo), TWc (ca 3) tx tt, RWc ra kI rr, SWc sa kI sw, HWc ha ux uy kE kI hh] : List va_W).flatten ++ ([(q, .inl (kL, 1, .inr (.inl o)))] : va_W))) sz) ((([COc ca a oa ra sa ha c_tapeLength c_errorAt c_decodedLength, AWc (ca 1) kI 800 f_tape, AWc (ca 2) kI 400 f_dec, EWc a b kI ee, OOc oa ob oo, AWc (oa 1) kI 400 (o_symbols oo), DWc ob kI (o_d oo), TWc (ca 3) tx tt, RWc ra kI rr, SWc sa kI sw, HWc ha ux uy kE kI hh] : List va_W).flatten ++ ([(q, .inl (kL, 1, .inr (.inl o')))] : va_W))) r) 1 6 (va_A ((([COc ca a oa ra sa ha c_tapeLength c_errorAt c_decodedLength, AWc (ca 1) kI 800 f_tape, AWc (ca 2) kI 400 f_dec, EWc a b kI ee, OOc oa ob oo, AWc (oa 1) kI 400 (o_symbols oo), DWc ob kI (o_d oo), TWc (ca 3) tx tt, RWc ra kI rr, SWc sa kI sw, HWc ha ux uy kE kI hh] : List va_W).flatten ++ ([(q, .inl (kL, 1, .inr (.inl o)))] : va_W))) sz) := by
  refine l_start (Qc := fun A => rwQi dC dI A ((([COc ca a oa ra sa ha c_tapeLength c_errorAt c_decodedLength, AWc (ca 1) kI 800 f_tape, AWc (ca 2) kI 400 f_dec, EWc a b kI ee, OOc oa ob oo, AWc (oa 1) kI 400 (o_symbols oo), DWc ob kI (o_d oo), TWc (ca 3) tx tt, RWc ra kI rr, SWc sa kI sw, HWc ha ux uy kE kI hh] : List va_W).flatten ++ ([(q, .inl (kL, 1, .inr (.inl o')))] : va_W))) r) (cc := cL_usesOf) (maxL := 4) (ret := some .int) (hh := [(0, 9, 12, 55)]) (by decide) rfl (Nat.le_of_ble_eq_true rfl) ?_
  intro p e s m args below meth c hx hb hr hml hown hts hlocks hNW hK hT hXN hXE A hA hCE H locs ls hP hD hS hl
  have hown : s.vm.findClass RL = some m.cls := hown
  have hl : lv_has ls 4 [(0, .ref (ca 0)), (1, .int p0), (2, .ref q)] := hl
  refine lv_aload_n hx hb dL_usesOf_0 rfl (lv_at hl 2 rfl) ?_
  refine lv_iconst (v := 0) hx hb dL_usesOf_1 (by decide) ?_
  refine lv_aload_n hx hb dL_usesOf_2 rfl (lv_at hl 0 rfl) ?_
  refine lv_iload_n hx hb dL_usesOf_3 rfl (lv_at hl 1 rfl) ?_
  refine l_Vio (As := [.int p0]) (rest := [.int 0, .ref q]) (wc := ([COc ca a oa ra sa ha c_tapeLength c_errorAt c_decodedLength, AWc (ca 1) kI 800 f_tape, AWc (ca 2) kI 400 f_dec, EWc a b kI ee, OOc oa ob oo, AWc (oa 1) kI 400 (o_symbols oo), DWc ob kI (o_d oo), TWc (ca 3) tx tt, RWc ra kI rr, SWc sa kI sw, HWc ha ux uy kE kI hh] : List va_W).flatten) (wr := [(q, .inl (kL, 1, .inr (.inl o)))]) (ci := 7) (q0 := 0) hx hb hml hown hts (c_X7_usesOf fu l hl0 dC dI K kI kE ca a b oa ob ra sa ha ux uy tx c_tapeLength c_errorAt c_decodedLength f_tape f_dec ee oo tt rr sw hh p0 z hJ) gL_usesOf_X7_usesOf qX7_usesOf rfl ⟨(Nat.le_of_ble_eq_true rfl), (Nat.le_of_ble_eq_true rfl)⟩ ⟨rfl, rfl⟩ hNW hCE hP hD hS hA (hK.sub (tys' := [(kI, .int), (kE, .object "LzwCodec$Encoder")]) [0, 1] rfl) rfl rfl rfl hl.1 rfl rfl (Nat.le_of_ble_eq_true rfl) dL_usesOf_4 ⟨(Nat.le_of_ble_eq_true rfl), (Nat.le_of_ble_eq_true rfl)⟩ (fun E ce q9 H locs hzE hP hD hS g1 g2 g3 => ?_) (fun v H locs hzv hP hD hS => ?_)
  · rcases hz with ⟨v, h1, h2, h3⟩ | ⟨h1, h2, h3⟩
    · exact absurd (hzE.symm.trans h1) (fun h => nomatch h)
    · obtain rfl : E = "java/lang/IndexOutOfBoundsException" := Sum.inr.inj (hzE.symm.trans h1)
      subst h2
      subst h3
      refine l_catch (own := RL) (by decide) hown hXN hXE [] ({ startPc := 0, endPc := 9, handlerPc := 12, catchType := 55 }) [] hT (fun z9 h9 => nomatch h9) rfl (by decide) (hts _ (List.mem_of_getElem? (i := 1) rfl)) g1 g2 g3 ?_
      refine lv_astore_n (lv' := [(3, .ref q9), (0, .ref (ca 0)), (1, .int p0), (2, .ref q)]) hx hb dL_usesOf_12 rfl hl (by decide) rfl (fun ls hl => ?_)
      refine lv_iconst (v := 1) hx hb dL_usesOf_13 (by decide) ?_
      exact rw_iret hx hb hr hlocks rfl hP hD hS dL_usesOf_14
  · rcases hz with ⟨v', h1, h2, h3⟩ | ⟨h1, h2, h3⟩
    · obtain rfl : v = v' := Sum.inl.inj (hzv.symm.trans h1)
      subst h2
      subst h3
      refine lv_i2l (v := v.toInt64) hx hb dL_usesOf_7 rfl ?_
      have hP := hP.perm List.perm_append_comm
      have hD := hD.perm List.perm_append_comm
      refine va_last hx hb hK hP hD hS 0 2 rfl rfl (show ¬ ((0 : Int32) < 0 ∨ 1 ≤ (0 : Int32).toNatClampNeg) by decide) dL_usesOf_8 (fun H locs hP hD hS => ?_)
      have hP := va_P.perm (w2 := ([COc ca a oa ra sa ha c_tapeLength c_errorAt c_decodedLength, AWc (ca 1) kI 800 f_tape, AWc (ca 2) kI 400 f_dec, EWc a b kI ee, OOc oa ob oo, AWc (oa 1) kI 400 (o_symbols oo), DWc ob kI (o_d oo), TWc (ca 3) tx tt, RWc ra kI rr, SWc sa kI sw, HWc ha ux uy kE kI hh] : List va_W).flatten ++ [(q, .inl (kL, 1, .inr (.inl (vp_updL o 0 v.toInt64))))]) List.perm_append_comm hP
      have hD := va_D.perm (w2 := ([COc ca a oa ra sa ha c_tapeLength c_errorAt c_decodedLength, AWc (ca 1) kI 800 f_tape, AWc (ca 2) kI 400 f_dec, EWc a b kI ee, OOc oa ob oo, AWc (oa 1) kI 400 (o_symbols oo), DWc ob kI (o_d oo), TWc (ca 3) tx tt, RWc ra kI rr, SWc sa kI sw, HWc ha ux uy kE kI hh] : List va_W).flatten ++ [(q, .inl (kL, 1, .inr (.inl (vp_updL o 0 v.toInt64))))]) List.perm_append_comm hD
      refine lv_goto (tgt := 15) hx hb dL_usesOf_9 (by decide) ?_
      refine lv_iconst (v := 0) hx hb dL_usesOf_15 (by decide) ?_
      exact rw_iret hx hb hr hlocks rfl hP hD hS dL_usesOf_16
    · exact absurd (hzv.symm.trans h1) (fun h => nomatch h)
theorem qL_findTape : (yL_findTape.cls = RL) ∧ yL_findTape.cls ≠ "java/lang/invoke/MethodHandle" ∧ yL_findTape.cls ≠ "java/lang/invoke/VarHandle" ∧ (parseMethodDescriptor yL_findTape.desc).map (fun d => d.parameters.length) = some 2 := by decide +kernel
set_option maxHeartbeats 4000000 in
set_option maxRecDepth 100000 in
theorem c_L_findTape (fu : Nat) (l : Launch) (hl0 : l.stackTraces = false) (dC : Nat → ClassId) (dI : Nat → Nat → Nat) (K : KT) (kI kE kL : ClassId) (ca : Nat → Nat) (a : Nat → Nat) (b : Nat → Nat) (oa : Nat → Nat) (ob : Nat → Nat) (ra : Nat → Nat) (sa : Nat → Nat) (ha : Nat → Nat) (ux : Nat → Nat → Nat) (uy : Nat → Nat → Nat) (tx : Nat) (c_tapeLength : Int32) (c_errorAt : Int32) (c_decodedLength : Int32) (f_tape : Nat → Int32) (f_dec : Nat → Int32) (ee : ES) (oo : OS) (tt : TS) (rr : RS) (sw : SS) (hh : HS) (q : Nat) (o : Nat → Int64) (sz : Nat) (z : (Int32 ⊕ String)) (hJ : J_X7_findTape fu c_tapeLength f_tape f_dec ee oo tt rr sw hh = some z) (r : Int32) (o' : Nat → Int64) (hz : (∃ v, z = .inl v ∧ r = 0 ∧ o' = vp_updL o 0 v.toInt64) ∨ (z = .inr "java/util/NoSuchElementException" ∧ r = 1 ∧ o' = o)) : Met l yL_findTape wsL_findTape ({ frames := 7, cells := 1, slots := 6, locals := 111 }) (va_Pc [.ref (ca 0), .ref q] (RWl K dC dI sz ((([COc ca a oa ra sa ha c_tapeLength c_errorAt c_decodedLength, AWc (ca 1) kI 800 f_tape, AWc (ca 2) kI 400 f_dec, EWc a b kI ee, OOc oa ob oo, AWc (oa 1) kI 400 (o_symbols oo), DWc ob kI (o_d oo), TWc (ca 3) tx tt, RWc ra kI rr, SWc sa kI sw, HWc ha ux uy kE kI hh] : List va_W).flatten ++ ([(q, .inl (kL, 1, .inr (.inl o)))] : va_W))) [(kI, .int), (kE, .object "LzwCodec$Encoder"), (kL, .long)])) (rwQi dC dI (va_A ((([COc ca a oa ra sa ha c_tapeLength c_errorAt c_decodedLength, AWc (ca 1) kI 800 f_tape, AWc (ca 2) kI 400 f_dec, EWc a b kI ee, OOc oa ob oo, AWc (oa 1) kI 400 (o_symbols oo), DWc ob kI (o_d oo), TWc (ca 3) tx tt, RWc ra kI rr, SWc sa kI sw, HWc ha ux uy kE kI hh] : List va_W).flatten ++ ([(q, .inl (kL, 1, .inr (.inl o)))] : va_W))) sz) ((([COc ca a oa ra sa ha c_tapeLength c_errorAt c_decodedLength, AWc (ca 1) kI 800 f_tape, AWc (ca 2) kI 400 f_dec, EWc a b kI ee, OOc oa ob oo, AWc (oa 1) kI 400 (o_symbols oo), DWc ob kI (o_d oo), TWc (ca 3) tx tt, RWc ra kI rr, SWc sa kI sw, HWc ha ux uy kE kI hh] : List va_W).flatten ++ ([(q, .inl (kL, 1, .inr (.inl o')))] : va_W))) r) 1 6 (va_A ((([COc ca a oa ra sa ha c_tapeLength c_errorAt c_decodedLength, AWc (ca 1) kI 800 f_tape, AWc (ca 2) kI 400 f_dec, EWc a b kI ee, OOc oa ob oo, AWc (oa 1) kI 400 (o_symbols oo), DWc ob kI (o_d oo), TWc (ca 3) tx tt, RWc ra kI rr, SWc sa kI sw, HWc ha ux uy kE kI hh] : List va_W).flatten ++ ([(q, .inl (kL, 1, .inr (.inl o)))] : va_W))) sz) := by
  refine l_start (Qc := fun A => rwQi dC dI A ((([COc ca a oa ra sa ha c_tapeLength c_errorAt c_decodedLength, AWc (ca 1) kI 800 f_tape, AWc (ca 2) kI 400 f_dec, EWc a b kI ee, OOc oa ob oo, AWc (oa 1) kI 400 (o_symbols oo), DWc ob kI (o_d oo), TWc (ca 3) tx tt, RWc ra kI rr, SWc sa kI sw, HWc ha ux uy kE kI hh] : List va_W).flatten ++ ([(q, .inl (kL, 1, .inr (.inl o')))] : va_W))) r) (cc := cL_findTape) (maxL := 3) (ret := some .int) (hh := [(0, 8, 11, 47)]) (by decide) rfl (Nat.le_of_ble_eq_true rfl) ?_
  intro p e s m args below meth c hx hb hr hml hown hts hlocks hNW hK hT hXN hXE A hA hCE H locs ls hP hD hS hl
  have hown : s.vm.findClass RL = some m.cls := hown
  have hl : lv_has ls 3 [(0, .ref (ca 0)), (1, .ref q)] := hl
  refine lv_aload_n hx hb dL_findTape_0 rfl (lv_at hl 1 rfl) ?_
  refine lv_iconst (v := 0) hx hb dL_findTape_1 (by decide) ?_
  refine lv_aload_n hx hb dL_findTape_2 rfl (lv_at hl 0 rfl) ?_
  refine l_Vio (As := []) (rest := [.int 0, .ref q]) (wc := ([COc ca a oa ra sa ha c_tapeLength c_errorAt c_decodedLength, AWc (ca 1) kI 800 f_tape, AWc (ca 2) kI 400 f_dec, EWc a b kI ee, OOc oa ob oo, AWc (oa 1) kI 400 (o_symbols oo), DWc ob kI (o_d oo), TWc (ca 3) tx tt, RWc ra kI rr, SWc sa kI sw, HWc ha ux uy kE kI hh] : List va_W).flatten) (wr := [(q, .inl (kL, 1, .inr (.inl o)))]) (ci := 7) (q0 := 0) hx hb hml hown hts (c_X7_findTape fu l hl0 dC dI K kI kE ca a b oa ob ra sa ha ux uy tx c_tapeLength c_errorAt c_decodedLength f_tape f_dec ee oo tt rr sw hh z hJ) gL_findTape_X7_findTape qX7_findTape rfl ⟨(Nat.le_of_ble_eq_true rfl), (Nat.le_of_ble_eq_true rfl)⟩ ⟨rfl, rfl⟩ hNW hCE hP hD hS hA (hK.sub (tys' := [(kI, .int), (kE, .object "LzwCodec$Encoder")]) [0, 1] rfl) rfl rfl rfl hl.1 rfl rfl (Nat.le_of_ble_eq_true rfl) dL_findTape_3 ⟨(Nat.le_of_ble_eq_true rfl), (Nat.le_of_ble_eq_true rfl)⟩ (fun E ce q9 H locs hzE hP hD hS g1 g2 g3 => ?_) (fun v H locs hzv hP hD hS => ?_)
  · rcases hz with ⟨v, h1, h2, h3⟩ | ⟨h1, h2, h3⟩
    · exact absurd (hzE.symm.trans h1) (fun h => nomatch h)
    · obtain rfl : E = "java/util/NoSuchElementException" := Sum.inr.inj (hzE.symm.trans h1)
      subst h2
      subst h3
      refine l_catch (own := RL) (by decide) hown hXN hXE [] ({ startPc := 0, endPc := 8, handlerPc := 11, catchType := 47 }) [] hT (fun z9 h9 => nomatch h9) rfl (by decide) (hts _ (List.mem_of_getElem? (i := 1) rfl)) g1 g2 g3 ?_
      refine lv_astore_n (lv' := [(2, .ref q9), (0, .ref (ca 0)), (1, .ref q)]) hx hb dL_findTape_11 rfl hl (by decide) rfl (fun ls hl => ?_)
      refine lv_iconst (v := 1) hx hb dL_findTape_12 (by decide) ?_
      exact rw_iret hx hb hr hlocks rfl hP hD hS dL_findTape_13
  · rcases hz with ⟨v', h1, h2, h3⟩ | ⟨h1, h2, h3⟩
    · obtain rfl : v = v' := Sum.inl.inj (hzv.symm.trans h1)
      subst h2
      subst h3
      refine lv_i2l (v := v.toInt64) hx hb dL_findTape_6 rfl ?_
      have hP := hP.perm List.perm_append_comm
      have hD := hD.perm List.perm_append_comm
      refine va_last hx hb hK hP hD hS 0 2 rfl rfl (show ¬ ((0 : Int32) < 0 ∨ 1 ≤ (0 : Int32).toNatClampNeg) by decide) dL_findTape_7 (fun H locs hP hD hS => ?_)
      have hP := va_P.perm (w2 := ([COc ca a oa ra sa ha c_tapeLength c_errorAt c_decodedLength, AWc (ca 1) kI 800 f_tape, AWc (ca 2) kI 400 f_dec, EWc a b kI ee, OOc oa ob oo, AWc (oa 1) kI 400 (o_symbols oo), DWc ob kI (o_d oo), TWc (ca 3) tx tt, RWc ra kI rr, SWc sa kI sw, HWc ha ux uy kE kI hh] : List va_W).flatten ++ [(q, .inl (kL, 1, .inr (.inl (vp_updL o 0 v.toInt64))))]) List.perm_append_comm hP
      have hD := va_D.perm (w2 := ([COc ca a oa ra sa ha c_tapeLength c_errorAt c_decodedLength, AWc (ca 1) kI 800 f_tape, AWc (ca 2) kI 400 f_dec, EWc a b kI ee, OOc oa ob oo, AWc (oa 1) kI 400 (o_symbols oo), DWc ob kI (o_d oo), TWc (ca 3) tx tt, RWc ra kI rr, SWc sa kI sw, HWc ha ux uy kE kI hh] : List va_W).flatten ++ [(q, .inl (kL, 1, .inr (.inl (vp_updL o 0 v.toInt64))))]) List.perm_append_comm hD
      refine lv_goto (tgt := 14) hx hb dL_findTape_8 (by decide) ?_
      refine lv_iconst (v := 0) hx hb dL_findTape_14 (by decide) ?_
      exact rw_iret hx hb hr hlocks rfl hP hD hS dL_findTape_15
    · exact absurd (hzv.symm.trans h1) (fun h => nomatch h)
theorem qL_currentPhrase : (yL_currentPhrase.cls = RL) ∧ yL_currentPhrase.cls ≠ "java/lang/invoke/MethodHandle" ∧ yL_currentPhrase.cls ≠ "java/lang/invoke/VarHandle" ∧ (parseMethodDescriptor yL_currentPhrase.desc).map (fun d => d.parameters.length) = some 2 := by decide +kernel
set_option maxHeartbeats 4000000 in
set_option maxRecDepth 100000 in
theorem c_L_currentPhrase (l : Launch) (hl0 : l.stackTraces = false) (dC : Nat → ClassId) (dI : Nat → Nat → Nat) (K : KT) (kI kE kL : ClassId) (ca : Nat → Nat) (a : Nat → Nat) (b : Nat → Nat) (oa : Nat → Nat) (ob : Nat → Nat) (ra : Nat → Nat) (sa : Nat → Nat) (ha : Nat → Nat) (ux : Nat → Nat → Nat) (uy : Nat → Nat → Nat) (tx : Nat) (c_tapeLength : Int32) (c_errorAt : Int32) (c_decodedLength : Int32) (f_tape : Nat → Int32) (f_dec : Nat → Int32) (ee : ES) (oo : OS) (tt : TS) (rr : RS) (sw : SS) (hh : HS) (q : Nat) (o : Nat → Int64) (sz : Nat) (z : (Int32 ⊕ String)) (hJ : J_X7_currentPhrase ee = some z) (r : Int32) (o' : Nat → Int64) (hz : (∃ v, z = .inl v ∧ r = 0 ∧ o' = vp_updL o 0 v.toInt64) ∨ (z = .inr "java/util/NoSuchElementException" ∧ r = 1 ∧ o' = o)) : Met l yL_currentPhrase wsL_currentPhrase ({ frames := 7, cells := 1, slots := 6, locals := 110 }) (va_Pc [.ref (ca 0), .ref q] (RWl K dC dI sz ((([COc ca a oa ra sa ha c_tapeLength c_errorAt c_decodedLength, AWc (ca 1) kI 800 f_tape, AWc (ca 2) kI 400 f_dec, EWc a b kI ee, OOc oa ob oo, AWc (oa 1) kI 400 (o_symbols oo), DWc ob kI (o_d oo), TWc (ca 3) tx tt, RWc ra kI rr, SWc sa kI sw, HWc ha ux uy kE kI hh] : List va_W).flatten ++ ([(q, .inl (kL, 1, .inr (.inl o)))] : va_W))) [(kI, .int), (kE, .object "LzwCodec$Encoder"), (kL, .long)])) (rwQi dC dI (va_A ((([COc ca a oa ra sa ha c_tapeLength c_errorAt c_decodedLength, AWc (ca 1) kI 800 f_tape, AWc (ca 2) kI 400 f_dec, EWc a b kI ee, OOc oa ob oo, AWc (oa 1) kI 400 (o_symbols oo), DWc ob kI (o_d oo), TWc (ca 3) tx tt, RWc ra kI rr, SWc sa kI sw, HWc ha ux uy kE kI hh] : List va_W).flatten ++ ([(q, .inl (kL, 1, .inr (.inl o)))] : va_W))) sz) ((([COc ca a oa ra sa ha c_tapeLength c_errorAt c_decodedLength, AWc (ca 1) kI 800 f_tape, AWc (ca 2) kI 400 f_dec, EWc a b kI ee, OOc oa ob oo, AWc (oa 1) kI 400 (o_symbols oo), DWc ob kI (o_d oo), TWc (ca 3) tx tt, RWc ra kI rr, SWc sa kI sw, HWc ha ux uy kE kI hh] : List va_W).flatten ++ ([(q, .inl (kL, 1, .inr (.inl o')))] : va_W))) r) 1 6 (va_A ((([COc ca a oa ra sa ha c_tapeLength c_errorAt c_decodedLength, AWc (ca 1) kI 800 f_tape, AWc (ca 2) kI 400 f_dec, EWc a b kI ee, OOc oa ob oo, AWc (oa 1) kI 400 (o_symbols oo), DWc ob kI (o_d oo), TWc (ca 3) tx tt, RWc ra kI rr, SWc sa kI sw, HWc ha ux uy kE kI hh] : List va_W).flatten ++ ([(q, .inl (kL, 1, .inr (.inl o)))] : va_W))) sz) := by
  refine l_start (Qc := fun A => rwQi dC dI A ((([COc ca a oa ra sa ha c_tapeLength c_errorAt c_decodedLength, AWc (ca 1) kI 800 f_tape, AWc (ca 2) kI 400 f_dec, EWc a b kI ee, OOc oa ob oo, AWc (oa 1) kI 400 (o_symbols oo), DWc ob kI (o_d oo), TWc (ca 3) tx tt, RWc ra kI rr, SWc sa kI sw, HWc ha ux uy kE kI hh] : List va_W).flatten ++ ([(q, .inl (kL, 1, .inr (.inl o')))] : va_W))) r) (cc := cL_currentPhrase) (maxL := 3) (ret := some .int) (hh := [(0, 8, 11, 47)]) (by decide) rfl (Nat.le_of_ble_eq_true rfl) ?_
  intro p e s m args below meth c hx hb hr hml hown hts hlocks hNW hK hT hXN hXE A hA hCE H locs ls hP hD hS hl
  have hown : s.vm.findClass RL = some m.cls := hown
  have hl : lv_has ls 3 [(0, .ref (ca 0)), (1, .ref q)] := hl
  refine lv_aload_n hx hb dL_currentPhrase_0 rfl (lv_at hl 1 rfl) ?_
  refine lv_iconst (v := 0) hx hb dL_currentPhrase_1 (by decide) ?_
  refine lv_aload_n hx hb dL_currentPhrase_2 rfl (lv_at hl 0 rfl) ?_
  refine l_Vio (As := []) (rest := [.int 0, .ref q]) (wc := ([COc ca a oa ra sa ha c_tapeLength c_errorAt c_decodedLength, AWc (ca 1) kI 800 f_tape, AWc (ca 2) kI 400 f_dec, EWc a b kI ee, OOc oa ob oo, AWc (oa 1) kI 400 (o_symbols oo), DWc ob kI (o_d oo), TWc (ca 3) tx tt, RWc ra kI rr, SWc sa kI sw, HWc ha ux uy kE kI hh] : List va_W).flatten) (wr := [(q, .inl (kL, 1, .inr (.inl o)))]) (ci := 7) (q0 := 0) hx hb hml hown hts (c_X7_currentPhrase l hl0 dC dI K kI kE ca a b oa ob ra sa ha ux uy tx c_tapeLength c_errorAt c_decodedLength f_tape f_dec ee oo tt rr sw hh z hJ) gL_currentPhrase_X7_currentPhrase qX7_currentPhrase rfl ⟨(Nat.le_of_ble_eq_true rfl), (Nat.le_of_ble_eq_true rfl)⟩ ⟨rfl, rfl⟩ hNW hCE hP hD hS hA (hK.sub (tys' := [(kI, .int), (kE, .object "LzwCodec$Encoder")]) [0, 1] rfl) rfl rfl rfl hl.1 rfl rfl (Nat.le_of_ble_eq_true rfl) dL_currentPhrase_3 ⟨(Nat.le_of_ble_eq_true rfl), (Nat.le_of_ble_eq_true rfl)⟩ (fun E ce q9 H locs hzE hP hD hS g1 g2 g3 => ?_) (fun v H locs hzv hP hD hS => ?_)
  · rcases hz with ⟨v, h1, h2, h3⟩ | ⟨h1, h2, h3⟩
    · exact absurd (hzE.symm.trans h1) (fun h => nomatch h)
    · obtain rfl : E = "java/util/NoSuchElementException" := Sum.inr.inj (hzE.symm.trans h1)
      subst h2
      subst h3
      refine l_catch (own := RL) (by decide) hown hXN hXE [] ({ startPc := 0, endPc := 8, handlerPc := 11, catchType := 47 }) [] hT (fun z9 h9 => nomatch h9) rfl (by decide) (hts _ (List.mem_of_getElem? (i := 1) rfl)) g1 g2 g3 ?_
      refine lv_astore_n (lv' := [(2, .ref q9), (0, .ref (ca 0)), (1, .ref q)]) hx hb dL_currentPhrase_11 rfl hl (by decide) rfl (fun ls hl => ?_)
      refine lv_iconst (v := 1) hx hb dL_currentPhrase_12 (by decide) ?_
      exact rw_iret hx hb hr hlocks rfl hP hD hS dL_currentPhrase_13
  · rcases hz with ⟨v', h1, h2, h3⟩ | ⟨h1, h2, h3⟩
    · obtain rfl : v = v' := Sum.inl.inj (hzv.symm.trans h1)
      subst h2
      subst h3
      refine lv_i2l (v := v.toInt64) hx hb dL_currentPhrase_6 rfl ?_
      have hP := hP.perm List.perm_append_comm
      have hD := hD.perm List.perm_append_comm
      refine va_last hx hb hK hP hD hS 0 2 rfl rfl (show ¬ ((0 : Int32) < 0 ∨ 1 ≤ (0 : Int32).toNatClampNeg) by decide) dL_currentPhrase_7 (fun H locs hP hD hS => ?_)
      have hP := va_P.perm (w2 := ([COc ca a oa ra sa ha c_tapeLength c_errorAt c_decodedLength, AWc (ca 1) kI 800 f_tape, AWc (ca 2) kI 400 f_dec, EWc a b kI ee, OOc oa ob oo, AWc (oa 1) kI 400 (o_symbols oo), DWc ob kI (o_d oo), TWc (ca 3) tx tt, RWc ra kI rr, SWc sa kI sw, HWc ha ux uy kE kI hh] : List va_W).flatten ++ [(q, .inl (kL, 1, .inr (.inl (vp_updL o 0 v.toInt64))))]) List.perm_append_comm hP
      have hD := va_D.perm (w2 := ([COc ca a oa ra sa ha c_tapeLength c_errorAt c_decodedLength, AWc (ca 1) kI 800 f_tape, AWc (ca 2) kI 400 f_dec, EWc a b kI ee, OOc oa ob oo, AWc (oa 1) kI 400 (o_symbols oo), DWc ob kI (o_d oo), TWc (ca 3) tx tt, RWc ra kI rr, SWc sa kI sw, HWc ha ux uy kE kI hh] : List va_W).flatten ++ [(q, .inl (kL, 1, .inr (.inl (vp_updL o 0 v.toInt64))))]) List.perm_append_comm hD
      refine lv_goto (tgt := 14) hx hb dL_currentPhrase_8 (by decide) ?_
      refine lv_iconst (v := 0) hx hb dL_currentPhrase_14 (by decide) ?_
      exact rw_iret hx hb hr hlocks rfl hP hD hS dL_currentPhrase_15
    · exact absurd (hzv.symm.trans h1) (fun h => nomatch h)
theorem qL_codesIfEncoded : (yL_codesIfEncoded.cls = RL) ∧ yL_codesIfEncoded.cls ≠ "java/lang/invoke/MethodHandle" ∧ yL_codesIfEncoded.cls ≠ "java/lang/invoke/VarHandle" ∧ (parseMethodDescriptor yL_codesIfEncoded.desc).map (fun d => d.parameters.length) = some 3 := by decide +kernel
set_option maxHeartbeats 4000000 in
set_option maxRecDepth 100000 in
theorem c_L_codesIfEncoded (fu : Nat) (l : Launch) (hl0 : l.stackTraces = false) (dC : Nat → ClassId) (dI : Nat → Nat → Nat) (K : KT) (kI kE kL : ClassId) (ca : Nat → Nat) (a : Nat → Nat) (b : Nat → Nat) (oa : Nat → Nat) (ob : Nat → Nat) (ra : Nat → Nat) (sa : Nat → Nat) (ha : Nat → Nat) (ux : Nat → Nat → Nat) (uy : Nat → Nat → Nat) (tx : Nat) (c_tapeLength : Int32) (c_errorAt : Int32) (c_decodedLength : Int32) (f_tape : Nat → Int32) (f_dec : Nat → Int32) (ee : ES) (oo : OS) (tt : TS) (rr : RS) (sw : SS) (hh : HS) (p0 : Int32) (q : Nat) (o : Nat → Int64) (sz : Nat) (z : (Int32 ⊕ String)) (hJ : J_X7_codesIfEncoded fu f_tape f_dec ee oo tt rr sw hh p0 = some z) (r : Int32) (o' : Nat → Int64) (hz : (∃ v, z = .inl v ∧ r = 0 ∧ o' = vp_updL o 0 v.toInt64) ∨ (z = .inr "java/lang/IllegalArgumentException" ∧ r = 1 ∧ o' = o)) : Met l yL_codesIfEncoded wsL_codesIfEncoded ({ frames := 8, cells := 1, slots := 6, locals := 132 }) (va_Pc [.ref (ca 0), .int p0, .ref q] (RWl K dC dI sz ((([COc ca a oa ra sa ha c_tapeLength c_errorAt c_decodedLength, AWc (ca 1) kI 800 f_tape, AWc (ca 2) kI 400 f_dec, EWc a b kI ee, OOc oa ob oo, AWc (oa 1) kI 400 (o_symbols oo), DWc ob kI (o_d oo), TWc (ca 3) tx tt, RWc ra kI rr, SWc sa kI sw, HWc ha ux uy kE kI hh] : List va_W).flatten ++ ([(q, .inl (kL, 1, .inr (.inl o)))] : va_W))) [(kI, .int), (kE, .object "LzwCodec$Encoder"), (kL, .long)])) (rwQi dC dI (va_A ((([COc ca a oa ra sa ha c_tapeLength c_errorAt c_decodedLength, AWc (ca 1) kI 800 f_tape, AWc (ca 2) kI 400 f_dec, EWc a b kI ee, OOc oa ob oo, AWc (oa 1) kI 400 (o_symbols oo), DWc ob kI (o_d oo), TWc (ca 3) tx tt, RWc ra kI rr, SWc sa kI sw, HWc ha ux uy kE kI hh] : List va_W).flatten ++ ([(q, .inl (kL, 1, .inr (.inl o)))] : va_W))) sz) ((([COc ca a oa ra sa ha c_tapeLength c_errorAt c_decodedLength, AWc (ca 1) kI 800 f_tape, AWc (ca 2) kI 400 f_dec, EWc a b kI ee, OOc oa ob oo, AWc (oa 1) kI 400 (o_symbols oo), DWc ob kI (o_d oo), TWc (ca 3) tx tt, RWc ra kI rr, SWc sa kI sw, HWc ha ux uy kE kI hh] : List va_W).flatten ++ ([(q, .inl (kL, 1, .inr (.inl o')))] : va_W))) r) 1 6 (va_A ((([COc ca a oa ra sa ha c_tapeLength c_errorAt c_decodedLength, AWc (ca 1) kI 800 f_tape, AWc (ca 2) kI 400 f_dec, EWc a b kI ee, OOc oa ob oo, AWc (oa 1) kI 400 (o_symbols oo), DWc ob kI (o_d oo), TWc (ca 3) tx tt, RWc ra kI rr, SWc sa kI sw, HWc ha ux uy kE kI hh] : List va_W).flatten ++ ([(q, .inl (kL, 1, .inr (.inl o)))] : va_W))) sz) := by
  refine l_start (Qc := fun A => rwQi dC dI A ((([COc ca a oa ra sa ha c_tapeLength c_errorAt c_decodedLength, AWc (ca 1) kI 800 f_tape, AWc (ca 2) kI 400 f_dec, EWc a b kI ee, OOc oa ob oo, AWc (oa 1) kI 400 (o_symbols oo), DWc ob kI (o_d oo), TWc (ca 3) tx tt, RWc ra kI rr, SWc sa kI sw, HWc ha ux uy kE kI hh] : List va_W).flatten ++ ([(q, .inl (kL, 1, .inr (.inl o')))] : va_W))) r) (cc := cL_codesIfEncoded) (maxL := 4) (ret := some .int) (hh := [(0, 9, 12, 19)]) (by decide) rfl (Nat.le_of_ble_eq_true rfl) ?_
  intro p e s m args below meth c hx hb hr hml hown hts hlocks hNW hK hT hXN hXE A hA hCE H locs ls hP hD hS hl
  have hown : s.vm.findClass RL = some m.cls := hown
  have hl : lv_has ls 4 [(0, .ref (ca 0)), (1, .int p0), (2, .ref q)] := hl
  refine lv_aload_n hx hb dL_codesIfEncoded_0 rfl (lv_at hl 2 rfl) ?_
  refine lv_iconst (v := 0) hx hb dL_codesIfEncoded_1 (by decide) ?_
  refine lv_aload_n hx hb dL_codesIfEncoded_2 rfl (lv_at hl 0 rfl) ?_
  refine lv_iload_n hx hb dL_codesIfEncoded_3 rfl (lv_at hl 1 rfl) ?_
  refine l_Vio (As := [.int p0]) (rest := [.int 0, .ref q]) (wc := ([COc ca a oa ra sa ha c_tapeLength c_errorAt c_decodedLength, AWc (ca 1) kI 800 f_tape, AWc (ca 2) kI 400 f_dec, EWc a b kI ee, OOc oa ob oo, AWc (oa 1) kI 400 (o_symbols oo), DWc ob kI (o_d oo), TWc (ca 3) tx tt, RWc ra kI rr, SWc sa kI sw, HWc ha ux uy kE kI hh] : List va_W).flatten) (wr := [(q, .inl (kL, 1, .inr (.inl o)))]) (ci := 7) (q0 := 0) hx hb hml hown hts (c_X7_codesIfEncoded fu l hl0 dC dI K kI kE ca a b oa ob ra sa ha ux uy tx c_tapeLength c_errorAt c_decodedLength f_tape f_dec ee oo tt rr sw hh p0 z hJ) gL_codesIfEncoded_X7_codesIfEncoded qX7_codesIfEncoded rfl ⟨(Nat.le_of_ble_eq_true rfl), (Nat.le_of_ble_eq_true rfl)⟩ ⟨rfl, rfl⟩ hNW hCE hP hD hS hA (hK.sub (tys' := [(kI, .int), (kE, .object "LzwCodec$Encoder")]) [0, 1] rfl) rfl rfl rfl hl.1 rfl rfl (Nat.le_of_ble_eq_true rfl) dL_codesIfEncoded_4 ⟨(Nat.le_of_ble_eq_true rfl), (Nat.le_of_ble_eq_true rfl)⟩ (fun E ce q9 H locs hzE hP hD hS g1 g2 g3 => ?_) (fun v H locs hzv hP hD hS => ?_)
  · rcases hz with ⟨v, h1, h2, h3⟩ | ⟨h1, h2, h3⟩
    · exact absurd (hzE.symm.trans h1) (fun h => nomatch h)
    · obtain rfl : E = "java/lang/IllegalArgumentException" := Sum.inr.inj (hzE.symm.trans h1)
      subst h2
      subst h3
      refine l_catch (own := RL) (by decide) hown hXN hXE [] ({ startPc := 0, endPc := 9, handlerPc := 12, catchType := 19 }) [] hT (fun z9 h9 => nomatch h9) rfl (by decide) (hts _ (List.mem_of_getElem? (i := 1) rfl)) g1 g2 g3 ?_
      refine lv_astore_n (lv' := [(3, .ref q9), (0, .ref (ca 0)), (1, .int p0), (2, .ref q)]) hx hb dL_codesIfEncoded_12 rfl hl (by decide) rfl (fun ls hl => ?_)
      refine lv_iconst (v := 1) hx hb dL_codesIfEncoded_13 (by decide) ?_
      exact rw_iret hx hb hr hlocks rfl hP hD hS dL_codesIfEncoded_14
  · rcases hz with ⟨v', h1, h2, h3⟩ | ⟨h1, h2, h3⟩
    · obtain rfl : v = v' := Sum.inl.inj (hzv.symm.trans h1)
      subst h2
      subst h3
      refine lv_i2l (v := v.toInt64) hx hb dL_codesIfEncoded_7 rfl ?_
      have hP := hP.perm List.perm_append_comm
      have hD := hD.perm List.perm_append_comm
      refine va_last hx hb hK hP hD hS 0 2 rfl rfl (show ¬ ((0 : Int32) < 0 ∨ 1 ≤ (0 : Int32).toNatClampNeg) by decide) dL_codesIfEncoded_8 (fun H locs hP hD hS => ?_)
      have hP := va_P.perm (w2 := ([COc ca a oa ra sa ha c_tapeLength c_errorAt c_decodedLength, AWc (ca 1) kI 800 f_tape, AWc (ca 2) kI 400 f_dec, EWc a b kI ee, OOc oa ob oo, AWc (oa 1) kI 400 (o_symbols oo), DWc ob kI (o_d oo), TWc (ca 3) tx tt, RWc ra kI rr, SWc sa kI sw, HWc ha ux uy kE kI hh] : List va_W).flatten ++ [(q, .inl (kL, 1, .inr (.inl (vp_updL o 0 v.toInt64))))]) List.perm_append_comm hP
      have hD := va_D.perm (w2 := ([COc ca a oa ra sa ha c_tapeLength c_errorAt c_decodedLength, AWc (ca 1) kI 800 f_tape, AWc (ca 2) kI 400 f_dec, EWc a b kI ee, OOc oa ob oo, AWc (oa 1) kI 400 (o_symbols oo), DWc ob kI (o_d oo), TWc (ca 3) tx tt, RWc ra kI rr, SWc sa kI sw, HWc ha ux uy kE kI hh] : List va_W).flatten ++ [(q, .inl (kL, 1, .inr (.inl (vp_updL o 0 v.toInt64))))]) List.perm_append_comm hD
      refine lv_goto (tgt := 15) hx hb dL_codesIfEncoded_9 (by decide) ?_
      refine lv_iconst (v := 0) hx hb dL_codesIfEncoded_15 (by decide) ?_
      exact rw_iret hx hb hr hlocks rfl hP hD hS dL_codesIfEncoded_16
    · exact absurd (hzv.symm.trans h1) (fun h => nomatch h)
theorem qL_clearsIfEncoded : (yL_clearsIfEncoded.cls = RL) ∧ yL_clearsIfEncoded.cls ≠ "java/lang/invoke/MethodHandle" ∧ yL_clearsIfEncoded.cls ≠ "java/lang/invoke/VarHandle" ∧ (parseMethodDescriptor yL_clearsIfEncoded.desc).map (fun d => d.parameters.length) = some 3 := by decide +kernel
set_option maxHeartbeats 4000000 in
set_option maxRecDepth 100000 in
theorem c_L_clearsIfEncoded (fu : Nat) (l : Launch) (hl0 : l.stackTraces = false) (dC : Nat → ClassId) (dI : Nat → Nat → Nat) (K : KT) (kI kE kL : ClassId) (ca : Nat → Nat) (a : Nat → Nat) (b : Nat → Nat) (oa : Nat → Nat) (ob : Nat → Nat) (ra : Nat → Nat) (sa : Nat → Nat) (ha : Nat → Nat) (ux : Nat → Nat → Nat) (uy : Nat → Nat → Nat) (tx : Nat) (c_tapeLength : Int32) (c_errorAt : Int32) (c_decodedLength : Int32) (f_tape : Nat → Int32) (f_dec : Nat → Int32) (ee : ES) (oo : OS) (tt : TS) (rr : RS) (sw : SS) (hh : HS) (p0 : Int32) (q : Nat) (o : Nat → Int64) (sz : Nat) (z : (Int32 ⊕ String)) (hJ : J_X7_clearsIfEncoded fu f_tape f_dec ee oo tt rr sw hh p0 = some z) (r : Int32) (o' : Nat → Int64) (hz : (∃ v, z = .inl v ∧ r = 0 ∧ o' = vp_updL o 0 v.toInt64) ∨ (z = .inr "java/lang/IllegalArgumentException" ∧ r = 1 ∧ o' = o)) : Met l yL_clearsIfEncoded wsL_clearsIfEncoded ({ frames := 8, cells := 1, slots := 6, locals := 132 }) (va_Pc [.ref (ca 0), .int p0, .ref q] (RWl K dC dI sz ((([COc ca a oa ra sa ha c_tapeLength c_errorAt c_decodedLength, AWc (ca 1) kI 800 f_tape, AWc (ca 2) kI 400 f_dec, EWc a b kI ee, OOc oa ob oo, AWc (oa 1) kI 400 (o_symbols oo), DWc ob kI (o_d oo), TWc (ca 3) tx tt, RWc ra kI rr, SWc sa kI sw, HWc ha ux uy kE kI hh] : List va_W).flatten ++ ([(q, .inl (kL, 1, .inr (.inl o)))] : va_W))) [(kI, .int), (kE, .object "LzwCodec$Encoder"), (kL, .long)])) (rwQi dC dI (va_A ((([COc ca a oa ra sa ha c_tapeLength c_errorAt c_decodedLength, AWc (ca 1) kI 800 f_tape, AWc (ca 2) kI 400 f_dec, EWc a b kI ee, OOc oa ob oo, AWc (oa 1) kI 400 (o_symbols oo), DWc ob kI (o_d oo), TWc (ca 3) tx tt, RWc ra kI rr, SWc sa kI sw, HWc ha ux uy kE kI hh] : List va_W).flatten ++ ([(q, .inl (kL, 1, .inr (.inl o)))] : va_W))) sz) ((([COc ca a oa ra sa ha c_tapeLength c_errorAt c_decodedLength, AWc (ca 1) kI 800 f_tape, AWc (ca 2) kI 400 f_dec, EWc a b kI ee, OOc oa ob oo, AWc (oa 1) kI 400 (o_symbols oo), DWc ob kI (o_d oo), TWc (ca 3) tx tt, RWc ra kI rr, SWc sa kI sw, HWc ha ux uy kE kI hh] : List va_W).flatten ++ ([(q, .inl (kL, 1, .inr (.inl o')))] : va_W))) r) 1 6 (va_A ((([COc ca a oa ra sa ha c_tapeLength c_errorAt c_decodedLength, AWc (ca 1) kI 800 f_tape, AWc (ca 2) kI 400 f_dec, EWc a b kI ee, OOc oa ob oo, AWc (oa 1) kI 400 (o_symbols oo), DWc ob kI (o_d oo), TWc (ca 3) tx tt, RWc ra kI rr, SWc sa kI sw, HWc ha ux uy kE kI hh] : List va_W).flatten ++ ([(q, .inl (kL, 1, .inr (.inl o)))] : va_W))) sz) := by
  refine l_start (Qc := fun A => rwQi dC dI A ((([COc ca a oa ra sa ha c_tapeLength c_errorAt c_decodedLength, AWc (ca 1) kI 800 f_tape, AWc (ca 2) kI 400 f_dec, EWc a b kI ee, OOc oa ob oo, AWc (oa 1) kI 400 (o_symbols oo), DWc ob kI (o_d oo), TWc (ca 3) tx tt, RWc ra kI rr, SWc sa kI sw, HWc ha ux uy kE kI hh] : List va_W).flatten ++ ([(q, .inl (kL, 1, .inr (.inl o')))] : va_W))) r) (cc := cL_clearsIfEncoded) (maxL := 4) (ret := some .int) (hh := [(0, 9, 12, 19)]) (by decide) rfl (Nat.le_of_ble_eq_true rfl) ?_
  intro p e s m args below meth c hx hb hr hml hown hts hlocks hNW hK hT hXN hXE A hA hCE H locs ls hP hD hS hl
  have hown : s.vm.findClass RL = some m.cls := hown
  have hl : lv_has ls 4 [(0, .ref (ca 0)), (1, .int p0), (2, .ref q)] := hl
  refine lv_aload_n hx hb dL_clearsIfEncoded_0 rfl (lv_at hl 2 rfl) ?_
  refine lv_iconst (v := 0) hx hb dL_clearsIfEncoded_1 (by decide) ?_
  refine lv_aload_n hx hb dL_clearsIfEncoded_2 rfl (lv_at hl 0 rfl) ?_
  refine lv_iload_n hx hb dL_clearsIfEncoded_3 rfl (lv_at hl 1 rfl) ?_
  refine l_Vio (As := [.int p0]) (rest := [.int 0, .ref q]) (wc := ([COc ca a oa ra sa ha c_tapeLength c_errorAt c_decodedLength, AWc (ca 1) kI 800 f_tape, AWc (ca 2) kI 400 f_dec, EWc a b kI ee, OOc oa ob oo, AWc (oa 1) kI 400 (o_symbols oo), DWc ob kI (o_d oo), TWc (ca 3) tx tt, RWc ra kI rr, SWc sa kI sw, HWc ha ux uy kE kI hh] : List va_W).flatten) (wr := [(q, .inl (kL, 1, .inr (.inl o)))]) (ci := 7) (q0 := 0) hx hb hml hown hts (c_X7_clearsIfEncoded fu l hl0 dC dI K kI kE ca a b oa ob ra sa ha ux uy tx c_tapeLength c_errorAt c_decodedLength f_tape f_dec ee oo tt rr sw hh p0 z hJ) gL_clearsIfEncoded_X7_clearsIfEncoded qX7_clearsIfEncoded rfl ⟨(Nat.le_of_ble_eq_true rfl), (Nat.le_of_ble_eq_true rfl)⟩ ⟨rfl, rfl⟩ hNW hCE hP hD hS hA (hK.sub (tys' := [(kI, .int), (kE, .object "LzwCodec$Encoder")]) [0, 1] rfl) rfl rfl rfl hl.1 rfl rfl (Nat.le_of_ble_eq_true rfl) dL_clearsIfEncoded_4 ⟨(Nat.le_of_ble_eq_true rfl), (Nat.le_of_ble_eq_true rfl)⟩ (fun E ce q9 H locs hzE hP hD hS g1 g2 g3 => ?_) (fun v H locs hzv hP hD hS => ?_)
  · rcases hz with ⟨v, h1, h2, h3⟩ | ⟨h1, h2, h3⟩
    · exact absurd (hzE.symm.trans h1) (fun h => nomatch h)
    · obtain rfl : E = "java/lang/IllegalArgumentException" := Sum.inr.inj (hzE.symm.trans h1)
      subst h2
      subst h3
      refine l_catch (own := RL) (by decide) hown hXN hXE [] ({ startPc := 0, endPc := 9, handlerPc := 12, catchType := 19 }) [] hT (fun z9 h9 => nomatch h9) rfl (by decide) (hts _ (List.mem_of_getElem? (i := 1) rfl)) g1 g2 g3 ?_
      refine lv_astore_n (lv' := [(3, .ref q9), (0, .ref (ca 0)), (1, .int p0), (2, .ref q)]) hx hb dL_clearsIfEncoded_12 rfl hl (by decide) rfl (fun ls hl => ?_)
      refine lv_iconst (v := 1) hx hb dL_clearsIfEncoded_13 (by decide) ?_
      exact rw_iret hx hb hr hlocks rfl hP hD hS dL_clearsIfEncoded_14
  · rcases hz with ⟨v', h1, h2, h3⟩ | ⟨h1, h2, h3⟩
    · obtain rfl : v = v' := Sum.inl.inj (hzv.symm.trans h1)
      subst h2
      subst h3
      refine lv_i2l (v := v.toInt64) hx hb dL_clearsIfEncoded_7 rfl ?_
      have hP := hP.perm List.perm_append_comm
      have hD := hD.perm List.perm_append_comm
      refine va_last hx hb hK hP hD hS 0 2 rfl rfl (show ¬ ((0 : Int32) < 0 ∨ 1 ≤ (0 : Int32).toNatClampNeg) by decide) dL_clearsIfEncoded_8 (fun H locs hP hD hS => ?_)
      have hP := va_P.perm (w2 := ([COc ca a oa ra sa ha c_tapeLength c_errorAt c_decodedLength, AWc (ca 1) kI 800 f_tape, AWc (ca 2) kI 400 f_dec, EWc a b kI ee, OOc oa ob oo, AWc (oa 1) kI 400 (o_symbols oo), DWc ob kI (o_d oo), TWc (ca 3) tx tt, RWc ra kI rr, SWc sa kI sw, HWc ha ux uy kE kI hh] : List va_W).flatten ++ [(q, .inl (kL, 1, .inr (.inl (vp_updL o 0 v.toInt64))))]) List.perm_append_comm hP
      have hD := va_D.perm (w2 := ([COc ca a oa ra sa ha c_tapeLength c_errorAt c_decodedLength, AWc (ca 1) kI 800 f_tape, AWc (ca 2) kI 400 f_dec, EWc a b kI ee, OOc oa ob oo, AWc (oa 1) kI 400 (o_symbols oo), DWc ob kI (o_d oo), TWc (ca 3) tx tt, RWc ra kI rr, SWc sa kI sw, HWc ha ux uy kE kI hh] : List va_W).flatten ++ [(q, .inl (kL, 1, .inr (.inl (vp_updL o 0 v.toInt64))))]) List.perm_append_comm hD
      refine lv_goto (tgt := 15) hx hb dL_clearsIfEncoded_9 (by decide) ?_
      refine lv_iconst (v := 0) hx hb dL_clearsIfEncoded_15 (by decide) ?_
      exact rw_iret hx hb hr hlocks rfl hP hD hS dL_clearsIfEncoded_16
    · exact absurd (hzv.symm.trans h1) (fun h => nomatch h)
theorem qL_encodedSymbol : (yL_encodedSymbol.cls = RL) ∧ yL_encodedSymbol.cls ≠ "java/lang/invoke/MethodHandle" ∧ yL_encodedSymbol.cls ≠ "java/lang/invoke/VarHandle" ∧ (parseMethodDescriptor yL_encodedSymbol.desc).map (fun d => d.parameters.length) = some 3 := by decide +kernel
set_option maxHeartbeats 4000000 in
set_option maxRecDepth 100000 in
theorem c_L_encodedSymbol (l : Launch) (hl0 : l.stackTraces = false) (dC : Nat → ClassId) (dI : Nat → Nat → Nat) (K : KT) (kI kE kL : ClassId) (ca : Nat → Nat) (a : Nat → Nat) (b : Nat → Nat) (oa : Nat → Nat) (ob : Nat → Nat) (ra : Nat → Nat) (sa : Nat → Nat) (ha : Nat → Nat) (ux : Nat → Nat → Nat) (uy : Nat → Nat → Nat) (tx : Nat) (c_tapeLength : Int32) (c_errorAt : Int32) (c_decodedLength : Int32) (f_tape : Nat → Int32) (f_dec : Nat → Int32) (ee : ES) (oo : OS) (tt : TS) (rr : RS) (sw : SS) (hh : HS) (p0 : Int32) (q : Nat) (o : Nat → Int64) (sz : Nat) (z : (Int32 ⊕ String)) (hJ : J_X7_encodedSymbol ee p0 = some z) (r : Int32) (o' : Nat → Int64) (hz : (∃ v, z = .inl v ∧ r = 0 ∧ o' = vp_updL o 0 v.toInt64) ∨ (z = .inr "java/lang/IndexOutOfBoundsException" ∧ r = 1 ∧ o' = o)) : Met l yL_encodedSymbol wsL_encodedSymbol ({ frames := 8, cells := 1, slots := 6, locals := 132 }) (va_Pc [.ref (ca 0), .int p0, .ref q] (RWl K dC dI sz ((([COc ca a oa ra sa ha c_tapeLength c_errorAt c_decodedLength, AWc (ca 1) kI 800 f_tape, AWc (ca 2) kI 400 f_dec, EWc a b kI ee, OOc oa ob oo, AWc (oa 1) kI 400 (o_symbols oo), DWc ob kI (o_d oo), TWc (ca 3) tx tt, RWc ra kI rr, SWc sa kI sw, HWc ha ux uy kE kI hh] : List va_W).flatten ++ ([(q, .inl (kL, 1, .inr (.inl o)))] : va_W))) [(kI, .int), (kE, .object "LzwCodec$Encoder"), (kL, .long)])) (rwQi dC dI (va_A ((([COc ca a oa ra sa ha c_tapeLength c_errorAt c_decodedLength, AWc (ca 1) kI 800 f_tape, AWc (ca 2) kI 400 f_dec, EWc a b kI ee, OOc oa ob oo, AWc (oa 1) kI 400 (o_symbols oo), DWc ob kI (o_d oo), TWc (ca 3) tx tt, RWc ra kI rr, SWc sa kI sw, HWc ha ux uy kE kI hh] : List va_W).flatten ++ ([(q, .inl (kL, 1, .inr (.inl o)))] : va_W))) sz) ((([COc ca a oa ra sa ha c_tapeLength c_errorAt c_decodedLength, AWc (ca 1) kI 800 f_tape, AWc (ca 2) kI 400 f_dec, EWc a b kI ee, OOc oa ob oo, AWc (oa 1) kI 400 (o_symbols oo), DWc ob kI (o_d oo), TWc (ca 3) tx tt, RWc ra kI rr, SWc sa kI sw, HWc ha ux uy kE kI hh] : List va_W).flatten ++ ([(q, .inl (kL, 1, .inr (.inl o')))] : va_W))) r) 1 6 (va_A ((([COc ca a oa ra sa ha c_tapeLength c_errorAt c_decodedLength, AWc (ca 1) kI 800 f_tape, AWc (ca 2) kI 400 f_dec, EWc a b kI ee, OOc oa ob oo, AWc (oa 1) kI 400 (o_symbols oo), DWc ob kI (o_d oo), TWc (ca 3) tx tt, RWc ra kI rr, SWc sa kI sw, HWc ha ux uy kE kI hh] : List va_W).flatten ++ ([(q, .inl (kL, 1, .inr (.inl o)))] : va_W))) sz) := by
  refine l_start (Qc := fun A => rwQi dC dI A ((([COc ca a oa ra sa ha c_tapeLength c_errorAt c_decodedLength, AWc (ca 1) kI 800 f_tape, AWc (ca 2) kI 400 f_dec, EWc a b kI ee, OOc oa ob oo, AWc (oa 1) kI 400 (o_symbols oo), DWc ob kI (o_d oo), TWc (ca 3) tx tt, RWc ra kI rr, SWc sa kI sw, HWc ha ux uy kE kI hh] : List va_W).flatten ++ ([(q, .inl (kL, 1, .inr (.inl o')))] : va_W))) r) (cc := cL_encodedSymbol) (maxL := 4) (ret := some .int) (hh := [(0, 9, 12, 55)]) (by decide) rfl (Nat.le_of_ble_eq_true rfl) ?_
  intro p e s m args below meth c hx hb hr hml hown hts hlocks hNW hK hT hXN hXE A hA hCE H locs ls hP hD hS hl
  have hown : s.vm.findClass RL = some m.cls := hown
  have hl : lv_has ls 4 [(0, .ref (ca 0)), (1, .int p0), (2, .ref q)] := hl
  refine lv_aload_n hx hb dL_encodedSymbol_0 rfl (lv_at hl 2 rfl) ?_
  refine lv_iconst (v := 0) hx hb dL_encodedSymbol_1 (by decide) ?_
  refine lv_aload_n hx hb dL_encodedSymbol_2 rfl (lv_at hl 0 rfl) ?_
  refine lv_iload_n hx hb dL_encodedSymbol_3 rfl (lv_at hl 1 rfl) ?_
  refine l_Vio (As := [.int p0]) (rest := [.int 0, .ref q]) (wc := ([COc ca a oa ra sa ha c_tapeLength c_errorAt c_decodedLength, AWc (ca 1) kI 800 f_tape, AWc (ca 2) kI 400 f_dec, EWc a b kI ee, OOc oa ob oo, AWc (oa 1) kI 400 (o_symbols oo), DWc ob kI (o_d oo), TWc (ca 3) tx tt, RWc ra kI rr, SWc sa kI sw, HWc ha ux uy kE kI hh] : List va_W).flatten) (wr := [(q, .inl (kL, 1, .inr (.inl o)))]) (ci := 7) (q0 := 0) hx hb hml hown hts (c_X7_encodedSymbol l hl0 dC dI K kI kE ca a b oa ob ra sa ha ux uy tx c_tapeLength c_errorAt c_decodedLength f_tape f_dec ee oo tt rr sw hh p0 z hJ) gL_encodedSymbol_X7_encodedSymbol qX7_encodedSymbol rfl ⟨(Nat.le_of_ble_eq_true rfl), (Nat.le_of_ble_eq_true rfl)⟩ ⟨rfl, rfl⟩ hNW hCE hP hD hS hA (hK.sub (tys' := [(kI, .int), (kE, .object "LzwCodec$Encoder")]) [0, 1] rfl) rfl rfl rfl hl.1 rfl rfl (Nat.le_of_ble_eq_true rfl) dL_encodedSymbol_4 ⟨(Nat.le_of_ble_eq_true rfl), (Nat.le_of_ble_eq_true rfl)⟩ (fun E ce q9 H locs hzE hP hD hS g1 g2 g3 => ?_) (fun v H locs hzv hP hD hS => ?_)
  · rcases hz with ⟨v, h1, h2, h3⟩ | ⟨h1, h2, h3⟩
    · exact absurd (hzE.symm.trans h1) (fun h => nomatch h)
    · obtain rfl : E = "java/lang/IndexOutOfBoundsException" := Sum.inr.inj (hzE.symm.trans h1)
      subst h2
      subst h3
      refine l_catch (own := RL) (by decide) hown hXN hXE [] ({ startPc := 0, endPc := 9, handlerPc := 12, catchType := 55 }) [] hT (fun z9 h9 => nomatch h9) rfl (by decide) (hts _ (List.mem_of_getElem? (i := 1) rfl)) g1 g2 g3 ?_
      refine lv_astore_n (lv' := [(3, .ref q9), (0, .ref (ca 0)), (1, .int p0), (2, .ref q)]) hx hb dL_encodedSymbol_12 rfl hl (by decide) rfl (fun ls hl => ?_)
      refine lv_iconst (v := 1) hx hb dL_encodedSymbol_13 (by decide) ?_
      exact rw_iret hx hb hr hlocks rfl hP hD hS dL_encodedSymbol_14
  · rcases hz with ⟨v', h1, h2, h3⟩ | ⟨h1, h2, h3⟩
    · obtain rfl : v = v' := Sum.inl.inj (hzv.symm.trans h1)
      subst h2
      subst h3
      refine lv_i2l (v := v.toInt64) hx hb dL_encodedSymbol_7 rfl ?_
      have hP := hP.perm List.perm_append_comm
      have hD := hD.perm List.perm_append_comm
      refine va_last hx hb hK hP hD hS 0 2 rfl rfl (show ¬ ((0 : Int32) < 0 ∨ 1 ≤ (0 : Int32).toNatClampNeg) by decide) dL_encodedSymbol_8 (fun H locs hP hD hS => ?_)
      have hP := va_P.perm (w2 := ([COc ca a oa ra sa ha c_tapeLength c_errorAt c_decodedLength, AWc (ca 1) kI 800 f_tape, AWc (ca 2) kI 400 f_dec, EWc a b kI ee, OOc oa ob oo, AWc (oa 1) kI 400 (o_symbols oo), DWc ob kI (o_d oo), TWc (ca 3) tx tt, RWc ra kI rr, SWc sa kI sw, HWc ha ux uy kE kI hh] : List va_W).flatten ++ [(q, .inl (kL, 1, .inr (.inl (vp_updL o 0 v.toInt64))))]) List.perm_append_comm hP
      have hD := va_D.perm (w2 := ([COc ca a oa ra sa ha c_tapeLength c_errorAt c_decodedLength, AWc (ca 1) kI 800 f_tape, AWc (ca 2) kI 400 f_dec, EWc a b kI ee, OOc oa ob oo, AWc (oa 1) kI 400 (o_symbols oo), DWc ob kI (o_d oo), TWc (ca 3) tx tt, RWc ra kI rr, SWc sa kI sw, HWc ha ux uy kE kI hh] : List va_W).flatten ++ [(q, .inl (kL, 1, .inr (.inl (vp_updL o 0 v.toInt64))))]) List.perm_append_comm hD
      refine lv_goto (tgt := 15) hx hb dL_encodedSymbol_9 (by decide) ?_
      refine lv_iconst (v := 0) hx hb dL_encodedSymbol_15 (by decide) ?_
      exact rw_iret hx hb hr hlocks rfl hP hD hS dL_encodedSymbol_16
    · exact absurd (hzv.symm.trans h1) (fun h => nomatch h)
theorem qL_writtenCode : (yL_writtenCode.cls = RL) ∧ yL_writtenCode.cls ≠ "java/lang/invoke/MethodHandle" ∧ yL_writtenCode.cls ≠ "java/lang/invoke/VarHandle" ∧ (parseMethodDescriptor yL_writtenCode.desc).map (fun d => d.parameters.length) = some 3 := by decide +kernel
set_option maxHeartbeats 4000000 in
set_option maxRecDepth 100000 in
theorem c_L_writtenCode (l : Launch) (hl0 : l.stackTraces = false) (dC : Nat → ClassId) (dI : Nat → Nat → Nat) (K : KT) (kI kE kL : ClassId) (ca : Nat → Nat) (a : Nat → Nat) (b : Nat → Nat) (oa : Nat → Nat) (ob : Nat → Nat) (ra : Nat → Nat) (sa : Nat → Nat) (ha : Nat → Nat) (ux : Nat → Nat → Nat) (uy : Nat → Nat → Nat) (tx : Nat) (c_tapeLength : Int32) (c_errorAt : Int32) (c_decodedLength : Int32) (f_tape : Nat → Int32) (f_dec : Nat → Int32) (ee : ES) (oo : OS) (tt : TS) (rr : RS) (sw : SS) (hh : HS) (p0 : Int32) (q : Nat) (o : Nat → Int64) (sz : Nat) (z : (Int32 ⊕ String)) (hJ : J_X7_writtenCode ee p0 = some z) (r : Int32) (o' : Nat → Int64) (hz : (∃ v, z = .inl v ∧ r = 0 ∧ o' = vp_updL o 0 v.toInt64) ∨ (z = .inr "java/lang/IndexOutOfBoundsException" ∧ r = 1 ∧ o' = o)) : Met l yL_writtenCode wsL_writtenCode ({ frames := 8, cells := 1, slots := 6, locals := 132 }) (va_Pc [.ref (ca 0), .int p0, .ref q] (RWl K dC dI sz ((([COc ca a oa ra sa ha c_tapeLength c_errorAt c_decodedLength, AWc (ca 1) kI 800 f_tape, AWc (ca 2) kI 400 f_dec, EWc a b kI ee, OOc oa ob oo, AWc (oa 1) kI 400 (o_symbols oo), DWc ob kI (o_d oo), TWc (ca 3) tx tt, RWc ra kI rr, SWc sa kI sw, HWc ha ux uy kE kI hh] : List va_W).flatten ++ ([(q, .inl (kL, 1, .inr (.inl o)))] : va_W))) [(kI, .int), (kE, .object "LzwCodec$Encoder"), (kL, .long)])) (rwQi dC dI (va_A ((([COc ca a oa ra sa ha c_tapeLength c_errorAt c_decodedLength, AWc (ca 1) kI 800 f_tape, AWc (ca 2) kI 400 f_dec, EWc a b kI ee, OOc oa ob oo, AWc (oa 1) kI 400 (o_symbols oo), DWc ob kI (o_d oo), TWc (ca 3) tx tt, RWc ra kI rr, SWc sa kI sw, HWc ha ux uy kE kI hh] : List va_W).flatten ++ ([(q, .inl (kL, 1, .inr (.inl o)))] : va_W))) sz) ((([COc ca a oa ra sa ha c_tapeLength c_errorAt c_decodedLength, AWc (ca 1) kI 800 f_tape, AWc (ca 2) kI 400 f_dec, EWc a b kI ee, OOc oa ob oo, AWc (oa 1) kI 400 (o_symbols oo), DWc ob kI (o_d oo), TWc (ca 3) tx tt, RWc ra kI rr, SWc sa kI sw, HWc ha ux uy kE kI hh] : List va_W).flatten ++ ([(q, .inl (kL, 1, .inr (.inl o')))] : va_W))) r) 1 6 (va_A ((([COc ca a oa ra sa ha c_tapeLength c_errorAt c_decodedLength, AWc (ca 1) kI 800 f_tape, AWc (ca 2) kI 400 f_dec, EWc a b kI ee, OOc oa ob oo, AWc (oa 1) kI 400 (o_symbols oo), DWc ob kI (o_d oo), TWc (ca 3) tx tt, RWc ra kI rr, SWc sa kI sw, HWc ha ux uy kE kI hh] : List va_W).flatten ++ ([(q, .inl (kL, 1, .inr (.inl o)))] : va_W))) sz) := by
  refine l_start (Qc := fun A => rwQi dC dI A ((([COc ca a oa ra sa ha c_tapeLength c_errorAt c_decodedLength, AWc (ca 1) kI 800 f_tape, AWc (ca 2) kI 400 f_dec, EWc a b kI ee, OOc oa ob oo, AWc (oa 1) kI 400 (o_symbols oo), DWc ob kI (o_d oo), TWc (ca 3) tx tt, RWc ra kI rr, SWc sa kI sw, HWc ha ux uy kE kI hh] : List va_W).flatten ++ ([(q, .inl (kL, 1, .inr (.inl o')))] : va_W))) r) (cc := cL_writtenCode) (maxL := 4) (ret := some .int) (hh := [(0, 9, 12, 55)]) (by decide) rfl (Nat.le_of_ble_eq_true rfl) ?_
  intro p e s m args below meth c hx hb hr hml hown hts hlocks hNW hK hT hXN hXE A hA hCE H locs ls hP hD hS hl
  have hown : s.vm.findClass RL = some m.cls := hown
  have hl : lv_has ls 4 [(0, .ref (ca 0)), (1, .int p0), (2, .ref q)] := hl
  refine lv_aload_n hx hb dL_writtenCode_0 rfl (lv_at hl 2 rfl) ?_
  refine lv_iconst (v := 0) hx hb dL_writtenCode_1 (by decide) ?_
  refine lv_aload_n hx hb dL_writtenCode_2 rfl (lv_at hl 0 rfl) ?_
  refine lv_iload_n hx hb dL_writtenCode_3 rfl (lv_at hl 1 rfl) ?_
  refine l_Vio (As := [.int p0]) (rest := [.int 0, .ref q]) (wc := ([COc ca a oa ra sa ha c_tapeLength c_errorAt c_decodedLength, AWc (ca 1) kI 800 f_tape, AWc (ca 2) kI 400 f_dec, EWc a b kI ee, OOc oa ob oo, AWc (oa 1) kI 400 (o_symbols oo), DWc ob kI (o_d oo), TWc (ca 3) tx tt, RWc ra kI rr, SWc sa kI sw, HWc ha ux uy kE kI hh] : List va_W).flatten) (wr := [(q, .inl (kL, 1, .inr (.inl o)))]) (ci := 7) (q0 := 0) hx hb hml hown hts (c_X7_writtenCode l hl0 dC dI K kI kE ca a b oa ob ra sa ha ux uy tx c_tapeLength c_errorAt c_decodedLength f_tape f_dec ee oo tt rr sw hh p0 z hJ) gL_writtenCode_X7_writtenCode qX7_writtenCode rfl ⟨(Nat.le_of_ble_eq_true rfl), (Nat.le_of_ble_eq_true rfl)⟩ ⟨rfl, rfl⟩ hNW hCE hP hD hS hA (hK.sub (tys' := [(kI, .int), (kE, .object "LzwCodec$Encoder")]) [0, 1] rfl) rfl rfl rfl hl.1 rfl rfl (Nat.le_of_ble_eq_true rfl) dL_writtenCode_4 ⟨(Nat.le_of_ble_eq_true rfl), (Nat.le_of_ble_eq_true rfl)⟩ (fun E ce q9 H locs hzE hP hD hS g1 g2 g3 => ?_) (fun v H locs hzv hP hD hS => ?_)
  · rcases hz with ⟨v, h1, h2, h3⟩ | ⟨h1, h2, h3⟩
    · exact absurd (hzE.symm.trans h1) (fun h => nomatch h)
    · obtain rfl : E = "java/lang/IndexOutOfBoundsException" := Sum.inr.inj (hzE.symm.trans h1)
      subst h2
      subst h3
      refine l_catch (own := RL) (by decide) hown hXN hXE [] ({ startPc := 0, endPc := 9, handlerPc := 12, catchType := 55 }) [] hT (fun z9 h9 => nomatch h9) rfl (by decide) (hts _ (List.mem_of_getElem? (i := 1) rfl)) g1 g2 g3 ?_
      refine lv_astore_n (lv' := [(3, .ref q9), (0, .ref (ca 0)), (1, .int p0), (2, .ref q)]) hx hb dL_writtenCode_12 rfl hl (by decide) rfl (fun ls hl => ?_)
      refine lv_iconst (v := 1) hx hb dL_writtenCode_13 (by decide) ?_
      exact rw_iret hx hb hr hlocks rfl hP hD hS dL_writtenCode_14
  · rcases hz with ⟨v', h1, h2, h3⟩ | ⟨h1, h2, h3⟩
    · obtain rfl : v = v' := Sum.inl.inj (hzv.symm.trans h1)
      subst h2
      subst h3
      refine lv_i2l (v := v.toInt64) hx hb dL_writtenCode_7 rfl ?_
      have hP := hP.perm List.perm_append_comm
      have hD := hD.perm List.perm_append_comm
      refine va_last hx hb hK hP hD hS 0 2 rfl rfl (show ¬ ((0 : Int32) < 0 ∨ 1 ≤ (0 : Int32).toNatClampNeg) by decide) dL_writtenCode_8 (fun H locs hP hD hS => ?_)
      have hP := va_P.perm (w2 := ([COc ca a oa ra sa ha c_tapeLength c_errorAt c_decodedLength, AWc (ca 1) kI 800 f_tape, AWc (ca 2) kI 400 f_dec, EWc a b kI ee, OOc oa ob oo, AWc (oa 1) kI 400 (o_symbols oo), DWc ob kI (o_d oo), TWc (ca 3) tx tt, RWc ra kI rr, SWc sa kI sw, HWc ha ux uy kE kI hh] : List va_W).flatten ++ [(q, .inl (kL, 1, .inr (.inl (vp_updL o 0 v.toInt64))))]) List.perm_append_comm hP
      have hD := va_D.perm (w2 := ([COc ca a oa ra sa ha c_tapeLength c_errorAt c_decodedLength, AWc (ca 1) kI 800 f_tape, AWc (ca 2) kI 400 f_dec, EWc a b kI ee, OOc oa ob oo, AWc (oa 1) kI 400 (o_symbols oo), DWc ob kI (o_d oo), TWc (ca 3) tx tt, RWc ra kI rr, SWc sa kI sw, HWc ha ux uy kE kI hh] : List va_W).flatten ++ [(q, .inl (kL, 1, .inr (.inl (vp_updL o 0 v.toInt64))))]) List.perm_append_comm hD
      refine lv_goto (tgt := 15) hx hb dL_writtenCode_9 (by decide) ?_
      refine lv_iconst (v := 0) hx hb dL_writtenCode_15 (by decide) ?_
      exact rw_iret hx hb hr hlocks rfl hP hD hS dL_writtenCode_16
    · exact absurd (hzv.symm.trans h1) (fun h => nomatch h)
theorem qL_writtenWidth : (yL_writtenWidth.cls = RL) ∧ yL_writtenWidth.cls ≠ "java/lang/invoke/MethodHandle" ∧ yL_writtenWidth.cls ≠ "java/lang/invoke/VarHandle" ∧ (parseMethodDescriptor yL_writtenWidth.desc).map (fun d => d.parameters.length) = some 3 := by decide +kernel
set_option maxHeartbeats 4000000 in
set_option maxRecDepth 100000 in
theorem c_L_writtenWidth (l : Launch) (hl0 : l.stackTraces = false) (dC : Nat → ClassId) (dI : Nat → Nat → Nat) (K : KT) (kI kE kL : ClassId) (ca : Nat → Nat) (a : Nat → Nat) (b : Nat → Nat) (oa : Nat → Nat) (ob : Nat → Nat) (ra : Nat → Nat) (sa : Nat → Nat) (ha : Nat → Nat) (ux : Nat → Nat → Nat) (uy : Nat → Nat → Nat) (tx : Nat) (c_tapeLength : Int32) (c_errorAt : Int32) (c_decodedLength : Int32) (f_tape : Nat → Int32) (f_dec : Nat → Int32) (ee : ES) (oo : OS) (tt : TS) (rr : RS) (sw : SS) (hh : HS) (p0 : Int32) (q : Nat) (o : Nat → Int64) (sz : Nat) (z : (Int32 ⊕ String)) (hJ : J_X7_writtenWidth ee p0 = some z) (r : Int32) (o' : Nat → Int64) (hz : (∃ v, z = .inl v ∧ r = 0 ∧ o' = vp_updL o 0 v.toInt64) ∨ (z = .inr "java/lang/IndexOutOfBoundsException" ∧ r = 1 ∧ o' = o)) : Met l yL_writtenWidth wsL_writtenWidth ({ frames := 8, cells := 1, slots := 6, locals := 132 }) (va_Pc [.ref (ca 0), .int p0, .ref q] (RWl K dC dI sz ((([COc ca a oa ra sa ha c_tapeLength c_errorAt c_decodedLength, AWc (ca 1) kI 800 f_tape, AWc (ca 2) kI 400 f_dec, EWc a b kI ee, OOc oa ob oo, AWc (oa 1) kI 400 (o_symbols oo), DWc ob kI (o_d oo), TWc (ca 3) tx tt, RWc ra kI rr, SWc sa kI sw, HWc ha ux uy kE kI hh] : List va_W).flatten ++ ([(q, .inl (kL, 1, .inr (.inl o)))] : va_W))) [(kI, .int), (kE, .object "LzwCodec$Encoder"), (kL, .long)])) (rwQi dC dI (va_A ((([COc ca a oa ra sa ha c_tapeLength c_errorAt c_decodedLength, AWc (ca 1) kI 800 f_tape, AWc (ca 2) kI 400 f_dec, EWc a b kI ee, OOc oa ob oo, AWc (oa 1) kI 400 (o_symbols oo), DWc ob kI (o_d oo), TWc (ca 3) tx tt, RWc ra kI rr, SWc sa kI sw, HWc ha ux uy kE kI hh] : List va_W).flatten ++ ([(q, .inl (kL, 1, .inr (.inl o)))] : va_W))) sz) ((([COc ca a oa ra sa ha c_tapeLength c_errorAt c_decodedLength, AWc (ca 1) kI 800 f_tape, AWc (ca 2) kI 400 f_dec, EWc a b kI ee, OOc oa ob oo, AWc (oa 1) kI 400 (o_symbols oo), DWc ob kI (o_d oo), TWc (ca 3) tx tt, RWc ra kI rr, SWc sa kI sw, HWc ha ux uy kE kI hh] : List va_W).flatten ++ ([(q, .inl (kL, 1, .inr (.inl o')))] : va_W))) r) 1 6 (va_A ((([COc ca a oa ra sa ha c_tapeLength c_errorAt c_decodedLength, AWc (ca 1) kI 800 f_tape, AWc (ca 2) kI 400 f_dec, EWc a b kI ee, OOc oa ob oo, AWc (oa 1) kI 400 (o_symbols oo), DWc ob kI (o_d oo), TWc (ca 3) tx tt, RWc ra kI rr, SWc sa kI sw, HWc ha ux uy kE kI hh] : List va_W).flatten ++ ([(q, .inl (kL, 1, .inr (.inl o)))] : va_W))) sz) := by
  refine l_start (Qc := fun A => rwQi dC dI A ((([COc ca a oa ra sa ha c_tapeLength c_errorAt c_decodedLength, AWc (ca 1) kI 800 f_tape, AWc (ca 2) kI 400 f_dec, EWc a b kI ee, OOc oa ob oo, AWc (oa 1) kI 400 (o_symbols oo), DWc ob kI (o_d oo), TWc (ca 3) tx tt, RWc ra kI rr, SWc sa kI sw, HWc ha ux uy kE kI hh] : List va_W).flatten ++ ([(q, .inl (kL, 1, .inr (.inl o')))] : va_W))) r) (cc := cL_writtenWidth) (maxL := 4) (ret := some .int) (hh := [(0, 9, 12, 55)]) (by decide) rfl (Nat.le_of_ble_eq_true rfl) ?_
  intro p e s m args below meth c hx hb hr hml hown hts hlocks hNW hK hT hXN hXE A hA hCE H locs ls hP hD hS hl
  have hown : s.vm.findClass RL = some m.cls := hown
  have hl : lv_has ls 4 [(0, .ref (ca 0)), (1, .int p0), (2, .ref q)] := hl
  refine lv_aload_n hx hb dL_writtenWidth_0 rfl (lv_at hl 2 rfl) ?_
  refine lv_iconst (v := 0) hx hb dL_writtenWidth_1 (by decide) ?_
  refine lv_aload_n hx hb dL_writtenWidth_2 rfl (lv_at hl 0 rfl) ?_
  refine lv_iload_n hx hb dL_writtenWidth_3 rfl (lv_at hl 1 rfl) ?_
  refine l_Vio (As := [.int p0]) (rest := [.int 0, .ref q]) (wc := ([COc ca a oa ra sa ha c_tapeLength c_errorAt c_decodedLength, AWc (ca 1) kI 800 f_tape, AWc (ca 2) kI 400 f_dec, EWc a b kI ee, OOc oa ob oo, AWc (oa 1) kI 400 (o_symbols oo), DWc ob kI (o_d oo), TWc (ca 3) tx tt, RWc ra kI rr, SWc sa kI sw, HWc ha ux uy kE kI hh] : List va_W).flatten) (wr := [(q, .inl (kL, 1, .inr (.inl o)))]) (ci := 7) (q0 := 0) hx hb hml hown hts (c_X7_writtenWidth l hl0 dC dI K kI kE ca a b oa ob ra sa ha ux uy tx c_tapeLength c_errorAt c_decodedLength f_tape f_dec ee oo tt rr sw hh p0 z hJ) gL_writtenWidth_X7_writtenWidth qX7_writtenWidth rfl ⟨(Nat.le_of_ble_eq_true rfl), (Nat.le_of_ble_eq_true rfl)⟩ ⟨rfl, rfl⟩ hNW hCE hP hD hS hA (hK.sub (tys' := [(kI, .int), (kE, .object "LzwCodec$Encoder")]) [0, 1] rfl) rfl rfl rfl hl.1 rfl rfl (Nat.le_of_ble_eq_true rfl) dL_writtenWidth_4 ⟨(Nat.le_of_ble_eq_true rfl), (Nat.le_of_ble_eq_true rfl)⟩ (fun E ce q9 H locs hzE hP hD hS g1 g2 g3 => ?_) (fun v H locs hzv hP hD hS => ?_)
  · rcases hz with ⟨v, h1, h2, h3⟩ | ⟨h1, h2, h3⟩
    · exact absurd (hzE.symm.trans h1) (fun h => nomatch h)
    · obtain rfl : E = "java/lang/IndexOutOfBoundsException" := Sum.inr.inj (hzE.symm.trans h1)
      subst h2
      subst h3
      refine l_catch (own := RL) (by decide) hown hXN hXE [] ({ startPc := 0, endPc := 9, handlerPc := 12, catchType := 55 }) [] hT (fun z9 h9 => nomatch h9) rfl (by decide) (hts _ (List.mem_of_getElem? (i := 1) rfl)) g1 g2 g3 ?_
      refine lv_astore_n (lv' := [(3, .ref q9), (0, .ref (ca 0)), (1, .int p0), (2, .ref q)]) hx hb dL_writtenWidth_12 rfl hl (by decide) rfl (fun ls hl => ?_)
      refine lv_iconst (v := 1) hx hb dL_writtenWidth_13 (by decide) ?_
      exact rw_iret hx hb hr hlocks rfl hP hD hS dL_writtenWidth_14
  · rcases hz with ⟨v', h1, h2, h3⟩ | ⟨h1, h2, h3⟩
    · obtain rfl : v = v' := Sum.inl.inj (hzv.symm.trans h1)
      subst h2
      subst h3
      refine lv_i2l (v := v.toInt64) hx hb dL_writtenWidth_7 rfl ?_
      have hP := hP.perm List.perm_append_comm
      have hD := hD.perm List.perm_append_comm
      refine va_last hx hb hK hP hD hS 0 2 rfl rfl (show ¬ ((0 : Int32) < 0 ∨ 1 ≤ (0 : Int32).toNatClampNeg) by decide) dL_writtenWidth_8 (fun H locs hP hD hS => ?_)
      have hP := va_P.perm (w2 := ([COc ca a oa ra sa ha c_tapeLength c_errorAt c_decodedLength, AWc (ca 1) kI 800 f_tape, AWc (ca 2) kI 400 f_dec, EWc a b kI ee, OOc oa ob oo, AWc (oa 1) kI 400 (o_symbols oo), DWc ob kI (o_d oo), TWc (ca 3) tx tt, RWc ra kI rr, SWc sa kI sw, HWc ha ux uy kE kI hh] : List va_W).flatten ++ [(q, .inl (kL, 1, .inr (.inl (vp_updL o 0 v.toInt64))))]) List.perm_append_comm hP
      have hD := va_D.perm (w2 := ([COc ca a oa ra sa ha c_tapeLength c_errorAt c_decodedLength, AWc (ca 1) kI 800 f_tape, AWc (ca 2) kI 400 f_dec, EWc a b kI ee, OOc oa ob oo, AWc (oa 1) kI 400 (o_symbols oo), DWc ob kI (o_d oo), TWc (ca 3) tx tt, RWc ra kI rr, SWc sa kI sw, HWc ha ux uy kE kI hh] : List va_W).flatten ++ [(q, .inl (kL, 1, .inr (.inl (vp_updL o 0 v.toInt64))))]) List.perm_append_comm hD
      refine lv_goto (tgt := 15) hx hb dL_writtenWidth_9 (by decide) ?_
      refine lv_iconst (v := 0) hx hb dL_writtenWidth_15 (by decide) ?_
      exact rw_iret hx hb hr hlocks rfl hP hD hS dL_writtenWidth_16
    · exact absurd (hzv.symm.trans h1) (fun h => nomatch h)
theorem qL_bitAt : (yL_bitAt.cls = RL) ∧ yL_bitAt.cls ≠ "java/lang/invoke/MethodHandle" ∧ yL_bitAt.cls ≠ "java/lang/invoke/VarHandle" ∧ (parseMethodDescriptor yL_bitAt.desc).map (fun d => d.parameters.length) = some 3 := by decide +kernel
set_option maxHeartbeats 4000000 in
set_option maxRecDepth 100000 in
theorem c_L_bitAt (fu : Nat) (l : Launch) (hl0 : l.stackTraces = false) (dC : Nat → ClassId) (dI : Nat → Nat → Nat) (K : KT) (kI kE kL : ClassId) (ca : Nat → Nat) (a : Nat → Nat) (b : Nat → Nat) (oa : Nat → Nat) (ob : Nat → Nat) (ra : Nat → Nat) (sa : Nat → Nat) (ha : Nat → Nat) (ux : Nat → Nat → Nat) (uy : Nat → Nat → Nat) (tx : Nat) (c_tapeLength : Int32) (c_errorAt : Int32) (c_decodedLength : Int32) (f_tape : Nat → Int32) (f_dec : Nat → Int32) (ee : ES) (oo : OS) (tt : TS) (rr : RS) (sw : SS) (hh : HS) (p0 : Int32) (q : Nat) (o : Nat → Int64) (sz : Nat) (z : (Int32 ⊕ String)) (hJ : J_X7_bitAt fu ee p0 = some z) (r : Int32) (o' : Nat → Int64) (hz : (∃ v, z = .inl v ∧ r = 0 ∧ o' = vp_updL o 0 v.toInt64) ∨ (z = .inr "java/lang/IndexOutOfBoundsException" ∧ r = 1 ∧ o' = o)) : Met l yL_bitAt wsL_bitAt ({ frames := 8, cells := 1, slots := 6, locals := 132 }) (va_Pc [.ref (ca 0), .int p0, .ref q] (RWl K dC dI sz ((([COc ca a oa ra sa ha c_tapeLength c_errorAt c_decodedLength, AWc (ca 1) kI 800 f_tape, AWc (ca 2) kI 400 f_dec, EWc a b kI ee, OOc oa ob oo, AWc (oa 1) kI 400 (o_symbols oo), DWc ob kI (o_d oo), TWc (ca 3) tx tt, RWc ra kI rr, SWc sa kI sw, HWc ha ux uy kE kI hh] : List va_W).flatten ++ ([(q, .inl (kL, 1, .inr (.inl o)))] : va_W))) [(kI, .int), (kE, .object "LzwCodec$Encoder"), (kL, .long)])) (rwQi dC dI (va_A ((([COc ca a oa ra sa ha c_tapeLength c_errorAt c_decodedLength, AWc (ca 1) kI 800 f_tape, AWc (ca 2) kI 400 f_dec, EWc a b kI ee, OOc oa ob oo, AWc (oa 1) kI 400 (o_symbols oo), DWc ob kI (o_d oo), TWc (ca 3) tx tt, RWc ra kI rr, SWc sa kI sw, HWc ha ux uy kE kI hh] : List va_W).flatten ++ ([(q, .inl (kL, 1, .inr (.inl o)))] : va_W))) sz) ((([COc ca a oa ra sa ha c_tapeLength c_errorAt c_decodedLength, AWc (ca 1) kI 800 f_tape, AWc (ca 2) kI 400 f_dec, EWc a b kI ee, OOc oa ob oo, AWc (oa 1) kI 400 (o_symbols oo), DWc ob kI (o_d oo), TWc (ca 3) tx tt, RWc ra kI rr, SWc sa kI sw, HWc ha ux uy kE kI hh] : List va_W).flatten ++ ([(q, .inl (kL, 1, .inr (.inl o')))] : va_W))) r) 1 6 (va_A ((([COc ca a oa ra sa ha c_tapeLength c_errorAt c_decodedLength, AWc (ca 1) kI 800 f_tape, AWc (ca 2) kI 400 f_dec, EWc a b kI ee, OOc oa ob oo, AWc (oa 1) kI 400 (o_symbols oo), DWc ob kI (o_d oo), TWc (ca 3) tx tt, RWc ra kI rr, SWc sa kI sw, HWc ha ux uy kE kI hh] : List va_W).flatten ++ ([(q, .inl (kL, 1, .inr (.inl o)))] : va_W))) sz) := by
  refine l_start (Qc := fun A => rwQi dC dI A ((([COc ca a oa ra sa ha c_tapeLength c_errorAt c_decodedLength, AWc (ca 1) kI 800 f_tape, AWc (ca 2) kI 400 f_dec, EWc a b kI ee, OOc oa ob oo, AWc (oa 1) kI 400 (o_symbols oo), DWc ob kI (o_d oo), TWc (ca 3) tx tt, RWc ra kI rr, SWc sa kI sw, HWc ha ux uy kE kI hh] : List va_W).flatten ++ ([(q, .inl (kL, 1, .inr (.inl o')))] : va_W))) r) (cc := cL_bitAt) (maxL := 4) (ret := some .int) (hh := [(0, 9, 12, 55)]) (by decide) rfl (Nat.le_of_ble_eq_true rfl) ?_
  intro p e s m args below meth c hx hb hr hml hown hts hlocks hNW hK hT hXN hXE A hA hCE H locs ls hP hD hS hl
  have hown : s.vm.findClass RL = some m.cls := hown
  have hl : lv_has ls 4 [(0, .ref (ca 0)), (1, .int p0), (2, .ref q)] := hl
  refine lv_aload_n hx hb dL_bitAt_0 rfl (lv_at hl 2 rfl) ?_
  refine lv_iconst (v := 0) hx hb dL_bitAt_1 (by decide) ?_
  refine lv_aload_n hx hb dL_bitAt_2 rfl (lv_at hl 0 rfl) ?_
  refine lv_iload_n hx hb dL_bitAt_3 rfl (lv_at hl 1 rfl) ?_
  refine l_Vio (As := [.int p0]) (rest := [.int 0, .ref q]) (wc := ([COc ca a oa ra sa ha c_tapeLength c_errorAt c_decodedLength, AWc (ca 1) kI 800 f_tape, AWc (ca 2) kI 400 f_dec, EWc a b kI ee, OOc oa ob oo, AWc (oa 1) kI 400 (o_symbols oo), DWc ob kI (o_d oo), TWc (ca 3) tx tt, RWc ra kI rr, SWc sa kI sw, HWc ha ux uy kE kI hh] : List va_W).flatten) (wr := [(q, .inl (kL, 1, .inr (.inl o)))]) (ci := 7) (q0 := 0) hx hb hml hown hts (c_X7_bitAt fu l hl0 dC dI K kI kE ca a b oa ob ra sa ha ux uy tx c_tapeLength c_errorAt c_decodedLength f_tape f_dec ee oo tt rr sw hh p0 z hJ) gL_bitAt_X7_bitAt qX7_bitAt rfl ⟨(Nat.le_of_ble_eq_true rfl), (Nat.le_of_ble_eq_true rfl)⟩ ⟨rfl, rfl⟩ hNW hCE hP hD hS hA (hK.sub (tys' := [(kI, .int), (kE, .object "LzwCodec$Encoder")]) [0, 1] rfl) rfl rfl rfl hl.1 rfl rfl (Nat.le_of_ble_eq_true rfl) dL_bitAt_4 ⟨(Nat.le_of_ble_eq_true rfl), (Nat.le_of_ble_eq_true rfl)⟩ (fun E ce q9 H locs hzE hP hD hS g1 g2 g3 => ?_) (fun v H locs hzv hP hD hS => ?_)
  · rcases hz with ⟨v, h1, h2, h3⟩ | ⟨h1, h2, h3⟩
    · exact absurd (hzE.symm.trans h1) (fun h => nomatch h)
    · obtain rfl : E = "java/lang/IndexOutOfBoundsException" := Sum.inr.inj (hzE.symm.trans h1)
      subst h2
      subst h3
      refine l_catch (own := RL) (by decide) hown hXN hXE [] ({ startPc := 0, endPc := 9, handlerPc := 12, catchType := 55 }) [] hT (fun z9 h9 => nomatch h9) rfl (by decide) (hts _ (List.mem_of_getElem? (i := 1) rfl)) g1 g2 g3 ?_
      refine lv_astore_n (lv' := [(3, .ref q9), (0, .ref (ca 0)), (1, .int p0), (2, .ref q)]) hx hb dL_bitAt_12 rfl hl (by decide) rfl (fun ls hl => ?_)
      refine lv_iconst (v := 1) hx hb dL_bitAt_13 (by decide) ?_
      exact rw_iret hx hb hr hlocks rfl hP hD hS dL_bitAt_14
  · rcases hz with ⟨v', h1, h2, h3⟩ | ⟨h1, h2, h3⟩
    · obtain rfl : v = v' := Sum.inl.inj (hzv.symm.trans h1)
      subst h2
      subst h3
      refine lv_i2l (v := v.toInt64) hx hb dL_bitAt_7 rfl ?_
      have hP := hP.perm List.perm_append_comm
      have hD := hD.perm List.perm_append_comm
      refine va_last hx hb hK hP hD hS 0 2 rfl rfl (show ¬ ((0 : Int32) < 0 ∨ 1 ≤ (0 : Int32).toNatClampNeg) by decide) dL_bitAt_8 (fun H locs hP hD hS => ?_)
      have hP := va_P.perm (w2 := ([COc ca a oa ra sa ha c_tapeLength c_errorAt c_decodedLength, AWc (ca 1) kI 800 f_tape, AWc (ca 2) kI 400 f_dec, EWc a b kI ee, OOc oa ob oo, AWc (oa 1) kI 400 (o_symbols oo), DWc ob kI (o_d oo), TWc (ca 3) tx tt, RWc ra kI rr, SWc sa kI sw, HWc ha ux uy kE kI hh] : List va_W).flatten ++ [(q, .inl (kL, 1, .inr (.inl (vp_updL o 0 v.toInt64))))]) List.perm_append_comm hP
      have hD := va_D.perm (w2 := ([COc ca a oa ra sa ha c_tapeLength c_errorAt c_decodedLength, AWc (ca 1) kI 800 f_tape, AWc (ca 2) kI 400 f_dec, EWc a b kI ee, OOc oa ob oo, AWc (oa 1) kI 400 (o_symbols oo), DWc ob kI (o_d oo), TWc (ca 3) tx tt, RWc ra kI rr, SWc sa kI sw, HWc ha ux uy kE kI hh] : List va_W).flatten ++ [(q, .inl (kL, 1, .inr (.inl (vp_updL o 0 v.toInt64))))]) List.perm_append_comm hD
      refine lv_goto (tgt := 15) hx hb dL_bitAt_9 (by decide) ?_
      refine lv_iconst (v := 0) hx hb dL_bitAt_15 (by decide) ?_
      exact rw_iret hx hb hr hlocks rfl hP hD hS dL_bitAt_16
    · exact absurd (hzv.symm.trans h1) (fun h => nomatch h)
theorem qL_byteAt : (yL_byteAt.cls = RL) ∧ yL_byteAt.cls ≠ "java/lang/invoke/MethodHandle" ∧ yL_byteAt.cls ≠ "java/lang/invoke/VarHandle" ∧ (parseMethodDescriptor yL_byteAt.desc).map (fun d => d.parameters.length) = some 3 := by decide +kernel
set_option maxHeartbeats 4000000 in
set_option maxRecDepth 100000 in
theorem c_L_byteAt (fu : Nat) (l : Launch) (hl0 : l.stackTraces = false) (dC : Nat → ClassId) (dI : Nat → Nat → Nat) (K : KT) (kI kE kL : ClassId) (ca : Nat → Nat) (a : Nat → Nat) (b : Nat → Nat) (oa : Nat → Nat) (ob : Nat → Nat) (ra : Nat → Nat) (sa : Nat → Nat) (ha : Nat → Nat) (ux : Nat → Nat → Nat) (uy : Nat → Nat → Nat) (tx : Nat) (c_tapeLength : Int32) (c_errorAt : Int32) (c_decodedLength : Int32) (f_tape : Nat → Int32) (f_dec : Nat → Int32) (ee : ES) (oo : OS) (tt : TS) (rr : RS) (sw : SS) (hh : HS) (p0 : Int32) (q : Nat) (o : Nat → Int64) (sz : Nat) (z : (Int32 ⊕ String)) (hJ : J_X7_byteAt fu f_tape f_dec ee oo tt rr sw hh p0 = some z) (r : Int32) (o' : Nat → Int64) (hz : (∃ v, z = .inl v ∧ r = 0 ∧ o' = vp_updL o 0 v.toInt64) ∨ (z = .inr "java/lang/IndexOutOfBoundsException" ∧ r = 1 ∧ o' = o)) : Met l yL_byteAt wsL_byteAt ({ frames := 8, cells := 1, slots := 6, locals := 132 }) (va_Pc [.ref (ca 0), .int p0, .ref q] (RWl K dC dI sz ((([COc ca a oa ra sa ha c_tapeLength c_errorAt c_decodedLength, AWc (ca 1) kI 800 f_tape, AWc (ca 2) kI 400 f_dec, EWc a b kI ee, OOc oa ob oo, AWc (oa 1) kI 400 (o_symbols oo), DWc ob kI (o_d oo), TWc (ca 3) tx tt, RWc ra kI rr, SWc sa kI sw, HWc ha ux uy kE kI hh] : List va_W).flatten ++ ([(q, .inl (kL, 1, .inr (.inl o)))] : va_W))) [(kI, .int), (kE, .object "LzwCodec$Encoder"), (kL, .long)])) (rwQi dC dI (va_A ((([COc ca a oa ra sa ha c_tapeLength c_errorAt c_decodedLength, AWc (ca 1) kI 800 f_tape, AWc (ca 2) kI 400 f_dec, EWc a b kI ee, OOc oa ob oo, AWc (oa 1) kI 400 (o_symbols oo), DWc ob kI (o_d oo), TWc (ca 3) tx tt, RWc ra kI rr, SWc sa kI sw, HWc ha ux uy kE kI hh] : List va_W).flatten ++ ([(q, .inl (kL, 1, .inr (.inl o)))] : va_W))) sz) ((([COc ca a oa ra sa ha c_tapeLength c_errorAt c_decodedLength, AWc (ca 1) kI 800 f_tape, AWc (ca 2) kI 400 f_dec, EWc a b kI ee, OOc oa ob oo, AWc (oa 1) kI 400 (o_symbols oo), DWc ob kI (o_d oo), TWc (ca 3) tx tt, RWc ra kI rr, SWc sa kI sw, HWc ha ux uy kE kI hh] : List va_W).flatten ++ ([(q, .inl (kL, 1, .inr (.inl o')))] : va_W))) r) 1 6 (va_A ((([COc ca a oa ra sa ha c_tapeLength c_errorAt c_decodedLength, AWc (ca 1) kI 800 f_tape, AWc (ca 2) kI 400 f_dec, EWc a b kI ee, OOc oa ob oo, AWc (oa 1) kI 400 (o_symbols oo), DWc ob kI (o_d oo), TWc (ca 3) tx tt, RWc ra kI rr, SWc sa kI sw, HWc ha ux uy kE kI hh] : List va_W).flatten ++ ([(q, .inl (kL, 1, .inr (.inl o)))] : va_W))) sz) := by
  refine l_start (Qc := fun A => rwQi dC dI A ((([COc ca a oa ra sa ha c_tapeLength c_errorAt c_decodedLength, AWc (ca 1) kI 800 f_tape, AWc (ca 2) kI 400 f_dec, EWc a b kI ee, OOc oa ob oo, AWc (oa 1) kI 400 (o_symbols oo), DWc ob kI (o_d oo), TWc (ca 3) tx tt, RWc ra kI rr, SWc sa kI sw, HWc ha ux uy kE kI hh] : List va_W).flatten ++ ([(q, .inl (kL, 1, .inr (.inl o')))] : va_W))) r) (cc := cL_byteAt) (maxL := 4) (ret := some .int) (hh := [(0, 9, 12, 55)]) (by decide) rfl (Nat.le_of_ble_eq_true rfl) ?_
  intro p e s m args below meth c hx hb hr hml hown hts hlocks hNW hK hT hXN hXE A hA hCE H locs ls hP hD hS hl
  have hown : s.vm.findClass RL = some m.cls := hown
  have hl : lv_has ls 4 [(0, .ref (ca 0)), (1, .int p0), (2, .ref q)] := hl
  refine lv_aload_n hx hb dL_byteAt_0 rfl (lv_at hl 2 rfl) ?_
  refine lv_iconst (v := 0) hx hb dL_byteAt_1 (by decide) ?_
  refine lv_aload_n hx hb dL_byteAt_2 rfl (lv_at hl 0 rfl) ?_
  refine lv_iload_n hx hb dL_byteAt_3 rfl (lv_at hl 1 rfl) ?_
  refine l_Vio (As := [.int p0]) (rest := [.int 0, .ref q]) (wc := ([COc ca a oa ra sa ha c_tapeLength c_errorAt c_decodedLength, AWc (ca 1) kI 800 f_tape, AWc (ca 2) kI 400 f_dec, EWc a b kI ee, OOc oa ob oo, AWc (oa 1) kI 400 (o_symbols oo), DWc ob kI (o_d oo), TWc (ca 3) tx tt, RWc ra kI rr, SWc sa kI sw, HWc ha ux uy kE kI hh] : List va_W).flatten) (wr := [(q, .inl (kL, 1, .inr (.inl o)))]) (ci := 7) (q0 := 0) hx hb hml hown hts (c_X7_byteAt fu l hl0 dC dI K kI kE ca a b oa ob ra sa ha ux uy tx c_tapeLength c_errorAt c_decodedLength f_tape f_dec ee oo tt rr sw hh p0 z hJ) gL_byteAt_X7_byteAt qX7_byteAt rfl ⟨(Nat.le_of_ble_eq_true rfl), (Nat.le_of_ble_eq_true rfl)⟩ ⟨rfl, rfl⟩ hNW hCE hP hD hS hA (hK.sub (tys' := [(kI, .int), (kE, .object "LzwCodec$Encoder")]) [0, 1] rfl) rfl rfl rfl hl.1 rfl rfl (Nat.le_of_ble_eq_true rfl) dL_byteAt_4 ⟨(Nat.le_of_ble_eq_true rfl), (Nat.le_of_ble_eq_true rfl)⟩ (fun E ce q9 H locs hzE hP hD hS g1 g2 g3 => ?_) (fun v H locs hzv hP hD hS => ?_)
  · rcases hz with ⟨v, h1, h2, h3⟩ | ⟨h1, h2, h3⟩
    · exact absurd (hzE.symm.trans h1) (fun h => nomatch h)
    · obtain rfl : E = "java/lang/IndexOutOfBoundsException" := Sum.inr.inj (hzE.symm.trans h1)
      subst h2
      subst h3
      refine l_catch (own := RL) (by decide) hown hXN hXE [] ({ startPc := 0, endPc := 9, handlerPc := 12, catchType := 55 }) [] hT (fun z9 h9 => nomatch h9) rfl (by decide) (hts _ (List.mem_of_getElem? (i := 1) rfl)) g1 g2 g3 ?_
      refine lv_astore_n (lv' := [(3, .ref q9), (0, .ref (ca 0)), (1, .int p0), (2, .ref q)]) hx hb dL_byteAt_12 rfl hl (by decide) rfl (fun ls hl => ?_)
      refine lv_iconst (v := 1) hx hb dL_byteAt_13 (by decide) ?_
      exact rw_iret hx hb hr hlocks rfl hP hD hS dL_byteAt_14
  · rcases hz with ⟨v', h1, h2, h3⟩ | ⟨h1, h2, h3⟩
    · obtain rfl : v = v' := Sum.inl.inj (hzv.symm.trans h1)
      subst h2
      subst h3
      refine lv_i2l (v := v.toInt64) hx hb dL_byteAt_7 rfl ?_
      have hP := hP.perm List.perm_append_comm
      have hD := hD.perm List.perm_append_comm
      refine va_last hx hb hK hP hD hS 0 2 rfl rfl (show ¬ ((0 : Int32) < 0 ∨ 1 ≤ (0 : Int32).toNatClampNeg) by decide) dL_byteAt_8 (fun H locs hP hD hS => ?_)
      have hP := va_P.perm (w2 := ([COc ca a oa ra sa ha c_tapeLength c_errorAt c_decodedLength, AWc (ca 1) kI 800 f_tape, AWc (ca 2) kI 400 f_dec, EWc a b kI ee, OOc oa ob oo, AWc (oa 1) kI 400 (o_symbols oo), DWc ob kI (o_d oo), TWc (ca 3) tx tt, RWc ra kI rr, SWc sa kI sw, HWc ha ux uy kE kI hh] : List va_W).flatten ++ [(q, .inl (kL, 1, .inr (.inl (vp_updL o 0 v.toInt64))))]) List.perm_append_comm hP
      have hD := va_D.perm (w2 := ([COc ca a oa ra sa ha c_tapeLength c_errorAt c_decodedLength, AWc (ca 1) kI 800 f_tape, AWc (ca 2) kI 400 f_dec, EWc a b kI ee, OOc oa ob oo, AWc (oa 1) kI 400 (o_symbols oo), DWc ob kI (o_d oo), TWc (ca 3) tx tt, RWc ra kI rr, SWc sa kI sw, HWc ha ux uy kE kI hh] : List va_W).flatten ++ [(q, .inl (kL, 1, .inr (.inl (vp_updL o 0 v.toInt64))))]) List.perm_append_comm hD
      refine lv_goto (tgt := 15) hx hb dL_byteAt_9 (by decide) ?_
      refine lv_iconst (v := 0) hx hb dL_byteAt_15 (by decide) ?_
      exact rw_iret hx hb hr hlocks rfl hP hD hS dL_byteAt_16
    · exact absurd (hzv.symm.trans h1) (fun h => nomatch h)
theorem qL_decodedSymbol : (yL_decodedSymbol.cls = RL) ∧ yL_decodedSymbol.cls ≠ "java/lang/invoke/MethodHandle" ∧ yL_decodedSymbol.cls ≠ "java/lang/invoke/VarHandle" ∧ (parseMethodDescriptor yL_decodedSymbol.desc).map (fun d => d.parameters.length) = some 3 := by decide +kernel
set_option maxHeartbeats 4000000 in
set_option maxRecDepth 100000 in
theorem c_L_decodedSymbol (l : Launch) (hl0 : l.stackTraces = false) (dC : Nat → ClassId) (dI : Nat → Nat → Nat) (K : KT) (kI kE kL : ClassId) (ca : Nat → Nat) (a : Nat → Nat) (b : Nat → Nat) (oa : Nat → Nat) (ob : Nat → Nat) (ra : Nat → Nat) (sa : Nat → Nat) (ha : Nat → Nat) (ux : Nat → Nat → Nat) (uy : Nat → Nat → Nat) (tx : Nat) (c_tapeLength : Int32) (c_errorAt : Int32) (c_decodedLength : Int32) (f_tape : Nat → Int32) (f_dec : Nat → Int32) (ee : ES) (oo : OS) (tt : TS) (rr : RS) (sw : SS) (hh : HS) (p0 : Int32) (q : Nat) (o : Nat → Int64) (sz : Nat) (z : (Int32 ⊕ String)) (hJ : J_X7_decodedSymbol c_decodedLength f_dec p0 = some z) (r : Int32) (o' : Nat → Int64) (hz : (∃ v, z = .inl v ∧ r = 0 ∧ o' = vp_updL o 0 v.toInt64) ∨ (z = .inr "java/lang/IndexOutOfBoundsException" ∧ r = 1 ∧ o' = o)) : Met l yL_decodedSymbol wsL_decodedSymbol ({ frames := 8, cells := 1, slots := 6, locals := 132 }) (va_Pc [.ref (ca 0), .int p0, .ref q] (RWl K dC dI sz ((([COc ca a oa ra sa ha c_tapeLength c_errorAt c_decodedLength, AWc (ca 1) kI 800 f_tape, AWc (ca 2) kI 400 f_dec, EWc a b kI ee, OOc oa ob oo, AWc (oa 1) kI 400 (o_symbols oo), DWc ob kI (o_d oo), TWc (ca 3) tx tt, RWc ra kI rr, SWc sa kI sw, HWc ha ux uy kE kI hh] : List va_W).flatten ++ ([(q, .inl (kL, 1, .inr (.inl o)))] : va_W))) [(kI, .int), (kE, .object "LzwCodec$Encoder"), (kL, .long)])) (rwQi dC dI (va_A ((([COc ca a oa ra sa ha c_tapeLength c_errorAt c_decodedLength, AWc (ca 1) kI 800 f_tape, AWc (ca 2) kI 400 f_dec, EWc a b kI ee, OOc oa ob oo, AWc (oa 1) kI 400 (o_symbols oo), DWc ob kI (o_d oo), TWc (ca 3) tx tt, RWc ra kI rr, SWc sa kI sw, HWc ha ux uy kE kI hh] : List va_W).flatten ++ ([(q, .inl (kL, 1, .inr (.inl o)))] : va_W))) sz) ((([COc ca a oa ra sa ha c_tapeLength c_errorAt c_decodedLength, AWc (ca 1) kI 800 f_tape, AWc (ca 2) kI 400 f_dec, EWc a b kI ee, OOc oa ob oo, AWc (oa 1) kI 400 (o_symbols oo), DWc ob kI (o_d oo), TWc (ca 3) tx tt, RWc ra kI rr, SWc sa kI sw, HWc ha ux uy kE kI hh] : List va_W).flatten ++ ([(q, .inl (kL, 1, .inr (.inl o')))] : va_W))) r) 1 6 (va_A ((([COc ca a oa ra sa ha c_tapeLength c_errorAt c_decodedLength, AWc (ca 1) kI 800 f_tape, AWc (ca 2) kI 400 f_dec, EWc a b kI ee, OOc oa ob oo, AWc (oa 1) kI 400 (o_symbols oo), DWc ob kI (o_d oo), TWc (ca 3) tx tt, RWc ra kI rr, SWc sa kI sw, HWc ha ux uy kE kI hh] : List va_W).flatten ++ ([(q, .inl (kL, 1, .inr (.inl o)))] : va_W))) sz) := by
  refine l_start (Qc := fun A => rwQi dC dI A ((([COc ca a oa ra sa ha c_tapeLength c_errorAt c_decodedLength, AWc (ca 1) kI 800 f_tape, AWc (ca 2) kI 400 f_dec, EWc a b kI ee, OOc oa ob oo, AWc (oa 1) kI 400 (o_symbols oo), DWc ob kI (o_d oo), TWc (ca 3) tx tt, RWc ra kI rr, SWc sa kI sw, HWc ha ux uy kE kI hh] : List va_W).flatten ++ ([(q, .inl (kL, 1, .inr (.inl o')))] : va_W))) r) (cc := cL_decodedSymbol) (maxL := 4) (ret := some .int) (hh := [(0, 9, 12, 55)]) (by decide) rfl (Nat.le_of_ble_eq_true rfl) ?_
  intro p e s m args below meth c hx hb hr hml hown hts hlocks hNW hK hT hXN hXE A hA hCE H locs ls hP hD hS hl
  have hown : s.vm.findClass RL = some m.cls := hown
  have hl : lv_has ls 4 [(0, .ref (ca 0)), (1, .int p0), (2, .ref q)] := hl
  refine lv_aload_n hx hb dL_decodedSymbol_0 rfl (lv_at hl 2 rfl) ?_
  refine lv_iconst (v := 0) hx hb dL_decodedSymbol_1 (by decide) ?_
  refine lv_aload_n hx hb dL_decodedSymbol_2 rfl (lv_at hl 0 rfl) ?_
  refine lv_iload_n hx hb dL_decodedSymbol_3 rfl (lv_at hl 1 rfl) ?_
  refine l_Vio (As := [.int p0]) (rest := [.int 0, .ref q]) (wc := ([COc ca a oa ra sa ha c_tapeLength c_errorAt c_decodedLength, AWc (ca 1) kI 800 f_tape, AWc (ca 2) kI 400 f_dec, EWc a b kI ee, OOc oa ob oo, AWc (oa 1) kI 400 (o_symbols oo), DWc ob kI (o_d oo), TWc (ca 3) tx tt, RWc ra kI rr, SWc sa kI sw, HWc ha ux uy kE kI hh] : List va_W).flatten) (wr := [(q, .inl (kL, 1, .inr (.inl o)))]) (ci := 7) (q0 := 0) hx hb hml hown hts (c_X7_decodedSymbol l hl0 dC dI K kI kE ca a b oa ob ra sa ha ux uy tx c_tapeLength c_errorAt c_decodedLength f_tape f_dec ee oo tt rr sw hh p0 z hJ) gL_decodedSymbol_X7_decodedSymbol qX7_decodedSymbol rfl ⟨(Nat.le_of_ble_eq_true rfl), (Nat.le_of_ble_eq_true rfl)⟩ ⟨rfl, rfl⟩ hNW hCE hP hD hS hA (hK.sub (tys' := [(kI, .int), (kE, .object "LzwCodec$Encoder")]) [0, 1] rfl) rfl rfl rfl hl.1 rfl rfl (Nat.le_of_ble_eq_true rfl) dL_decodedSymbol_4 ⟨(Nat.le_of_ble_eq_true rfl), (Nat.le_of_ble_eq_true rfl)⟩ (fun E ce q9 H locs hzE hP hD hS g1 g2 g3 => ?_) (fun v H locs hzv hP hD hS => ?_)
  · rcases hz with ⟨v, h1, h2, h3⟩ | ⟨h1, h2, h3⟩
    · exact absurd (hzE.symm.trans h1) (fun h => nomatch h)
    · obtain rfl : E = "java/lang/IndexOutOfBoundsException" := Sum.inr.inj (hzE.symm.trans h1)
      subst h2
      subst h3
      refine l_catch (own := RL) (by decide) hown hXN hXE [] ({ startPc := 0, endPc := 9, handlerPc := 12, catchType := 55 }) [] hT (fun z9 h9 => nomatch h9) rfl (by decide) (hts _ (List.mem_of_getElem? (i := 1) rfl)) g1 g2 g3 ?_
      refine lv_astore_n (lv' := [(3, .ref q9), (0, .ref (ca 0)), (1, .int p0), (2, .ref q)]) hx hb dL_decodedSymbol_12 rfl hl (by decide) rfl (fun ls hl => ?_)
      refine lv_iconst (v := 1) hx hb dL_decodedSymbol_13 (by decide) ?_
      exact rw_iret hx hb hr hlocks rfl hP hD hS dL_decodedSymbol_14
  · rcases hz with ⟨v', h1, h2, h3⟩ | ⟨h1, h2, h3⟩
    · obtain rfl : v = v' := Sum.inl.inj (hzv.symm.trans h1)
      subst h2
      subst h3
      refine lv_i2l (v := v.toInt64) hx hb dL_decodedSymbol_7 rfl ?_
      have hP := hP.perm List.perm_append_comm
      have hD := hD.perm List.perm_append_comm
      refine va_last hx hb hK hP hD hS 0 2 rfl rfl (show ¬ ((0 : Int32) < 0 ∨ 1 ≤ (0 : Int32).toNatClampNeg) by decide) dL_decodedSymbol_8 (fun H locs hP hD hS => ?_)
      have hP := va_P.perm (w2 := ([COc ca a oa ra sa ha c_tapeLength c_errorAt c_decodedLength, AWc (ca 1) kI 800 f_tape, AWc (ca 2) kI 400 f_dec, EWc a b kI ee, OOc oa ob oo, AWc (oa 1) kI 400 (o_symbols oo), DWc ob kI (o_d oo), TWc (ca 3) tx tt, RWc ra kI rr, SWc sa kI sw, HWc ha ux uy kE kI hh] : List va_W).flatten ++ [(q, .inl (kL, 1, .inr (.inl (vp_updL o 0 v.toInt64))))]) List.perm_append_comm hP
      have hD := va_D.perm (w2 := ([COc ca a oa ra sa ha c_tapeLength c_errorAt c_decodedLength, AWc (ca 1) kI 800 f_tape, AWc (ca 2) kI 400 f_dec, EWc a b kI ee, OOc oa ob oo, AWc (oa 1) kI 400 (o_symbols oo), DWc ob kI (o_d oo), TWc (ca 3) tx tt, RWc ra kI rr, SWc sa kI sw, HWc ha ux uy kE kI hh] : List va_W).flatten ++ [(q, .inl (kL, 1, .inr (.inl (vp_updL o 0 v.toInt64))))]) List.perm_append_comm hD
      refine lv_goto (tgt := 15) hx hb dL_decodedSymbol_9 (by decide) ?_
      refine lv_iconst (v := 0) hx hb dL_decodedSymbol_15 (by decide) ?_
      exact rw_iret hx hb hr hlocks rfl hP hD hS dL_decodedSymbol_16
    · exact absurd (hzv.symm.trans h1) (fun h => nomatch h)
theorem qL_setupByte : (yL_setupByte.cls = RL) ∧ yL_setupByte.cls ≠ "java/lang/invoke/MethodHandle" ∧ yL_setupByte.cls ≠ "java/lang/invoke/VarHandle" ∧ (parseMethodDescriptor yL_setupByte.desc).map (fun d => d.parameters.length) = some 3 := by decide +kernel
set_option maxHeartbeats 4000000 in
set_option maxRecDepth 100000 in
theorem c_L_setupByte (fu : Nat) (l : Launch) (hl0 : l.stackTraces = false) (dC : Nat → ClassId) (dI : Nat → Nat → Nat) (K : KT) (kI kE kL : ClassId) (ca : Nat → Nat) (a : Nat → Nat) (b : Nat → Nat) (oa : Nat → Nat) (ob : Nat → Nat) (ra : Nat → Nat) (sa : Nat → Nat) (ha : Nat → Nat) (ux : Nat → Nat → Nat) (uy : Nat → Nat → Nat) (tx : Nat) (c_tapeLength : Int32) (c_errorAt : Int32) (c_decodedLength : Int32) (f_tape : Nat → Int32) (f_dec : Nat → Int32) (ee : ES) (oo : OS) (tt : TS) (rr : RS) (sw : SS) (hh : HS) (p0 : Int32) (q : Nat) (o : Nat → Int64) (sz : Nat) (z : (Int32 ⊕ String) × SS) (hJ : J_X7_setupByte fu ee sw p0 = some z) (r : Int32) (o' : Nat → Int64) (hz : (∃ v, z.1 = .inl v ∧ r = 0 ∧ o' = vp_updL o 0 v.toInt64) ∨ (z.1 = .inr "java/lang/IndexOutOfBoundsException" ∧ r = 1 ∧ o' = o)) : Met l yL_setupByte wsL_setupByte ({ frames := 8, cells := 1, slots := 6, locals := 149 }) (va_Pc [.ref (ca 0), .int p0, .ref q] (RWl K dC dI sz ((([COc ca a oa ra sa ha c_tapeLength c_errorAt c_decodedLength, AWc (ca 1) kI 800 f_tape, AWc (ca 2) kI 400 f_dec, EWc a b kI ee, OOc oa ob oo, AWc (oa 1) kI 400 (o_symbols oo), DWc ob kI (o_d oo), TWc (ca 3) tx tt, RWc ra kI rr, SWc sa kI sw, HWc ha ux uy kE kI hh] : List va_W).flatten ++ ([(q, .inl (kL, 1, .inr (.inl o)))] : va_W))) [(kI, .int), (kE, .object "LzwCodec$Encoder"), (kL, .long)])) (rwQi dC dI (va_A ((([COc ca a oa ra sa ha c_tapeLength c_errorAt c_decodedLength, AWc (ca 1) kI 800 f_tape, AWc (ca 2) kI 400 f_dec, EWc a b kI ee, OOc oa ob oo, AWc (oa 1) kI 400 (o_symbols oo), DWc ob kI (o_d oo), TWc (ca 3) tx tt, RWc ra kI rr, SWc sa kI sw, HWc ha ux uy kE kI hh] : List va_W).flatten ++ ([(q, .inl (kL, 1, .inr (.inl o)))] : va_W))) sz) ((([COc ca a oa ra sa ha c_tapeLength c_errorAt c_decodedLength, AWc (ca 1) kI 800 f_tape, AWc (ca 2) kI 400 f_dec, EWc a b kI ee, OOc oa ob oo, AWc (oa 1) kI 400 (o_symbols oo), DWc ob kI (o_d oo), TWc (ca 3) tx tt, RWc ra kI rr, SWc sa kI z.2, HWc ha ux uy kE kI hh] : List va_W).flatten ++ ([(q, .inl (kL, 1, .inr (.inl o')))] : va_W))) r) 1 6 (va_A ((([COc ca a oa ra sa ha c_tapeLength c_errorAt c_decodedLength, AWc (ca 1) kI 800 f_tape, AWc (ca 2) kI 400 f_dec, EWc a b kI ee, OOc oa ob oo, AWc (oa 1) kI 400 (o_symbols oo), DWc ob kI (o_d oo), TWc (ca 3) tx tt, RWc ra kI rr, SWc sa kI sw, HWc ha ux uy kE kI hh] : List va_W).flatten ++ ([(q, .inl (kL, 1, .inr (.inl o)))] : va_W))) sz) := by
  refine l_start (Qc := fun A => rwQi dC dI A ((([COc ca a oa ra sa ha c_tapeLength c_errorAt c_decodedLength, AWc (ca 1) kI 800 f_tape, AWc (ca 2) kI 400 f_dec, EWc a b kI ee, OOc oa ob oo, AWc (oa 1) kI 400 (o_symbols oo), DWc ob kI (o_d oo), TWc (ca 3) tx tt, RWc ra kI rr, SWc sa kI z.2, HWc ha ux uy kE kI hh] : List va_W).flatten ++ ([(q, .inl (kL, 1, .inr (.inl o')))] : va_W))) r) (cc := cL_setupByte) (maxL := 4) (ret := some .int) (hh := [(0, 9, 12, 55)]) (by decide) rfl (Nat.le_of_ble_eq_true rfl) ?_
  intro p e s m args below meth c hx hb hr hml hown hts hlocks hNW hK hT hXN hXE A hA hCE H locs ls hP hD hS hl
  have hown : s.vm.findClass RL = some m.cls := hown
  have hl : lv_has ls 4 [(0, .ref (ca 0)), (1, .int p0), (2, .ref q)] := hl
  refine lv_aload_n hx hb dL_setupByte_0 rfl (lv_at hl 2 rfl) ?_
  refine lv_iconst (v := 0) hx hb dL_setupByte_1 (by decide) ?_
  refine lv_aload_n hx hb dL_setupByte_2 rfl (lv_at hl 0 rfl) ?_
  refine lv_iload_n hx hb dL_setupByte_3 rfl (lv_at hl 1 rfl) ?_
  refine l_Vi (As := [.int p0]) (rest := [.int 0, .ref q]) (wc := ([COc ca a oa ra sa ha c_tapeLength c_errorAt c_decodedLength, AWc (ca 1) kI 800 f_tape, AWc (ca 2) kI 400 f_dec, EWc a b kI ee, OOc oa ob oo, AWc (oa 1) kI 400 (o_symbols oo), DWc ob kI (o_d oo), TWc (ca 3) tx tt, RWc ra kI rr, SWc sa kI sw, HWc ha ux uy kE kI hh] : List va_W).flatten) (wr := [(q, .inl (kL, 1, .inr (.inl o)))]) (wc' := ([COc ca a oa ra sa ha c_tapeLength c_errorAt c_decodedLength, AWc (ca 1) kI 800 f_tape, AWc (ca 2) kI 400 f_dec, EWc a b kI ee, OOc oa ob oo, AWc (oa 1) kI 400 (o_symbols oo), DWc ob kI (o_d oo), TWc (ca 3) tx tt, RWc ra kI rr, SWc sa kI z.2, HWc ha ux uy kE kI hh] : List va_W).flatten) (ci := 7) (q0 := 0) hx hb hml hown hts (c_X7_setupByte fu l hl0 dC dI K kI kE ca a b oa ob ra sa ha ux uy tx c_tapeLength c_errorAt c_decodedLength f_tape f_dec ee oo tt rr sw hh p0 H.size z hJ) gL_setupByte_X7_setupByte qX7_setupByte rfl ⟨(Nat.le_of_ble_eq_true rfl), (Nat.le_of_ble_eq_true rfl)⟩ ⟨rfl, rfl⟩ hNW hCE hP hD hS hA (hK.sub (tys' := [(kI, .int), (kE, .object "LzwCodec$Encoder")]) [0, 1] rfl) rfl rfl rfl hl.1 rfl rfl (Nat.le_of_ble_eq_true rfl) dL_setupByte_4 ⟨(Nat.le_of_ble_eq_true rfl), (Nat.le_of_ble_eq_true rfl)⟩ (fun E ce q9 H locs hzE hP hD hS g1 g2 g3 => ?_) (fun v H locs hzv hP hD hS => ?_)
  · rcases hz with ⟨v, h1, h2, h3⟩ | ⟨h1, h2, h3⟩
    · exact absurd (hzE.symm.trans h1) (fun h => nomatch h)
    · obtain rfl : E = "java/lang/IndexOutOfBoundsException" := Sum.inr.inj (hzE.symm.trans h1)
      subst h2
      subst h3
      refine l_catch (own := RL) (by decide) hown hXN hXE [] ({ startPc := 0, endPc := 9, handlerPc := 12, catchType := 55 }) [] hT (fun z9 h9 => nomatch h9) rfl (by decide) (hts _ (List.mem_of_getElem? (i := 1) rfl)) g1 g2 g3 ?_
      refine lv_astore_n (lv' := [(3, .ref q9), (0, .ref (ca 0)), (1, .int p0), (2, .ref q)]) hx hb dL_setupByte_12 rfl hl (by decide) rfl (fun ls hl => ?_)
      refine lv_iconst (v := 1) hx hb dL_setupByte_13 (by decide) ?_
      exact rw_iret hx hb hr hlocks rfl hP hD hS dL_setupByte_14
  · rcases hz with ⟨v', h1, h2, h3⟩ | ⟨h1, h2, h3⟩
    · obtain rfl : v = v' := Sum.inl.inj (hzv.symm.trans h1)
      subst h2
      subst h3
      refine lv_i2l (v := v.toInt64) hx hb dL_setupByte_7 rfl ?_
      have hP := hP.perm List.perm_append_comm
      have hD := hD.perm List.perm_append_comm
      refine va_last hx hb hK hP hD hS 0 2 rfl rfl (show ¬ ((0 : Int32) < 0 ∨ 1 ≤ (0 : Int32).toNatClampNeg) by decide) dL_setupByte_8 (fun H locs hP hD hS => ?_)
      have hP := va_P.perm (w2 := ([COc ca a oa ra sa ha c_tapeLength c_errorAt c_decodedLength, AWc (ca 1) kI 800 f_tape, AWc (ca 2) kI 400 f_dec, EWc a b kI ee, OOc oa ob oo, AWc (oa 1) kI 400 (o_symbols oo), DWc ob kI (o_d oo), TWc (ca 3) tx tt, RWc ra kI rr, SWc sa kI z.2, HWc ha ux uy kE kI hh] : List va_W).flatten ++ [(q, .inl (kL, 1, .inr (.inl (vp_updL o 0 v.toInt64))))]) List.perm_append_comm hP
      have hD := va_D.perm (w2 := ([COc ca a oa ra sa ha c_tapeLength c_errorAt c_decodedLength, AWc (ca 1) kI 800 f_tape, AWc (ca 2) kI 400 f_dec, EWc a b kI ee, OOc oa ob oo, AWc (oa 1) kI 400 (o_symbols oo), DWc ob kI (o_d oo), TWc (ca 3) tx tt, RWc ra kI rr, SWc sa kI z.2, HWc ha ux uy kE kI hh] : List va_W).flatten ++ [(q, .inl (kL, 1, .inr (.inl (vp_updL o 0 v.toInt64))))]) List.perm_append_comm hD
      refine lv_goto (tgt := 15) hx hb dL_setupByte_9 (by decide) ?_
      refine lv_iconst (v := 0) hx hb dL_setupByte_15 (by decide) ?_
      exact rw_iret hx hb hr hlocks rfl hP hD hS dL_setupByte_16
    · exact absurd (hzv.symm.trans h1) (fun h => nomatch h)
