theorem qX7_clearCode : (yX7_clearCode.cls = RX7) ∧ yX7_clearCode.cls ≠ "java/lang/invoke/MethodHandle" ∧ yX7_clearCode.cls ≠ "java/lang/invoke/VarHandle" ∧ (parseMethodDescriptor yX7_clearCode.desc).map (fun d => d.parameters.length) = some 0 := by decide +kernel
set_option maxHeartbeats 4000000 in
set_option maxRecDepth 100000 in
theorem c_X7_clearCode (l : Launch) (dC : Nat → ClassId) (dI : Nat → Nat → Nat) (kI kE : ClassId) (ca : Nat → Nat) (a : Nat → Nat) (b : Nat → Nat) (oa : Nat → Nat) (ob : Nat → Nat) (ra : Nat → Nat) (sa : Nat → Nat) (ha : Nat → Nat) (ux : Nat → Nat → Nat) (uy : Nat → Nat → Nat) (tx : Nat) (c_tapeLength : Int32) (c_errorAt : Int32) (c_decodedLength : Int32) (f_tape : Nat → Int32) (f_dec : Nat → Int32) (ee : ES) (oo : OS) (tt : TS) (rr : RS) (sw : SS) (hh : HS) (z : Int32) (hJ : J_X7_clearCode ee = some z) : Met l yX7_clearCode wsX7_clearCode ({ frames := 0, cells := 0, slots := 0, locals := 0 }) (va_Pc [.ref (ca 0)] (ROp dC dI (([COc ca a oa ra sa ha c_tapeLength c_errorAt c_decodedLength, AWc (ca 1) kI 800 f_tape, AWc (ca 2) kI 400 f_dec, EWc a b kI ee, OOc oa ob oo, AWc (oa 1) kI 400 (o_symbols oo), DWc ob kI (o_d oo), TWc (ca 3) tx tt, RWc ra kI rr, SWc sa kI sw, HWc ha ux uy kE kI hh] : List va_W).flatten) [(kI, .int), (kE, .object "LzwCodec$Encoder")])) (roQi z) 0 0 (fun _ => False) := by
  refine ro_start (cc := cX7_clearCode) (maxL := 1) (ret := (some .int)) (by decide) rfl (Nat.le_of_ble_eq_true rfl) ?_
  intro p e s m args below meth c hx hb hr hml hown hts hlocks hNW hK H locs ls hP hS hl
  have hown : s.vm.findClass RX7 = some m.cls := hown
  have hl : lv_has ls 1 [(0, .ref (ca 0))] := hl
  unfold J_X7_clearCode at hJ
  refine lv_aload_n hx hb dX7_clearCode_0 rfl (lv_at hl 0 rfl) ?_
  refine va_get (D := (dC, dI)) (ci := 7) (v := .ref (a 0)) (C := RX7) (T := TX7) (N := 11) hx hb hts (fun _ h => List.mem_cons_of_mem _ (List.mem_append_left _ (List.mem_append_left _ (List.mem_append_right _ h)))) hown hK hP 0 rfl rfl 3 (by decide) (hts _ (List.mem_of_getElem? (i := 1) rfl)) (fun _ h9 => h9) rfl dX7_clearCode_1 ?_
  refine va_getN (D := (dC, dI)) (ci := 2) (v := .ref (b 0)) (C := RX2) (T := TX2) (N := 14) hx hb hts (fun _ h => List.mem_cons_of_mem _ (List.mem_append_left _ (List.mem_append_right _ h))) hown hK hP 3 rfl rfl 0 (by decide) (hNW.use (i := 11) rfl) (fun _ h9 => h9) rfl dX7_clearCode_4 ?_
  refine va_getN (D := (dC, dI)) (ci := 1) (v := .int (d_alphabet (e_d ee))) (C := RX1) (T := TX1) (N := 8) hx hb hts (fun _ h => List.mem_cons_of_mem _ (List.mem_append_right _ h)) hown hK hP 7 rfl rfl 5 (by decide) (hNW.use (i := 4) rfl) (fun _ h9 => h9) rfl dX7_clearCode_7 ?_
  exact ro_iret hx hb hr hlocks hS hJ dX7_clearCode_10
theorem qX7_codeCount : (yX7_codeCount.cls = RX7) ∧ yX7_codeCount.cls ≠ "java/lang/invoke/MethodHandle" ∧ yX7_codeCount.cls ≠ "java/lang/invoke/VarHandle" ∧ (parseMethodDescriptor yX7_codeCount.desc).map (fun d => d.parameters.length) = some 0 := by decide +kernel
set_option maxHeartbeats 4000000 in
set_option maxRecDepth 100000 in
theorem c_X7_codeCount (l : Launch) (dC : Nat → ClassId) (dI : Nat → Nat → Nat) (kI kE : ClassId) (ca : Nat → Nat) (a : Nat → Nat) (b : Nat → Nat) (oa : Nat → Nat) (ob : Nat → Nat) (ra : Nat → Nat) (sa : Nat → Nat) (ha : Nat → Nat) (ux : Nat → Nat → Nat) (uy : Nat → Nat → Nat) (tx : Nat) (c_tapeLength : Int32) (c_errorAt : Int32) (c_decodedLength : Int32) (f_tape : Nat → Int32) (f_dec : Nat → Int32) (ee : ES) (oo : OS) (tt : TS) (rr : RS) (sw : SS) (hh : HS) (z : Int32) (hJ : J_X7_codeCount ee = some z) : Met l yX7_codeCount wsX7_codeCount ({ frames := 0, cells := 0, slots := 0, locals := 0 }) (va_Pc [.ref (ca 0)] (ROp dC dI (([COc ca a oa ra sa ha c_tapeLength c_errorAt c_decodedLength, AWc (ca 1) kI 800 f_tape, AWc (ca 2) kI 400 f_dec, EWc a b kI ee, OOc oa ob oo, AWc (oa 1) kI 400 (o_symbols oo), DWc ob kI (o_d oo), TWc (ca 3) tx tt, RWc ra kI rr, SWc sa kI sw, HWc ha ux uy kE kI hh] : List va_W).flatten) [(kI, .int), (kE, .object "LzwCodec$Encoder")])) (roQi z) 0 0 (fun _ => False) := by
  refine ro_start (cc := cX7_codeCount) (maxL := 1) (ret := (some .int)) (by decide) rfl (Nat.le_of_ble_eq_true rfl) ?_
  intro p e s m args below meth c hx hb hr hml hown hts hlocks hNW hK H locs ls hP hS hl
  have hown : s.vm.findClass RX7 = some m.cls := hown
  have hl : lv_has ls 1 [(0, .ref (ca 0))] := hl
  unfold J_X7_codeCount at hJ
  refine lv_aload_n hx hb dX7_codeCount_0 rfl (lv_at hl 0 rfl) ?_
  refine va_get (D := (dC, dI)) (ci := 7) (v := .ref (a 0)) (C := RX7) (T := TX7) (N := 11) hx hb hts (fun _ h => List.mem_cons_of_mem _ (List.mem_append_left _ (List.mem_append_left _ (List.mem_append_right _ h)))) hown hK hP 0 rfl rfl 3 (by decide) (hts _ (List.mem_of_getElem? (i := 1) rfl)) (fun _ h9 => h9) rfl dX7_codeCount_1 ?_
  refine va_getN (D := (dC, dI)) (ci := 2) (v := .ref (b 0)) (C := RX2) (T := TX2) (N := 14) hx hb hts (fun _ h => List.mem_cons_of_mem _ (List.mem_append_left _ (List.mem_append_right _ h))) hown hK hP 3 rfl rfl 0 (by decide) (hNW.use (i := 11) rfl) (fun _ h9 => h9) rfl dX7_codeCount_4 ?_
  refine va_getN (D := (dC, dI)) (ci := 1) (v := .int (d_count (e_d ee))) (C := RX1) (T := TX1) (N := 8) hx hb hts (fun _ h => List.mem_cons_of_mem _ (List.mem_append_right _ h)) hown hK hP 7 rfl rfl 7 (by decide) (hNW.use (i := 9) rfl) (fun _ h9 => h9) rfl dX7_codeCount_7 ?_
  exact ro_iret hx hb hr hlocks hS hJ dX7_codeCount_10
theorem qX7_capacity : (yX7_capacity.cls = RX7) ∧ yX7_capacity.cls ≠ "java/lang/invoke/MethodHandle" ∧ yX7_capacity.cls ≠ "java/lang/invoke/VarHandle" ∧ (parseMethodDescriptor yX7_capacity.desc).map (fun d => d.parameters.length) = some 0 := by decide +kernel
set_option maxHeartbeats 4000000 in
set_option maxRecDepth 100000 in
theorem c_X7_capacity (l : Launch) (dC : Nat → ClassId) (dI : Nat → Nat → Nat) (kI kE : ClassId) (ca : Nat → Nat) (a : Nat → Nat) (b : Nat → Nat) (oa : Nat → Nat) (ob : Nat → Nat) (ra : Nat → Nat) (sa : Nat → Nat) (ha : Nat → Nat) (ux : Nat → Nat → Nat) (uy : Nat → Nat → Nat) (tx : Nat) (c_tapeLength : Int32) (c_errorAt : Int32) (c_decodedLength : Int32) (f_tape : Nat → Int32) (f_dec : Nat → Int32) (ee : ES) (oo : OS) (tt : TS) (rr : RS) (sw : SS) (hh : HS) (z : Int32) (hJ : J_X7_capacity ee = some z) : Met l yX7_capacity wsX7_capacity ({ frames := 1, cells := 0, slots := 0, locals := 20 }) (va_Pc [.ref (ca 0)] (ROp dC dI (([COc ca a oa ra sa ha c_tapeLength c_errorAt c_decodedLength, AWc (ca 1) kI 800 f_tape, AWc (ca 2) kI 400 f_dec, EWc a b kI ee, OOc oa ob oo, AWc (oa 1) kI 400 (o_symbols oo), DWc ob kI (o_d oo), TWc (ca 3) tx tt, RWc ra kI rr, SWc sa kI sw, HWc ha ux uy kE kI hh] : List va_W).flatten) [(kI, .int), (kE, .object "LzwCodec$Encoder")])) (roQi z) 0 0 (fun _ => False) := by
  refine ro_start (cc := cX7_capacity) (maxL := 1) (ret := (some .int)) (by decide) rfl (Nat.le_of_ble_eq_true rfl) ?_
  intro p e s m args below meth c hx hb hr hml hown hts hlocks hNW hK H locs ls hP hS hl
  have hown : s.vm.findClass RX7 = some m.cls := hown
  have hl : lv_has ls 1 [(0, .ref (ca 0))] := hl
  unfold J_X7_capacity at hJ
  refine lv_aload_n hx hb dX7_capacity_0 rfl (lv_at hl 0 rfl) ?_
  refine va_get (D := (dC, dI)) (ci := 7) (v := .ref (a 0)) (C := RX7) (T := TX7) (N := 11) hx hb hts (fun _ h => List.mem_cons_of_mem _ (List.mem_append_left _ (List.mem_append_left _ (List.mem_append_right _ h)))) hown hK hP 0 rfl rfl 3 (by decide) (hts _ (List.mem_of_getElem? (i := 1) rfl)) (fun _ h9 => h9) rfl dX7_capacity_1 ?_
  refine va_getN (D := (dC, dI)) (ci := 2) (v := .ref (b 0)) (C := RX2) (T := TX2) (N := 14) hx hb hts (fun _ h => List.mem_cons_of_mem _ (List.mem_append_left _ (List.mem_append_right _ h))) hown hK hP 3 rfl rfl 0 (by decide) (hNW.use (i := 11) rfl) (fun _ h9 => h9) rfl dX7_capacity_4 ?_
  obtain ⟨z1, e2, hJ⟩ := bnd hJ
  refine roVi (As := []) (rest := []) (ci := 1) (q0 := 0) hx hb hml hown hts (c_X1_room l dC dI kI b (e_d ee) z1 e2) gX7_capacity_X1_room qX1_room rfl ⟨Nat.le_of_ble_eq_true rfl, Nat.le_of_ble_eq_true rfl⟩ ⟨rfl, rfl⟩ hNW hK hP hS (hP.sub (ws' := DWc b kI (e_d ee)) [7, 8, 9, 10, 11, 12] rfl) (hK.sub (tys' := [(kI, .int)]) [0] rfl) rfl rfl rfl hl.1 rfl rfl (Nat.le_of_ble_eq_true rfl) dX7_capacity_7 z0 (fun H locs hP hS => ?_)
  exact ro_iret hx hb hr hlocks hS hJ dX7_capacity_10
theorem qX7_isFull : (yX7_isFull.cls = RX7) ∧ yX7_isFull.cls ≠ "java/lang/invoke/MethodHandle" ∧ yX7_isFull.cls ≠ "java/lang/invoke/VarHandle" ∧ (parseMethodDescriptor yX7_isFull.desc).map (fun d => d.parameters.length) = some 0 := by decide +kernel
set_option maxHeartbeats 4000000 in
set_option maxRecDepth 100000 in
theorem c_X7_isFull (l : Launch) (dC : Nat → ClassId) (dI : Nat → Nat → Nat) (kI kE : ClassId) (ca : Nat → Nat) (a : Nat → Nat) (b : Nat → Nat) (oa : Nat → Nat) (ob : Nat → Nat) (ra : Nat → Nat) (sa : Nat → Nat) (ha : Nat → Nat) (ux : Nat → Nat → Nat) (uy : Nat → Nat → Nat) (tx : Nat) (c_tapeLength : Int32) (c_errorAt : Int32) (c_decodedLength : Int32) (f_tape : Nat → Int32) (f_dec : Nat → Int32) (ee : ES) (oo : OS) (tt : TS) (rr : RS) (sw : SS) (hh : HS) (z : Int32) (hJ : J_X7_isFull ee = some z) : Met l yX7_isFull wsX7_isFull ({ frames := 2, cells := 0, slots := 0, locals := 40 }) (va_Pc [.ref (ca 0)] (ROp dC dI (([COc ca a oa ra sa ha c_tapeLength c_errorAt c_decodedLength, AWc (ca 1) kI 800 f_tape, AWc (ca 2) kI 400 f_dec, EWc a b kI ee, OOc oa ob oo, AWc (oa 1) kI 400 (o_symbols oo), DWc ob kI (o_d oo), TWc (ca 3) tx tt, RWc ra kI rr, SWc sa kI sw, HWc ha ux uy kE kI hh] : List va_W).flatten) [(kI, .int), (kE, .object "LzwCodec$Encoder")])) (roQi z) 0 0 (fun _ => False) := by
  refine ro_start (cc := cX7_isFull) (maxL := 1) (ret := (some .boolean)) (by decide) rfl (Nat.le_of_ble_eq_true rfl) ?_
  intro p e s m args below meth c hx hb hr hml hown hts hlocks hNW hK H locs ls hP hS hl
  have hown : s.vm.findClass RX7 = some m.cls := hown
  have hl : lv_has ls 1 [(0, .ref (ca 0))] := hl
  unfold J_X7_isFull at hJ
  refine lv_aload_n hx hb dX7_isFull_0 rfl (lv_at hl 0 rfl) ?_
  refine va_get (D := (dC, dI)) (ci := 7) (v := .ref (a 0)) (C := RX7) (T := TX7) (N := 11) hx hb hts (fun _ h => List.mem_cons_of_mem _ (List.mem_append_left _ (List.mem_append_left _ (List.mem_append_right _ h)))) hown hK hP 0 rfl rfl 3 (by decide) (hts _ (List.mem_of_getElem? (i := 1) rfl)) (fun _ h9 => h9) rfl dX7_isFull_1 ?_
  refine va_getN (D := (dC, dI)) (ci := 2) (v := .ref (b 0)) (C := RX2) (T := TX2) (N := 14) hx hb hts (fun _ h => List.mem_cons_of_mem _ (List.mem_append_left _ (List.mem_append_right _ h))) hown hK hP 3 rfl rfl 0 (by decide) (hNW.use (i := 11) rfl) (fun _ h9 => h9) rfl dX7_isFull_4 ?_
  obtain ⟨z1, e2, hJ⟩ := bnd hJ
  refine roVi (As := []) (rest := []) (ci := 1) (q0 := 0) hx hb hml hown hts (c_X1_hasNoRoom l dC dI kI b (e_d ee) z1 e2) gX7_isFull_X1_hasNoRoom qX1_hasNoRoom rfl ⟨Nat.le_of_ble_eq_true rfl, Nat.le_of_ble_eq_true rfl⟩ ⟨rfl, rfl⟩ hNW hK hP hS (hP.sub (ws' := DWc b kI (e_d ee)) [7, 8, 9, 10, 11, 12] rfl) (hK.sub (tys' := [(kI, .int)]) [0] rfl) rfl rfl rfl hl.1 rfl rfl (Nat.le_of_ble_eq_true rfl) dX7_isFull_7 z0 (fun H locs hP hS => ?_)
  obtain ⟨h3, hJ⟩ := ite_some hJ
  exact ro_zret hx hb hr hlocks (nar_z h3) hS hJ dX7_isFull_10
theorem qX7_codeWidth : (yX7_codeWidth.cls = RX7) ∧ yX7_codeWidth.cls ≠ "java/lang/invoke/MethodHandle" ∧ yX7_codeWidth.cls ≠ "java/lang/invoke/VarHandle" ∧ (parseMethodDescriptor yX7_codeWidth.desc).map (fun d => d.parameters.length) = some 0 := by decide +kernel
set_option maxHeartbeats 4000000 in
set_option maxRecDepth 100000 in
theorem c_X7_codeWidth (fu : Nat) (l : Launch) (dC : Nat → ClassId) (dI : Nat → Nat → Nat) (kI kE : ClassId) (ca : Nat → Nat) (a : Nat → Nat) (b : Nat → Nat) (oa : Nat → Nat) (ob : Nat → Nat) (ra : Nat → Nat) (sa : Nat → Nat) (ha : Nat → Nat) (ux : Nat → Nat → Nat) (uy : Nat → Nat → Nat) (tx : Nat) (c_tapeLength : Int32) (c_errorAt : Int32) (c_decodedLength : Int32) (f_tape : Nat → Int32) (f_dec : Nat → Int32) (ee : ES) (oo : OS) (tt : TS) (rr : RS) (sw : SS) (hh : HS) (z : Int32) (hJ : J_X7_codeWidth fu ee = some z) : Met l yX7_codeWidth wsX7_codeWidth ({ frames := 2, cells := 0, slots := 0, locals := 41 }) (va_Pc [.ref (ca 0)] (ROp dC dI (([COc ca a oa ra sa ha c_tapeLength c_errorAt c_decodedLength, AWc (ca 1) kI 800 f_tape, AWc (ca 2) kI 400 f_dec, EWc a b kI ee, OOc oa ob oo, AWc (oa 1) kI 400 (o_symbols oo), DWc ob kI (o_d oo), TWc (ca 3) tx tt, RWc ra kI rr, SWc sa kI sw, HWc ha ux uy kE kI hh] : List va_W).flatten) [(kI, .int), (kE, .object "LzwCodec$Encoder")])) (roQi z) 0 0 (fun _ => False) := by
  refine ro_start (cc := cX7_codeWidth) (maxL := 1) (ret := (some .int)) (by decide) rfl (Nat.le_of_ble_eq_true rfl) ?_
  intro p e s m args below meth c hx hb hr hml hown hts hlocks hNW hK H locs ls hP hS hl
  have hown : s.vm.findClass RX7 = some m.cls := hown
  have hl : lv_has ls 1 [(0, .ref (ca 0))] := hl
  unfold J_X7_codeWidth at hJ
  refine lv_aload_n hx hb dX7_codeWidth_0 rfl (lv_at hl 0 rfl) ?_
  refine va_get (D := (dC, dI)) (ci := 7) (v := .ref (a 0)) (C := RX7) (T := TX7) (N := 11) hx hb hts (fun _ h => List.mem_cons_of_mem _ (List.mem_append_left _ (List.mem_append_left _ (List.mem_append_right _ h)))) hown hK hP 0 rfl rfl 3 (by decide) (hts _ (List.mem_of_getElem? (i := 1) rfl)) (fun _ h9 => h9) rfl dX7_codeWidth_1 ?_
  refine va_getN (D := (dC, dI)) (ci := 2) (v := .ref (b 0)) (C := RX2) (T := TX2) (N := 14) hx hb hts (fun _ h => List.mem_cons_of_mem _ (List.mem_append_left _ (List.mem_append_right _ h))) hown hK hP 3 rfl rfl 0 (by decide) (hNW.use (i := 11) rfl) (fun _ h9 => h9) rfl dX7_codeWidth_4 ?_
  obtain ⟨z1, e2, hJ⟩ := bnd hJ
  refine roVi (As := []) (rest := []) (ci := 1) (q0 := 0) hx hb hml hown hts (c_X1_widthOfCodes fu l dC dI kI b (e_d ee) z1 e2) gX7_codeWidth_X1_widthOfCodes qX1_widthOfCodes rfl ⟨Nat.le_of_ble_eq_true rfl, Nat.le_of_ble_eq_true rfl⟩ ⟨rfl, rfl⟩ hNW hK hP hS (hP.sub (ws' := DWc b kI (e_d ee)) [7, 8, 9, 10, 11, 12] rfl) (hK.sub (tys' := [(kI, .int)]) [0] rfl) rfl rfl rfl hl.1 rfl rfl (Nat.le_of_ble_eq_true rfl) dX7_codeWidth_7 z0 (fun H locs hP hS => ?_)
  exact ro_iret hx hb hr hlocks hS hJ dX7_codeWidth_10
theorem qX7_requireIndex : (yX7_requireIndex.cls = RX7) ∧ yX7_requireIndex.cls ≠ "java/lang/invoke/MethodHandle" ∧ yX7_requireIndex.cls ≠ "java/lang/invoke/VarHandle" ∧ (parseMethodDescriptor yX7_requireIndex.desc).map (fun d => d.parameters.length) = some 2 := by decide +kernel
set_option maxHeartbeats 4000000 in
set_option maxRecDepth 100000 in
theorem c_X7_requireIndex (l : Launch) (hl0 : l.stackTraces = false) (dC : Nat → ClassId) (dI : Nat → Nat → Nat) (K : KT) (p0 : Int32) (p1 : Int32) (z : (Unit ⊕ String)) (hJ : J_X7_requireIndex p0 p1 = some z) : vx_Met l yX7_requireIndex wsX7_requireIndex ({ frames := 6, cells := 1, slots := 6, locals := 90 }) (va_Pc [.int p0, .int p1] (ROc K dC dI ([]) [])) (xoQv z) (xoX z) 1 6 (fun _ => False) := by
  refine xo_start (cc := cX7_requireIndex) (maxL := 2) (ret := none) (by decide) rfl (Nat.le_of_ble_eq_true rfl) ?_
  intro p e s m args below meth c hx hb hr hml hown hts hlocks hNW hK hT hCE H locs ls hP hS hl
  have hown : s.vm.findClass RX7 = some m.cls := hown
  have hl : lv_has ls 2 [(0, .int p0), (1, .int p1)] := hl
  unfold J_X7_requireIndex at hJ
  have L9 : ∀ (H : Heap) (locs : List Loc) (ls : Array Slot), va_P (dC, dI) vwCl ([]) H → va_S (fun _ => False) s.heap H locs → lv_has ls 2 [] → J_X7_requireIndex_b9 = some z → W p l e ({ frames := 6, cells := 1, slots := 6, locals := 90 }) s m args below meth c H locs 0 0 (vx_MQ below (xoQv z) (xoX z) args s 1 6 (fun _ => False)) (F0 m 9 ls []) := by
    intro H locs ls hP hS hl hJ
    unfold J_X7_requireIndex_b9 at hJ
    exact xo_throw (text := "there is nothing with this number") hx hb hl0 hown hlocks hT (hl.1.trans hml.symm) (by decide +kernel) (hts _ (List.mem_of_getElem? (i := 1) rfl)) (hts _ (List.mem_of_getElem? (i := 2) rfl)) hCE (List.mem_of_getElem? (i := 16) rfl) (fun w h => hts w (List.mem_cons_of_mem _ (List.mem_append_right _ h))) gd279 hS hJ dX7_requireIndex_9 dX7_requireIndex_12 (Or.inr ⟨dX7_requireIndex_13, dX7_requireIndex_16, dX7_requireIndex_19⟩) (Nat.le_of_ble_eq_true rfl) (Nat.le_of_ble_eq_true rfl) (Nat.le_of_ble_eq_true rfl) (Nat.le_of_ble_eq_true rfl) (Nat.le_of_ble_eq_true rfl) (Nat.le_of_ble_eq_true rfl)
  refine lv_iload_n hx hb dX7_requireIndex_0 rfl (lv_at hl 0 rfl) ?_
  refine lv_if_lt (tgt := 9) hx hb dX7_requireIndex_1 (by decide) (fun c1 => ?_) (fun c1 => ?_)
  · have hJ := ite_t c1 hJ
    exact L9 H locs ls hP hS (lv_sub hl [] rfl) hJ
  · have hJ := ite_f c1 hJ
    refine lv_iload_n hx hb dX7_requireIndex_4 rfl (lv_at hl 0 rfl) ?_
    refine lv_iload_n hx hb dX7_requireIndex_5 rfl (lv_at hl 1 rfl) ?_
    refine lv_icmp_lt (tgt := 20) hx hb dX7_requireIndex_6 (by decide) (fun c2 => ?_) (fun c2 => ?_)
    · have hJ := ite_t c2 hJ
      exact xo_vret hx hb hr hlocks (Nat.le_of_ble_eq_true rfl) (Nat.le_of_ble_eq_true rfl) hS hJ dX7_requireIndex_20
    · have hJ := ite_f c2 hJ
      exact L9 H locs ls hP hS (lv_sub hl [] rfl) hJ
theorem qX7_requireCode : (yX7_requireCode.cls = RX7) ∧ yX7_requireCode.cls ≠ "java/lang/invoke/MethodHandle" ∧ yX7_requireCode.cls ≠ "java/lang/invoke/VarHandle" ∧ (parseMethodDescriptor yX7_requireCode.desc).map (fun d => d.parameters.length) = some 1 := by decide +kernel
set_option maxHeartbeats 4000000 in
set_option maxRecDepth 100000 in
theorem c_X7_requireCode (l : Launch) (hl0 : l.stackTraces = false) (dC : Nat → ClassId) (dI : Nat → Nat → Nat) (K : KT) (kI kE : ClassId) (ca : Nat → Nat) (a : Nat → Nat) (b : Nat → Nat) (oa : Nat → Nat) (ob : Nat → Nat) (ra : Nat → Nat) (sa : Nat → Nat) (ha : Nat → Nat) (ux : Nat → Nat → Nat) (uy : Nat → Nat → Nat) (tx : Nat) (c_tapeLength : Int32) (c_errorAt : Int32) (c_decodedLength : Int32) (f_tape : Nat → Int32) (f_dec : Nat → Int32) (ee : ES) (oo : OS) (tt : TS) (rr : RS) (sw : SS) (hh : HS) (p0 : Int32) (z : (Unit ⊕ String)) (hJ : J_X7_requireCode ee p0 = some z) : vx_Met l yX7_requireCode wsX7_requireCode ({ frames := 7, cells := 1, slots := 6, locals := 111 }) (va_Pc [.ref (ca 0), .int p0] (ROc K dC dI (([COc ca a oa ra sa ha c_tapeLength c_errorAt c_decodedLength, AWc (ca 1) kI 800 f_tape, AWc (ca 2) kI 400 f_dec, EWc a b kI ee, OOc oa ob oo, AWc (oa 1) kI 400 (o_symbols oo), DWc ob kI (o_d oo), TWc (ca 3) tx tt, RWc ra kI rr, SWc sa kI sw, HWc ha ux uy kE kI hh] : List va_W).flatten) [(kI, .int), (kE, .object "LzwCodec$Encoder")])) (xoQv z) (xoX z) 1 6 (fun _ => False) := by
  refine xo_start (cc := cX7_requireCode) (maxL := 2) (ret := none) (by decide) rfl (Nat.le_of_ble_eq_true rfl) ?_
  intro p e s m args below meth c hx hb hr hml hown hts hlocks hNW hK hT hCE H locs ls hP hS hl
  have hown : s.vm.findClass RX7 = some m.cls := hown
  have hl : lv_has ls 2 [(0, .ref (ca 0)), (1, .int p0)] := hl
  unfold J_X7_requireCode at hJ
  refine lv_iload_n hx hb dX7_requireCode_0 rfl (lv_at hl 1 rfl) ?_
  refine lv_aload_n hx hb dX7_requireCode_1 rfl (lv_at hl 0 rfl) ?_
  refine va_get (D := (dC, dI)) (ci := 7) (v := .ref (a 0)) (C := RX7) (T := TX7) (N := 11) hx hb hts (fun _ h => List.mem_cons_of_mem _ (List.mem_append_left _ (List.mem_append_left _ (List.mem_append_left _ (List.mem_append_right _ h))))) hown hK hP 0 rfl rfl 3 (by decide) (hts _ (List.mem_of_getElem? (i := 1) rfl)) (fun _ h9 => h9) rfl dX7_requireCode_2 ?_
  refine va_getN (D := (dC, dI)) (ci := 2) (v := .ref (b 0)) (C := RX2) (T := TX2) (N := 14) hx hb hts (fun _ h => List.mem_cons_of_mem _ (List.mem_append_left _ (List.mem_append_left _ (List.mem_append_right _ h)))) hown hK hP 3 rfl rfl 0 (by decide) (hNW.use (i := 11) rfl) (fun _ h9 => h9) rfl dX7_requireCode_5 ?_
  refine va_getN (D := (dC, dI)) (ci := 1) (v := .int (d_count (e_d ee))) (C := RX1) (T := TX1) (N := 8) hx hb hts (fun _ h => List.mem_cons_of_mem _ (List.mem_append_left _ (List.mem_append_right _ h))) hown hK hP 7 rfl rfl 7 (by decide) (hNW.use (i := 9) rfl) (fun _ h9 => h9) rfl dX7_requireCode_8 ?_
  obtain ⟨z1, e2, hJ⟩ := bnd hJ
  refine xoSv (As := [.int p0, .int (d_count (e_d ee))]) (rest := []) hx hb hml hown hts (c_X7_requireIndex l hl0 dC dI K p0 (d_count (e_d ee)) z1 e2) gX7_requireCode_X7_requireIndex qX7_requireIndex rfl ⟨Nat.le_of_ble_eq_true rfl, Nat.le_of_ble_eq_true rfl⟩ ⟨rfl, rfl⟩ hNW hCE hK hP hS (hP.sub (ws' := []) [] rfl) (hK.sub (tys' := []) [] rfl) hl.1 rfl rfl (Nat.le_of_ble_eq_true rfl) dX7_requireCode_11 ⟨Nat.le_of_ble_eq_true rfl, Nat.le_of_ble_eq_true rfl⟩ (fun E ce q9 H locs hz hP hS g1 g2 g3 => ?_) (fun hz H locs hP hS => ?_)
  · subst hz; exact xo_out hT hlocks g1 g2 g3 (Nat.le_of_ble_eq_true rfl) (Nat.le_of_ble_eq_true rfl) hJ hS
  subst hz
  have hJ := try_l hJ
  refine W.widen (k := 1) (n := 6) (Nat.le_of_ble_eq_true rfl) (Nat.le_of_ble_eq_true rfl) ?_
  exact xo_vret hx hb hr hlocks (Nat.le_of_ble_eq_true rfl) (Nat.le_of_ble_eq_true rfl) hS hJ dX7_requireCode_14
theorem qX7_phraseLength : (yX7_phraseLength.cls = RX7) ∧ yX7_phraseLength.cls ≠ "java/lang/invoke/MethodHandle" ∧ yX7_phraseLength.cls ≠ "java/lang/invoke/VarHandle" ∧ (parseMethodDescriptor yX7_phraseLength.desc).map (fun d => d.parameters.length) = some 1 := by decide +kernel
set_option maxHeartbeats 4000000 in
set_option maxRecDepth 100000 in
theorem c_X7_phraseLength (l : Launch) (hl0 : l.stackTraces = false) (dC : Nat → ClassId) (dI : Nat → Nat → Nat) (K : KT) (kI kE : ClassId) (ca : Nat → Nat) (a : Nat → Nat) (b : Nat → Nat) (oa : Nat → Nat) (ob : Nat → Nat) (ra : Nat → Nat) (sa : Nat → Nat) (ha : Nat → Nat) (ux : Nat → Nat → Nat) (uy : Nat → Nat → Nat) (tx : Nat) (c_tapeLength : Int32) (c_errorAt : Int32) (c_decodedLength : Int32) (f_tape : Nat → Int32) (f_dec : Nat → Int32) (ee : ES) (oo : OS) (tt : TS) (rr : RS) (sw : SS) (hh : HS) (p0 : Int32) (z : (Int32 ⊕ String)) (hJ : J_X7_phraseLength f_tape f_dec ee oo tt rr sw hh p0 = some z) : vx_Met l yX7_phraseLength wsX7_phraseLength ({ frames := 8, cells := 1, slots := 6, locals := 132 }) (va_Pc [.ref (ca 0), .int p0] (ROc K dC dI (([COc ca a oa ra sa ha c_tapeLength c_errorAt c_decodedLength, AWc (ca 1) kI 800 f_tape, AWc (ca 2) kI 400 f_dec, EWc a b kI ee, OOc oa ob oo, AWc (oa 1) kI 400 (o_symbols oo), DWc ob kI (o_d oo), TWc (ca 3) tx tt, RWc ra kI rr, SWc sa kI sw, HWc ha ux uy kE kI hh] : List va_W).flatten) [(kI, .int), (kE, .object "LzwCodec$Encoder")])) (xoQi z) (xoX z) 1 6 (fun _ => False) := by
  refine xo_start (cc := cX7_phraseLength) (maxL := 2) (ret := (some .int)) (by decide) rfl (Nat.le_of_ble_eq_true rfl) ?_
  intro p e s m args below meth c hx hb hr hml hown hts hlocks hNW hK hT hCE H locs ls hP hS hl
  have hown : s.vm.findClass RX7 = some m.cls := hown
  have hl : lv_has ls 2 [(0, .ref (ca 0)), (1, .int p0)] := hl
  unfold J_X7_phraseLength at hJ
  refine lv_aload_n hx hb dX7_phraseLength_0 rfl (lv_at hl 0 rfl) ?_
  refine lv_iload_n hx hb dX7_phraseLength_1 rfl (lv_at hl 1 rfl) ?_
  obtain ⟨z1, e2, hJ⟩ := bnd hJ
  refine xoVv (As := [.int p0]) (rest := []) (ci := 7) (q0 := 0) hx hb hml hown hts (c_X7_requireCode l hl0 dC dI K kI kE ca a b oa ob ra sa ha ux uy tx c_tapeLength c_errorAt c_decodedLength f_tape f_dec ee oo tt rr sw hh p0 z1 e2) gX7_phraseLength_X7_requireCode qX7_requireCode rfl ⟨Nat.le_of_ble_eq_true rfl, Nat.le_of_ble_eq_true rfl⟩ ⟨rfl, rfl⟩ hNW hCE hK hP hS hP hK rfl rfl rfl hl.1 rfl rfl (Nat.le_of_ble_eq_true rfl) dX7_phraseLength_2 ⟨Nat.le_of_ble_eq_true rfl, Nat.le_of_ble_eq_true rfl⟩ (fun E ce q9 H locs hz hP hS g1 g2 g3 => ?_) (fun hz H locs hP hS => ?_)
  · subst hz; exact xo_out hT hlocks g1 g2 g3 (Nat.le_of_ble_eq_true rfl) (Nat.le_of_ble_eq_true rfl) hJ hS
  subst hz
  have hJ := try_l hJ
  refine W.widen (k := 1) (n := 6) (Nat.le_of_ble_eq_true rfl) (Nat.le_of_ble_eq_true rfl) ?_
  refine lv_aload_n hx hb dX7_phraseLength_5 rfl (lv_at hl 0 rfl) ?_
  refine va_get (D := (dC, dI)) (ci := 7) (v := .ref (a 0)) (C := RX7) (T := TX7) (N := 11) hx hb hts (fun _ h => List.mem_cons_of_mem _ (List.mem_append_left _ (List.mem_append_left _ (List.mem_append_left _ (List.mem_append_right _ h))))) hown hK hP 0 rfl rfl 3 (by decide) (hts _ (List.mem_of_getElem? (i := 1) rfl)) (fun _ h9 => h9) rfl dX7_phraseLength_6 ?_
  refine va_getN (D := (dC, dI)) (ci := 2) (v := .ref (b 0)) (C := RX2) (T := TX2) (N := 14) hx hb hts (fun _ h => List.mem_cons_of_mem _ (List.mem_append_left _ (List.mem_append_left _ (List.mem_append_right _ h)))) hown hK hP 3 rfl rfl 0 (by decide) (hNW.use (i := 11) rfl) (fun _ h9 => h9) rfl dX7_phraseLength_9 ?_
  refine lv_iload_n hx hb dX7_phraseLength_12 rfl (lv_at hl 1 rfl) ?_
  obtain ⟨z3, e4, hJ⟩ := bnd hJ
  refine roVi (As := [.int p0]) (rest := []) (ci := 1) (q0 := 0) hx hb hml hown hts (c_X1_lengthOf l dC dI kI b (e_d ee) p0 z3 e4) gX7_phraseLength_X1_lengthOf qX1_lengthOf rfl ⟨Nat.le_of_ble_eq_true rfl, Nat.le_of_ble_eq_true rfl⟩ ⟨rfl, rfl⟩ hNW hK hP hS (hP.sub (ws' := DWc b kI (e_d ee)) [7, 8, 9, 10, 11, 12] rfl) (hK.sub (tys' := [(kI, .int)]) [0] rfl) rfl rfl rfl hl.1 rfl rfl (Nat.le_of_ble_eq_true rfl) dX7_phraseLength_13 ⟨Nat.le_of_ble_eq_true rfl, Nat.le_of_ble_eq_true rfl⟩ (fun H locs hP hS => ?_)
  exact xo_iret hx hb hr hlocks (Nat.le_of_ble_eq_true rfl) (Nat.le_of_ble_eq_true rfl) hS hJ dX7_phraseLength_16
theorem qX7_phraseSymbol : (yX7_phraseSymbol.cls = RX7) ∧ yX7_phraseSymbol.cls ≠ "java/lang/invoke/MethodHandle" ∧ yX7_phraseSymbol.cls ≠ "java/lang/invoke/VarHandle" ∧ (parseMethodDescriptor yX7_phraseSymbol.desc).map (fun d => d.parameters.length) = some 2 := by decide +kernel
set_option maxHeartbeats 4000000 in
set_option maxRecDepth 100000 in
theorem c_X7_phraseSymbol (fu : Nat) (l : Launch) (hl0 : l.stackTraces = false) (dC : Nat → ClassId) (dI : Nat → Nat → Nat) (K : KT) (kI kE : ClassId) (ca : Nat → Nat) (a : Nat → Nat) (b : Nat → Nat) (oa : Nat → Nat) (ob : Nat → Nat) (ra : Nat → Nat) (sa : Nat → Nat) (ha : Nat → Nat) (ux : Nat → Nat → Nat) (uy : Nat → Nat → Nat) (tx : Nat) (c_tapeLength : Int32) (c_errorAt : Int32) (c_decodedLength : Int32) (f_tape : Nat → Int32) (f_dec : Nat → Int32) (ee : ES) (oo : OS) (tt : TS) (rr : RS) (sw : SS) (hh : HS) (p0 : Int32) (p1 : Int32) (z : (Int32 ⊕ String)) (hJ : J_X7_phraseSymbol fu f_tape f_dec ee oo tt rr sw hh p0 p1 = some z) : vx_Met l yX7_phraseSymbol wsX7_phraseSymbol ({ frames := 8, cells := 2, slots := 12, locals := 132 }) (va_Pc [.ref (ca 0), .int p0, .int p1] (ROc K dC dI (([COc ca a oa ra sa ha c_tapeLength c_errorAt c_decodedLength, AWc (ca 1) kI 800 f_tape, AWc (ca 2) kI 400 f_dec, EWc a b kI ee, OOc oa ob oo, AWc (oa 1) kI 400 (o_symbols oo), DWc ob kI (o_d oo), TWc (ca 3) tx tt, RWc ra kI rr, SWc sa kI sw, HWc ha ux uy kE kI hh] : List va_W).flatten) [(kI, .int), (kE, .object "LzwCodec$Encoder")])) (xoQi z) (xoX z) 2 12 (fun _ => False) := by
  refine xo_start (cc := cX7_phraseSymbol) (maxL := 3) (ret := (some .int)) (by decide) rfl (Nat.le_of_ble_eq_true rfl) ?_
  intro p e s m args below meth c hx hb hr hml hown hts hlocks hNW hK hT hCE H locs ls hP hS hl
  have hown : s.vm.findClass RX7 = some m.cls := hown
  have hl : lv_has ls 3 [(0, .ref (ca 0)), (1, .int p0), (2, .int p1)] := hl
  unfold J_X7_phraseSymbol at hJ
  refine lv_aload_n hx hb dX7_phraseSymbol_0 rfl (lv_at hl 0 rfl) ?_
  refine lv_iload_n hx hb dX7_phraseSymbol_1 rfl (lv_at hl 1 rfl) ?_
  obtain ⟨z1, e2, hJ⟩ := bnd hJ
  refine xoVv (As := [.int p0]) (rest := []) (ci := 7) (q0 := 0) hx hb hml hown hts (c_X7_requireCode l hl0 dC dI K kI kE ca a b oa ob ra sa ha ux uy tx c_tapeLength c_errorAt c_decodedLength f_tape f_dec ee oo tt rr sw hh p0 z1 e2) gX7_phraseSymbol_X7_requireCode qX7_requireCode rfl ⟨Nat.le_of_ble_eq_true rfl, Nat.le_of_ble_eq_true rfl⟩ ⟨rfl, rfl⟩ hNW hCE hK hP hS hP hK rfl rfl rfl hl.1 rfl rfl (Nat.le_of_ble_eq_true rfl) dX7_phraseSymbol_2 ⟨Nat.le_of_ble_eq_true rfl, Nat.le_of_ble_eq_true rfl⟩ (fun E ce q9 H locs hz hP hS g1 g2 g3 => ?_) (fun hz H locs hP hS => ?_)
  · subst hz; exact xo_out hT hlocks g1 g2 g3 (Nat.le_of_ble_eq_true rfl) (Nat.le_of_ble_eq_true rfl) hJ hS
  subst hz
  have hJ := try_l hJ
  refine W.widen (k := 1) (n := 6) (Nat.le_of_ble_eq_true rfl) (Nat.le_of_ble_eq_true rfl) ?_
  refine lv_iload_n hx hb dX7_phraseSymbol_5 rfl (lv_at hl 2 rfl) ?_
  refine lv_aload_n hx hb dX7_phraseSymbol_6 rfl (lv_at hl 0 rfl) ?_
  refine va_get (D := (dC, dI)) (ci := 7) (v := .ref (a 0)) (C := RX7) (T := TX7) (N := 11) hx hb hts (fun _ h => List.mem_cons_of_mem _ (List.mem_append_left _ (List.mem_append_left _ (List.mem_append_left _ (List.mem_append_right _ h))))) hown hK hP 0 rfl rfl 3 (by decide) (hts _ (List.mem_of_getElem? (i := 1) rfl)) (fun _ h9 => h9) rfl dX7_phraseSymbol_7 ?_
  refine va_getN (D := (dC, dI)) (ci := 2) (v := .ref (b 0)) (C := RX2) (T := TX2) (N := 14) hx hb hts (fun _ h => List.mem_cons_of_mem _ (List.mem_append_left _ (List.mem_append_left _ (List.mem_append_right _ h)))) hown hK hP 3 rfl rfl 0 (by decide) (hNW.use (i := 11) rfl) (fun _ h9 => h9) rfl dX7_phraseSymbol_10 ?_
  refine lv_iload_n hx hb dX7_phraseSymbol_13 rfl (lv_at hl 1 rfl) ?_
  obtain ⟨z3, e4, hJ⟩ := bnd hJ
  refine roVi (As := [.int p0]) (rest := [.int p1]) (ci := 1) (q0 := 0) hx hb hml hown hts (c_X1_lengthOf l dC dI kI b (e_d ee) p0 z3 e4) gX7_phraseSymbol_X1_lengthOf qX1_lengthOf rfl ⟨Nat.le_of_ble_eq_true rfl, Nat.le_of_ble_eq_true rfl⟩ ⟨rfl, rfl⟩ hNW hK hP hS (hP.sub (ws' := DWc b kI (e_d ee)) [7, 8, 9, 10, 11, 12] rfl) (hK.sub (tys' := [(kI, .int)]) [0] rfl) rfl rfl rfl hl.1 rfl rfl (Nat.le_of_ble_eq_true rfl) dX7_phraseSymbol_14 ⟨Nat.le_of_ble_eq_true rfl, Nat.le_of_ble_eq_true rfl⟩ (fun H locs hP hS => ?_)
  obtain ⟨z5, e6, hJ⟩ := bnd hJ
  refine xoSv (As := [.int p1, .int z3]) (rest := []) hx hb hml hown hts (c_X7_requireIndex l hl0 dC dI K p1 z3 z5 e6) gX7_phraseSymbol_X7_requireIndex qX7_requireIndex rfl ⟨Nat.le_of_ble_eq_true rfl, Nat.le_of_ble_eq_true rfl⟩ ⟨rfl, rfl⟩ hNW hCE hK hP hS (hP.sub (ws' := []) [] rfl) (hK.sub (tys' := []) [] rfl) hl.1 rfl rfl (Nat.le_of_ble_eq_true rfl) dX7_phraseSymbol_17 ⟨Nat.le_of_ble_eq_true rfl, Nat.le_of_ble_eq_true rfl⟩ (fun E ce q9 H locs hz hP hS g1 g2 g3 => ?_) (fun hz H locs hP hS => ?_)
  · subst hz; exact xo_out hT hlocks g1 g2 g3 (Nat.le_of_ble_eq_true rfl) (Nat.le_of_ble_eq_true rfl) hJ hS
  subst hz
  have hJ := try_l hJ
  refine W.widen (k := 2) (n := 12) (Nat.le_of_ble_eq_true rfl) (Nat.le_of_ble_eq_true rfl) ?_
  refine lv_aload_n hx hb dX7_phraseSymbol_20 rfl (lv_at hl 0 rfl) ?_
  refine va_get (D := (dC, dI)) (ci := 7) (v := .ref (a 0)) (C := RX7) (T := TX7) (N := 11) hx hb hts (fun _ h => List.mem_cons_of_mem _ (List.mem_append_left _ (List.mem_append_left _ (List.mem_append_left _ (List.mem_append_right _ h))))) hown hK hP 0 rfl rfl 3 (by decide) (hts _ (List.mem_of_getElem? (i := 1) rfl)) (fun _ h9 => h9) rfl dX7_phraseSymbol_21 ?_
  refine va_getN (D := (dC, dI)) (ci := 2) (v := .ref (b 0)) (C := RX2) (T := TX2) (N := 14) hx hb hts (fun _ h => List.mem_cons_of_mem _ (List.mem_append_left _ (List.mem_append_left _ (List.mem_append_right _ h)))) hown hK hP 3 rfl rfl 0 (by decide) (hNW.use (i := 11) rfl) (fun _ h9 => h9) rfl dX7_phraseSymbol_24 ?_
  refine lv_iload_n hx hb dX7_phraseSymbol_27 rfl (lv_at hl 1 rfl) ?_
  refine lv_iload_n hx hb dX7_phraseSymbol_28 rfl (lv_at hl 2 rfl) ?_
  obtain ⟨z7, e8, hJ⟩ := bnd hJ
  refine roVi (As := [.int p0, .int p1]) (rest := []) (ci := 1) (q0 := 0) hx hb hml hown hts (c_X1_symbolOf fu l dC dI kI b (e_d ee) p0 p1 z7 e8) gX7_phraseSymbol_X1_symbolOf qX1_symbolOf rfl ⟨Nat.le_of_ble_eq_true rfl, Nat.le_of_ble_eq_true rfl⟩ ⟨rfl, rfl⟩ hNW hK hP hS (hP.sub (ws' := DWc b kI (e_d ee)) [7, 8, 9, 10, 11, 12] rfl) (hK.sub (tys' := [(kI, .int)]) [0] rfl) rfl rfl rfl hl.1 rfl rfl (Nat.le_of_ble_eq_true rfl) dX7_phraseSymbol_29 ⟨Nat.le_of_ble_eq_true rfl, Nat.le_of_ble_eq_true rfl⟩ (fun H locs hP hS => ?_)
  exact xo_iret hx hb hr hlocks (Nat.le_of_ble_eq_true rfl) (Nat.le_of_ble_eq_true rfl) hS hJ dX7_phraseSymbol_32
theorem qX7_prefixOf : (yX7_prefixOf.cls = RX7) ∧ yX7_prefixOf.cls ≠ "java/lang/invoke/MethodHandle" ∧ yX7_prefixOf.cls ≠ "java/lang/invoke/VarHandle" ∧ (parseMethodDescriptor yX7_prefixOf.desc).map (fun d => d.parameters.length) = some 1 := by decide +kernel
set_option maxHeartbeats 4000000 in
set_option maxRecDepth 100000 in
theorem c_X7_prefixOf (l : Launch) (hl0 : l.stackTraces = false) (dC : Nat → ClassId) (dI : Nat → Nat → Nat) (K : KT) (kI kE : ClassId) (ca : Nat → Nat) (a : Nat → Nat) (b : Nat → Nat) (oa : Nat → Nat) (ob : Nat → Nat) (ra : Nat → Nat) (sa : Nat → Nat) (ha : Nat → Nat) (ux : Nat → Nat → Nat) (uy : Nat → Nat → Nat) (tx : Nat) (c_tapeLength : Int32) (c_errorAt : Int32) (c_decodedLength : Int32) (f_tape : Nat → Int32) (f_dec : Nat → Int32) (ee : ES) (oo : OS) (tt : TS) (rr : RS) (sw : SS) (hh : HS) (p0 : Int32) (z : (Int32 ⊕ String)) (hJ : J_X7_prefixOf f_tape f_dec ee oo tt rr sw hh p0 = some z) : vx_Met l yX7_prefixOf wsX7_prefixOf ({ frames := 8, cells := 2, slots := 12, locals := 132 }) (va_Pc [.ref (ca 0), .int p0] (ROc K dC dI (([COc ca a oa ra sa ha c_tapeLength c_errorAt c_decodedLength, AWc (ca 1) kI 800 f_tape, AWc (ca 2) kI 400 f_dec, EWc a b kI ee, OOc oa ob oo, AWc (oa 1) kI 400 (o_symbols oo), DWc ob kI (o_d oo), TWc (ca 3) tx tt, RWc ra kI rr, SWc sa kI sw, HWc ha ux uy kE kI hh] : List va_W).flatten) [(kI, .int), (kE, .object "LzwCodec$Encoder")])) (xoQi z) (xoX z) 2 12 (fun _ => False) := by
  refine xo_start (cc := cX7_prefixOf) (maxL := 2) (ret := (some .int)) (by decide) rfl (Nat.le_of_ble_eq_true rfl) ?_
  intro p e s m args below meth c hx hb hr hml hown hts hlocks hNW hK hT hCE H locs ls hP hS hl
  have hown : s.vm.findClass RX7 = some m.cls := hown
  have hl : lv_has ls 2 [(0, .ref (ca 0)), (1, .int p0)] := hl
  unfold J_X7_prefixOf at hJ
  refine lv_aload_n hx hb dX7_prefixOf_0 rfl (lv_at hl 0 rfl) ?_
  refine lv_iload_n hx hb dX7_prefixOf_1 rfl (lv_at hl 1 rfl) ?_
  obtain ⟨z1, e2, hJ⟩ := bnd hJ
  refine xoVv (As := [.int p0]) (rest := []) (ci := 7) (q0 := 0) hx hb hml hown hts (c_X7_requireCode l hl0 dC dI K kI kE ca a b oa ob ra sa ha ux uy tx c_tapeLength c_errorAt c_decodedLength f_tape f_dec ee oo tt rr sw hh p0 z1 e2) gX7_prefixOf_X7_requireCode qX7_requireCode rfl ⟨Nat.le_of_ble_eq_true rfl, Nat.le_of_ble_eq_true rfl⟩ ⟨rfl, rfl⟩ hNW hCE hK hP hS hP hK rfl rfl rfl hl.1 rfl rfl (Nat.le_of_ble_eq_true rfl) dX7_prefixOf_2 ⟨Nat.le_of_ble_eq_true rfl, Nat.le_of_ble_eq_true rfl⟩ (fun E ce q9 H locs hz hP hS g1 g2 g3 => ?_) (fun hz H locs hP hS => ?_)
  · subst hz; exact xo_out hT hlocks g1 g2 g3 (Nat.le_of_ble_eq_true rfl) (Nat.le_of_ble_eq_true rfl) hJ hS
  subst hz
  have hJ := try_l hJ
  refine W.widen (k := 1) (n := 6) (Nat.le_of_ble_eq_true rfl) (Nat.le_of_ble_eq_true rfl) ?_
  refine lv_aload_n hx hb dX7_prefixOf_5 rfl (lv_at hl 0 rfl) ?_
  refine va_get (D := (dC, dI)) (ci := 7) (v := .ref (a 0)) (C := RX7) (T := TX7) (N := 11) hx hb hts (fun _ h => List.mem_cons_of_mem _ (List.mem_append_left _ (List.mem_append_left _ (List.mem_append_left _ (List.mem_append_left _ (List.mem_append_right _ h)))))) hown hK hP 0 rfl rfl 3 (by decide) (hts _ (List.mem_of_getElem? (i := 3) rfl)) (fun _ h9 => h9) rfl dX7_prefixOf_6 ?_
  refine va_getN (D := (dC, dI)) (ci := 2) (v := .ref (b 0)) (C := RX2) (T := TX2) (N := 14) hx hb hts (fun _ h => List.mem_cons_of_mem _ (List.mem_append_left _ (List.mem_append_left _ (List.mem_append_left _ (List.mem_append_right _ h))))) hown hK hP 3 rfl rfl 0 (by decide) (hNW.use (i := 11) rfl) (fun _ h9 => h9) rfl dX7_prefixOf_9 ?_
  refine lv_iload_n hx hb dX7_prefixOf_12 rfl (lv_at hl 1 rfl) ?_
  obtain ⟨z3, e4, hJ⟩ := bnd hJ
  refine roVi (As := [.int p0]) (rest := []) (ci := 1) (q0 := 0) hx hb hml hown hts (c_X1_lengthOf l dC dI kI b (e_d ee) p0 z3 e4) gX7_prefixOf_X1_lengthOf qX1_lengthOf rfl ⟨Nat.le_of_ble_eq_true rfl, Nat.le_of_ble_eq_true rfl⟩ ⟨rfl, rfl⟩ hNW hK hP hS (hP.sub (ws' := DWc b kI (e_d ee)) [7, 8, 9, 10, 11, 12] rfl) (hK.sub (tys' := [(kI, .int)]) [0] rfl) rfl rfl rfl hl.1 rfl rfl (Nat.le_of_ble_eq_true rfl) dX7_prefixOf_13 ⟨Nat.le_of_ble_eq_true rfl, Nat.le_of_ble_eq_true rfl⟩ (fun H locs hP hS => ?_)
  refine lv_iconst (v := 2) hx hb dX7_prefixOf_16 (by decide) ?_
  refine lv_icmp_ge (tgt := 30) hx hb dX7_prefixOf_17 (by decide) (fun c5 => ?_) (fun c5 => ?_)
  · have hJ := ite_t c5 hJ
    refine lv_aload_n hx hb dX7_prefixOf_30 rfl (lv_at hl 0 rfl) ?_
    refine va_get (D := (dC, dI)) (ci := 7) (v := .ref (a 0)) (C := RX7) (T := TX7) (N := 11) hx hb hts (fun _ h => List.mem_cons_of_mem _ (List.mem_append_left _ (List.mem_append_left _ (List.mem_append_left _ (List.mem_append_left _ (List.mem_append_right _ h)))))) hown hK hP 0 rfl rfl 3 (by decide) (hts _ (List.mem_of_getElem? (i := 3) rfl)) (fun _ h9 => h9) rfl dX7_prefixOf_31 ?_
    refine va_getN (D := (dC, dI)) (ci := 2) (v := .ref (b 0)) (C := RX2) (T := TX2) (N := 14) hx hb hts (fun _ h => List.mem_cons_of_mem _ (List.mem_append_left _ (List.mem_append_left _ (List.mem_append_left _ (List.mem_append_right _ h))))) hown hK hP 3 rfl rfl 0 (by decide) (hNW.use (i := 11) rfl) (fun _ h9 => h9) rfl dX7_prefixOf_34 ?_
    refine va_getN (D := (dC, dI)) (ci := 1) (v := .ref (b 1)) (C := RX1) (T := TX1) (N := 8) hx hb hts (fun _ h => List.mem_cons_of_mem _ (List.mem_append_left _ (List.mem_append_left _ (List.mem_append_right _ h)))) hown hK hP 7 rfl rfl 0 (by decide) (hNW.use (i := 0) rfl) (fun _ h9 => h9) rfl dX7_prefixOf_37 ?_
    refine lv_iload_n hx hb dX7_prefixOf_40 rfl (lv_at hl 1 rfl) ?_
    obtain ⟨z6, e7, hJ⟩ := bnd hJ
    refine roSi (As := [.ref (b 1), .int p0]) (rest := []) hx hb hml hown hts (c_X7_at l dC dI kI (b 1) 256 (d_prefix (e_d ee)) p0 z6 e7) gX7_prefixOf_X7_at qX7_at rfl ⟨Nat.le_of_ble_eq_true rfl, Nat.le_of_ble_eq_true rfl⟩ ⟨rfl, rfl⟩ hNW hK hP hS (hP.sub (ws' := AWc (b 1) kI 256 (d_prefix (e_d ee))) [8] rfl) (hK.sub (tys' := [(kI, .int)]) [0] rfl) hl.1 rfl rfl (Nat.le_of_ble_eq_true rfl) dX7_prefixOf_41 ⟨Nat.le_of_ble_eq_true rfl, Nat.le_of_ble_eq_true rfl⟩ (fun H locs hP hS => ?_)
    exact xo_iret hx hb hr hlocks (Nat.le_of_ble_eq_true rfl) (Nat.le_of_ble_eq_true rfl) hS hJ dX7_prefixOf_44
  · have hJ := ite_f c5 hJ
    exact xo_throw (text := "the phrase has no prefix") hx hb hl0 hown hlocks hT (hl.1.trans hml.symm) (by decide +kernel) (hts _ (List.mem_of_getElem? (i := 1) rfl)) (hts _ (List.mem_of_getElem? (i := 2) rfl)) hCE (List.mem_of_getElem? (i := 12) rfl) (fun w h => hts w (List.mem_cons_of_mem _ (List.mem_append_left _ (List.mem_append_right _ h)))) gd201 hS hJ dX7_prefixOf_20 dX7_prefixOf_23 (Or.inl ⟨dX7_prefixOf_24, dX7_prefixOf_26, dX7_prefixOf_29⟩) (Nat.le_of_ble_eq_true rfl) (Nat.le_of_ble_eq_true rfl) (Nat.le_of_ble_eq_true rfl) (Nat.le_of_ble_eq_true rfl) (Nat.le_of_ble_eq_true rfl) (Nat.le_of_ble_eq_true rfl)
theorem qX7_extensionOf : (yX7_extensionOf.cls = RX7) ∧ yX7_extensionOf.cls ≠ "java/lang/invoke/MethodHandle" ∧ yX7_extensionOf.cls ≠ "java/lang/invoke/VarHandle" ∧ (parseMethodDescriptor yX7_extensionOf.desc).map (fun d => d.parameters.length) = some 2 := by decide +kernel
set_option maxHeartbeats 4000000 in
set_option maxRecDepth 100000 in
theorem c_X7_extensionOf (fu : Nat) (l : Launch) (hl0 : l.stackTraces = false) (dC : Nat → ClassId) (dI : Nat → Nat → Nat) (K : KT) (kI kE : ClassId) (ca : Nat → Nat) (a : Nat → Nat) (b : Nat → Nat) (oa : Nat → Nat) (ob : Nat → Nat) (ra : Nat → Nat) (sa : Nat → Nat) (ha : Nat → Nat) (ux : Nat → Nat → Nat) (uy : Nat → Nat → Nat) (tx : Nat) (c_tapeLength : Int32) (c_errorAt : Int32) (c_decodedLength : Int32) (f_tape : Nat → Int32) (f_dec : Nat → Int32) (ee : ES) (oo : OS) (tt : TS) (rr : RS) (sw : SS) (hh : HS) (p0 : Int32) (p1 : Int32) (z : (Int32 ⊕ String)) (hJ : J_X7_extensionOf fu f_tape f_dec ee oo tt rr sw hh p0 p1 = some z) : vx_Met l yX7_extensionOf wsX7_extensionOf ({ frames := 8, cells := 3, slots := 18, locals := 132 }) (va_Pc [.ref (ca 0), .int p0, .int p1] (ROc K dC dI (([COc ca a oa ra sa ha c_tapeLength c_errorAt c_decodedLength, AWc (ca 1) kI 800 f_tape, AWc (ca 2) kI 400 f_dec, EWc a b kI ee, OOc oa ob oo, AWc (oa 1) kI 400 (o_symbols oo), DWc ob kI (o_d oo), TWc (ca 3) tx tt, RWc ra kI rr, SWc sa kI sw, HWc ha ux uy kE kI hh] : List va_W).flatten) [(kI, .int), (kE, .object "LzwCodec$Encoder")])) (xoQi z) (xoX z) 3 18 (fun _ => False) := by
  refine xo_start (cc := cX7_extensionOf) (maxL := 4) (ret := (some .int)) (by decide) rfl (Nat.le_of_ble_eq_true rfl) ?_
  intro p e s m args below meth c hx hb hr hml hown hts hlocks hNW hK hT hCE H locs ls hP hS hl
  have hown : s.vm.findClass RX7 = some m.cls := hown
  have hl : lv_has ls 4 [(0, .ref (ca 0)), (1, .int p0), (2, .int p1)] := hl
  unfold J_X7_extensionOf at hJ
  refine lv_aload_n hx hb dX7_extensionOf_0 rfl (lv_at hl 0 rfl) ?_
  refine lv_iload_n hx hb dX7_extensionOf_1 rfl (lv_at hl 1 rfl) ?_
  obtain ⟨z1, e2, hJ⟩ := bnd hJ
  refine xoVv (As := [.int p0]) (rest := []) (ci := 7) (q0 := 0) hx hb hml hown hts (c_X7_requireCode l hl0 dC dI K kI kE ca a b oa ob ra sa ha ux uy tx c_tapeLength c_errorAt c_decodedLength f_tape f_dec ee oo tt rr sw hh p0 z1 e2) gX7_extensionOf_X7_requireCode qX7_requireCode rfl ⟨Nat.le_of_ble_eq_true rfl, Nat.le_of_ble_eq_true rfl⟩ ⟨rfl, rfl⟩ hNW hCE hK hP hS hP hK rfl rfl rfl hl.1 rfl rfl (Nat.le_of_ble_eq_true rfl) dX7_extensionOf_2 ⟨Nat.le_of_ble_eq_true rfl, Nat.le_of_ble_eq_true rfl⟩ (fun E ce q9 H locs hz hP hS g1 g2 g3 => ?_) (fun hz H locs hP hS => ?_)
  · subst hz; exact xo_out hT hlocks g1 g2 g3 (Nat.le_of_ble_eq_true rfl) (Nat.le_of_ble_eq_true rfl) hJ hS
  subst hz
  have hJ := try_l hJ
  refine W.widen (k := 1) (n := 6) (Nat.le_of_ble_eq_true rfl) (Nat.le_of_ble_eq_true rfl) ?_
  refine lv_aload_n hx hb dX7_extensionOf_5 rfl (lv_at hl 0 rfl) ?_
  refine lv_iload_n hx hb dX7_extensionOf_6 rfl (lv_at hl 2 rfl) ?_
  obtain ⟨z3, e4, hJ⟩ := bnd hJ
  refine xoVv (As := [.int p1]) (rest := []) (ci := 7) (q0 := 0) hx hb hml hown hts (c_X7_requireSymbol l hl0 dC dI K kI kE ca a b oa ob ra sa ha ux uy tx c_tapeLength c_errorAt c_decodedLength f_tape f_dec ee oo tt rr sw hh p1 z3 e4) gX7_extensionOf_X7_requireSymbol qX7_requireSymbol rfl ⟨Nat.le_of_ble_eq_true rfl, Nat.le_of_ble_eq_true rfl⟩ ⟨rfl, rfl⟩ hNW hCE hK hP hS hP hK rfl rfl rfl hl.1 rfl rfl (Nat.le_of_ble_eq_true rfl) dX7_extensionOf_7 ⟨Nat.le_of_ble_eq_true rfl, Nat.le_of_ble_eq_true rfl⟩ (fun E ce q9 H locs hz hP hS g1 g2 g3 => ?_) (fun hz H locs hP hS => ?_)
  · subst hz; exact xo_out hT hlocks g1 g2 g3 (Nat.le_of_ble_eq_true rfl) (Nat.le_of_ble_eq_true rfl) hJ hS
  subst hz
  have hJ := try_l hJ
  refine W.widen (k := 2) (n := 12) (Nat.le_of_ble_eq_true rfl) (Nat.le_of_ble_eq_true rfl) ?_
  refine lv_iload_n hx hb dX7_extensionOf_10 rfl (lv_at hl 1 rfl) ?_
  refine lv_aload_n hx hb dX7_extensionOf_11 rfl (lv_at hl 0 rfl) ?_
  refine va_get (D := (dC, dI)) (ci := 7) (v := .ref (a 0)) (C := RX7) (T := TX7) (N := 11) hx hb hts (fun _ h => List.mem_cons_of_mem _ (List.mem_append_left _ (List.mem_append_left _ (List.mem_append_left _ (List.mem_append_left _ (List.mem_append_left _ (List.mem_append_right _ h))))))) hown hK hP 0 rfl rfl 3 (by decide) (hts _ (List.mem_of_getElem? (i := 5) rfl)) (fun _ h9 => h9) rfl dX7_extensionOf_12 ?_
  refine va_getN (D := (dC, dI)) (ci := 2) (v := .ref (b 0)) (C := RX2) (T := TX2) (N := 14) hx hb hts (fun _ h => List.mem_cons_of_mem _ (List.mem_append_left _ (List.mem_append_left _ (List.mem_append_left _ (List.mem_append_left _ (List.mem_append_right _ h)))))) hown hK hP 3 rfl rfl 0 (by decide) (hNW.use (i := 11) rfl) (fun _ h9 => h9) rfl dX7_extensionOf_15 ?_
  refine va_getN (D := (dC, dI)) (ci := 1) (v := .int (d_alphabet (e_d ee))) (C := RX1) (T := TX1) (N := 8) hx hb hts (fun _ h => List.mem_cons_of_mem _ (List.mem_append_left _ (List.mem_append_left _ (List.mem_append_left _ (List.mem_append_right _ h))))) hown hK hP 7 rfl rfl 5 (by decide) (hNW.use (i := 4) rfl) (fun _ h9 => h9) rfl dX7_extensionOf_18 ?_
  refine lv_icmp_ne (tgt := 34) hx hb dX7_extensionOf_21 (by decide) (fun c5 => ?_) (fun c5 => ?_)
  · have hJ := ite_f c5 hJ
    refine lv_aload_n hx hb dX7_extensionOf_34 rfl (lv_at hl 0 rfl) ?_
    refine va_get (D := (dC, dI)) (ci := 7) (v := .ref (a 0)) (C := RX7) (T := TX7) (N := 11) hx hb hts (fun _ h => List.mem_cons_of_mem _ (List.mem_append_left _ (List.mem_append_left _ (List.mem_append_left _ (List.mem_append_left _ (List.mem_append_left _ (List.mem_append_right _ h))))))) hown hK hP 0 rfl rfl 3 (by decide) (hts _ (List.mem_of_getElem? (i := 5) rfl)) (fun _ h9 => h9) rfl dX7_extensionOf_35 ?_
    refine va_getN (D := (dC, dI)) (ci := 2) (v := .ref (b 0)) (C := RX2) (T := TX2) (N := 14) hx hb hts (fun _ h => List.mem_cons_of_mem _ (List.mem_append_left _ (List.mem_append_left _ (List.mem_append_left _ (List.mem_append_left _ (List.mem_append_right _ h)))))) hown hK hP 3 rfl rfl 0 (by decide) (hNW.use (i := 11) rfl) (fun _ h9 => h9) rfl dX7_extensionOf_38 ?_
    refine lv_iload_n hx hb dX7_extensionOf_41 rfl (lv_at hl 1 rfl) ?_
    refine lv_iload_n hx hb dX7_extensionOf_42 rfl (lv_at hl 2 rfl) ?_
    obtain ⟨z6, e7, hJ⟩ := bnd hJ
    refine roVi (As := [.int p0, .int p1]) (rest := []) (ci := 1) (q0 := 0) hx hb hml hown hts (c_X1_longerBy fu l dC dI kI b (e_d ee) p0 p1 z6 e7) gX7_extensionOf_X1_longerBy qX1_longerBy rfl ⟨Nat.le_of_ble_eq_true rfl, Nat.le_of_ble_eq_true rfl⟩ ⟨rfl, rfl⟩ hNW hK hP hS (hP.sub (ws' := DWc b kI (e_d ee)) [7, 8, 9, 10, 11, 12] rfl) (hK.sub (tys' := [(kI, .int)]) [0] rfl) rfl rfl rfl hl.1 rfl rfl (Nat.le_of_ble_eq_true rfl) dX7_extensionOf_43 ⟨Nat.le_of_ble_eq_true rfl, Nat.le_of_ble_eq_true rfl⟩ (fun H locs hP hS => ?_)
    refine lv_istore_n (lv' := [(3, .int z6), (0, .ref (ca 0)), (1, .int p0), (2, .int p1)]) hx hb dX7_extensionOf_46 rfl hl (by decide) rfl (fun ls hl => ?_)
    refine lv_iload_n hx hb dX7_extensionOf_47 rfl (lv_at hl 0 rfl) ?_
    refine lv_iconst (v := -1) hx hb dX7_extensionOf_48 (by decide) ?_
    refine lv_icmp_ne (tgt := 63) hx hb dX7_extensionOf_49 (by decide) (fun c8 => ?_) (fun c8 => ?_)
    · have hJ := ite_f c8 hJ
      refine lv_iload_n hx hb dX7_extensionOf_63 rfl (lv_at hl 0 rfl) ?_
      exact xo_iret hx hb hr hlocks (Nat.le_of_ble_eq_true rfl) (Nat.le_of_ble_eq_true rfl) hS hJ dX7_extensionOf_64
    · have hJ := ite_t c8 hJ
      exact xo_throw (text := "the dictionary has no such phrase") hx hb hl0 hown hlocks hT (hl.1.trans hml.symm) (by decide +kernel) (hts _ (List.mem_of_getElem? (i := 3) rfl)) (hts _ (List.mem_of_getElem? (i := 4) rfl)) hCE (List.mem_of_getElem? (i := 14) rfl) (fun w h => hts w (List.mem_cons_of_mem _ (List.mem_append_left _ (List.mem_append_right _ h)))) gd201 hS hJ dX7_extensionOf_52 dX7_extensionOf_55 (Or.inr ⟨dX7_extensionOf_56, dX7_extensionOf_59, dX7_extensionOf_62⟩) (Nat.le_of_ble_eq_true rfl) (Nat.le_of_ble_eq_true rfl) (Nat.le_of_ble_eq_true rfl) (Nat.le_of_ble_eq_true rfl) (Nat.le_of_ble_eq_true rfl) (Nat.le_of_ble_eq_true rfl)
  · have hJ := ite_t c5 hJ
    exact xo_throw (text := "the clear code has no phrase") hx hb hl0 hown hlocks hT (hl.1.trans hml.symm) (by decide +kernel) (hts _ (List.mem_of_getElem? (i := 1) rfl)) (hts _ (List.mem_of_getElem? (i := 2) rfl)) hCE (List.mem_of_getElem? (i := 13) rfl) (fun w h => hts w (List.mem_cons_of_mem _ (List.mem_append_left _ (List.mem_append_left _ (List.mem_append_right _ h))))) gd88 hS hJ dX7_extensionOf_24 dX7_extensionOf_27 (Or.inl ⟨dX7_extensionOf_28, dX7_extensionOf_30, dX7_extensionOf_33⟩) (Nat.le_of_ble_eq_true rfl) (Nat.le_of_ble_eq_true rfl) (Nat.le_of_ble_eq_true rfl) (Nat.le_of_ble_eq_true rfl) (Nat.le_of_ble_eq_true rfl) (Nat.le_of_ble_eq_true rfl)
theorem qX7_extensionCount : (yX7_extensionCount.cls = RX7) ∧ yX7_extensionCount.cls ≠ "java/lang/invoke/MethodHandle" ∧ yX7_extensionCount.cls ≠ "java/lang/invoke/VarHandle" ∧ (parseMethodDescriptor yX7_extensionCount.desc).map (fun d => d.parameters.length) = some 1 := by decide +kernel
set_option maxHeartbeats 4000000 in
set_option maxRecDepth 100000 in
theorem c_X7_extensionCount (fu : Nat) (l : Launch) (hl0 : l.stackTraces = false) (dC : Nat → ClassId) (dI : Nat → Nat → Nat) (K : KT) (kI kE : ClassId) (ca : Nat → Nat) (a : Nat → Nat) (b : Nat → Nat) (oa : Nat → Nat) (ob : Nat → Nat) (ra : Nat → Nat) (sa : Nat → Nat) (ha : Nat → Nat) (ux : Nat → Nat → Nat) (uy : Nat → Nat → Nat) (tx : Nat) (c_tapeLength : Int32) (c_errorAt : Int32) (c_decodedLength : Int32) (f_tape : Nat → Int32) (f_dec : Nat → Int32) (ee : ES) (oo : OS) (tt : TS) (rr : RS) (sw : SS) (hh : HS) (p0 : Int32) (z : (Int32 ⊕ String)) (hJ : J_X7_extensionCount fu f_tape f_dec ee oo tt rr sw hh p0 = some z) : vx_Met l yX7_extensionCount wsX7_extensionCount ({ frames := 8, cells := 1, slots := 6, locals := 132 }) (va_Pc [.ref (ca 0), .int p0] (ROc K dC dI (([COc ca a oa ra sa ha c_tapeLength c_errorAt c_decodedLength, AWc (ca 1) kI 800 f_tape, AWc (ca 2) kI 400 f_dec, EWc a b kI ee, OOc oa ob oo, AWc (oa 1) kI 400 (o_symbols oo), DWc ob kI (o_d oo), TWc (ca 3) tx tt, RWc ra kI rr, SWc sa kI sw, HWc ha ux uy kE kI hh] : List va_W).flatten) [(kI, .int), (kE, .object "LzwCodec$Encoder")])) (xoQi z) (xoX z) 1 6 (fun _ => False) := by
  refine xo_start (cc := cX7_extensionCount) (maxL := 2) (ret := (some .int)) (by decide) rfl (Nat.le_of_ble_eq_true rfl) ?_
  intro p e s m args below meth c hx hb hr hml hown hts hlocks hNW hK hT hCE H locs ls hP hS hl
  have hown : s.vm.findClass RX7 = some m.cls := hown
  have hl : lv_has ls 2 [(0, .ref (ca 0)), (1, .int p0)] := hl
  unfold J_X7_extensionCount at hJ
  refine lv_aload_n hx hb dX7_extensionCount_0 rfl (lv_at hl 0 rfl) ?_
  refine lv_iload_n hx hb dX7_extensionCount_1 rfl (lv_at hl 1 rfl) ?_
  obtain ⟨z1, e2, hJ⟩ := bnd hJ
  refine xoVv (As := [.int p0]) (rest := []) (ci := 7) (q0 := 0) hx hb hml hown hts (c_X7_requireCode l hl0 dC dI K kI kE ca a b oa ob ra sa ha ux uy tx c_tapeLength c_errorAt c_decodedLength f_tape f_dec ee oo tt rr sw hh p0 z1 e2) gX7_extensionCount_X7_requireCode qX7_requireCode rfl ⟨Nat.le_of_ble_eq_true rfl, Nat.le_of_ble_eq_true rfl⟩ ⟨rfl, rfl⟩ hNW hCE hK hP hS hP hK rfl rfl rfl hl.1 rfl rfl (Nat.le_of_ble_eq_true rfl) dX7_extensionCount_2 ⟨Nat.le_of_ble_eq_true rfl, Nat.le_of_ble_eq_true rfl⟩ (fun E ce q9 H locs hz hP hS g1 g2 g3 => ?_) (fun hz H locs hP hS => ?_)
  · subst hz; exact xo_out hT hlocks g1 g2 g3 (Nat.le_of_ble_eq_true rfl) (Nat.le_of_ble_eq_true rfl) hJ hS
  subst hz
  have hJ := try_l hJ
  refine W.widen (k := 1) (n := 6) (Nat.le_of_ble_eq_true rfl) (Nat.le_of_ble_eq_true rfl) ?_
  refine lv_aload_n hx hb dX7_extensionCount_5 rfl (lv_at hl 0 rfl) ?_
  refine va_get (D := (dC, dI)) (ci := 7) (v := .ref (a 0)) (C := RX7) (T := TX7) (N := 11) hx hb hts (fun _ h => List.mem_cons_of_mem _ (List.mem_append_left _ (List.mem_append_left _ (List.mem_append_left _ (List.mem_append_right _ h))))) hown hK hP 0 rfl rfl 3 (by decide) (hts _ (List.mem_of_getElem? (i := 1) rfl)) (fun _ h9 => h9) rfl dX7_extensionCount_6 ?_
  refine va_getN (D := (dC, dI)) (ci := 2) (v := .ref (b 0)) (C := RX2) (T := TX2) (N := 14) hx hb hts (fun _ h => List.mem_cons_of_mem _ (List.mem_append_left _ (List.mem_append_left _ (List.mem_append_right _ h)))) hown hK hP 3 rfl rfl 0 (by decide) (hNW.use (i := 11) rfl) (fun _ h9 => h9) rfl dX7_extensionCount_9 ?_
  refine lv_iload_n hx hb dX7_extensionCount_12 rfl (lv_at hl 1 rfl) ?_
  obtain ⟨z3, e4, hJ⟩ := bnd hJ
  refine roVi (As := [.int p0]) (rest := []) (ci := 1) (q0 := 0) hx hb hml hown hts (c_X1_countLonger fu l dC dI kI b (e_d ee) p0 z3 e4) gX7_extensionCount_X1_countLonger qX1_countLonger rfl ⟨Nat.le_of_ble_eq_true rfl, Nat.le_of_ble_eq_true rfl⟩ ⟨rfl, rfl⟩ hNW hK hP hS (hP.sub (ws' := DWc b kI (e_d ee)) [7, 8, 9, 10, 11, 12] rfl) (hK.sub (tys' := [(kI, .int)]) [0] rfl) rfl rfl rfl hl.1 rfl rfl (Nat.le_of_ble_eq_true rfl) dX7_extensionCount_13 ⟨Nat.le_of_ble_eq_true rfl, Nat.le_of_ble_eq_true rfl⟩ (fun H locs hP hS => ?_)
  exact xo_iret hx hb hr hlocks (Nat.le_of_ble_eq_true rfl) (Nat.le_of_ble_eq_true rfl) hS hJ dX7_extensionCount_16
theorem qX7_longestPhrase : (yX7_longestPhrase.cls = RX7) ∧ yX7_longestPhrase.cls ≠ "java/lang/invoke/MethodHandle" ∧ yX7_longestPhrase.cls ≠ "java/lang/invoke/VarHandle" ∧ (parseMethodDescriptor yX7_longestPhrase.desc).map (fun d => d.parameters.length) = some 0 := by decide +kernel
set_option maxHeartbeats 4000000 in
set_option maxRecDepth 100000 in
theorem c_X7_longestPhrase (fu : Nat) (l : Launch) (dC : Nat → ClassId) (dI : Nat → Nat → Nat) (kI kE : ClassId) (ca : Nat → Nat) (a : Nat → Nat) (b : Nat → Nat) (oa : Nat → Nat) (ob : Nat → Nat) (ra : Nat → Nat) (sa : Nat → Nat) (ha : Nat → Nat) (ux : Nat → Nat → Nat) (uy : Nat → Nat → Nat) (tx : Nat) (c_tapeLength : Int32) (c_errorAt : Int32) (c_decodedLength : Int32) (f_tape : Nat → Int32) (f_dec : Nat → Int32) (ee : ES) (oo : OS) (tt : TS) (rr : RS) (sw : SS) (hh : HS) (z : Int32) (hJ : J_X7_longestPhrase fu ee = some z) : Met l yX7_longestPhrase wsX7_longestPhrase ({ frames := 3, cells := 0, slots := 0, locals := 64 }) (va_Pc [.ref (ca 0)] (ROp dC dI (([COc ca a oa ra sa ha c_tapeLength c_errorAt c_decodedLength, AWc (ca 1) kI 800 f_tape, AWc (ca 2) kI 400 f_dec, EWc a b kI ee, OOc oa ob oo, AWc (oa 1) kI 400 (o_symbols oo), DWc ob kI (o_d oo), TWc (ca 3) tx tt, RWc ra kI rr, SWc sa kI sw, HWc ha ux uy kE kI hh] : List va_W).flatten) [(kI, .int), (kE, .object "LzwCodec$Encoder")])) (roQi z) 0 0 (fun _ => False) := by
  refine ro_start (cc := cX7_longestPhrase) (maxL := 1) (ret := (some .int)) (by decide) rfl (Nat.le_of_ble_eq_true rfl) ?_
  intro p e s m args below meth c hx hb hr hml hown hts hlocks hNW hK H locs ls hP hS hl
  have hown : s.vm.findClass RX7 = some m.cls := hown
  have hl : lv_has ls 1 [(0, .ref (ca 0))] := hl
  unfold J_X7_longestPhrase at hJ
  refine lv_aload_n hx hb dX7_longestPhrase_0 rfl (lv_at hl 0 rfl) ?_
  refine va_get (D := (dC, dI)) (ci := 7) (v := .ref (a 0)) (C := RX7) (T := TX7) (N := 11) hx hb hts (fun _ h => List.mem_cons_of_mem _ (List.mem_append_left _ (List.mem_append_left _ (List.mem_append_right _ h)))) hown hK hP 0 rfl rfl 3 (by decide) (hts _ (List.mem_of_getElem? (i := 1) rfl)) (fun _ h9 => h9) rfl dX7_longestPhrase_1 ?_
  refine va_getN (D := (dC, dI)) (ci := 2) (v := .ref (b 0)) (C := RX2) (T := TX2) (N := 14) hx hb hts (fun _ h => List.mem_cons_of_mem _ (List.mem_append_left _ (List.mem_append_right _ h))) hown hK hP 3 rfl rfl 0 (by decide) (hNW.use (i := 11) rfl) (fun _ h9 => h9) rfl dX7_longestPhrase_4 ?_
  obtain ⟨z1, e2, hJ⟩ := bnd hJ
  refine roVi (As := []) (rest := []) (ci := 1) (q0 := 0) hx hb hml hown hts (c_X1_firstLongest fu l dC dI kI b (e_d ee) z1 e2) gX7_longestPhrase_X1_firstLongest qX1_firstLongest rfl ⟨Nat.le_of_ble_eq_true rfl, Nat.le_of_ble_eq_true rfl⟩ ⟨rfl, rfl⟩ hNW hK hP hS (hP.sub (ws' := DWc b kI (e_d ee)) [7, 8, 9, 10, 11, 12] rfl) (hK.sub (tys' := [(kI, .int)]) [0] rfl) rfl rfl rfl hl.1 rfl rfl (Nat.le_of_ble_eq_true rfl) dX7_longestPhrase_7 z0 (fun H locs hP hS => ?_)
  exact ro_iret hx hb hr hlocks hS hJ dX7_longestPhrase_10
theorem qX7_usesOf : (yX7_usesOf.cls = RX7) ∧ yX7_usesOf.cls ≠ "java/lang/invoke/MethodHandle" ∧ yX7_usesOf.cls ≠ "java/lang/invoke/VarHandle" ∧ (parseMethodDescriptor yX7_usesOf.desc).map (fun d => d.parameters.length) = some 1 := by decide +kernel
set_option maxHeartbeats 4000000 in
set_option maxRecDepth 100000 in
theorem c_X7_usesOf (fu : Nat) (l : Launch) (hl0 : l.stackTraces = false) (dC : Nat → ClassId) (dI : Nat → Nat → Nat) (K : KT) (kI kE : ClassId) (ca : Nat → Nat) (a : Nat → Nat) (b : Nat → Nat) (oa : Nat → Nat) (ob : Nat → Nat) (ra : Nat → Nat) (sa : Nat → Nat) (ha : Nat → Nat) (ux : Nat → Nat → Nat) (uy : Nat → Nat → Nat) (tx : Nat) (c_tapeLength : Int32) (c_errorAt : Int32) (c_decodedLength : Int32) (f_tape : Nat → Int32) (f_dec : Nat → Int32) (ee : ES) (oo : OS) (tt : TS) (rr : RS) (sw : SS) (hh : HS) (p0 : Int32) (z : (Int32 ⊕ String)) (hJ : J_X7_usesOf fu f_tape f_dec ee oo tt rr sw hh p0 = some z) : vx_Met l yX7_usesOf wsX7_usesOf ({ frames := 8, cells := 1, slots := 6, locals := 132 }) (va_Pc [.ref (ca 0), .int p0] (ROc K dC dI (([COc ca a oa ra sa ha c_tapeLength c_errorAt c_decodedLength, AWc (ca 1) kI 800 f_tape, AWc (ca 2) kI 400 f_dec, EWc a b kI ee, OOc oa ob oo, AWc (oa 1) kI 400 (o_symbols oo), DWc ob kI (o_d oo), TWc (ca 3) tx tt, RWc ra kI rr, SWc sa kI sw, HWc ha ux uy kE kI hh] : List va_W).flatten) [(kI, .int), (kE, .object "LzwCodec$Encoder")])) (xoQi z) (xoX z) 1 6 (fun _ => False) := by
  refine xo_start (cc := cX7_usesOf) (maxL := 2) (ret := (some .int)) (by decide) rfl (Nat.le_of_ble_eq_true rfl) ?_
  intro p e s m args below meth c hx hb hr hml hown hts hlocks hNW hK hT hCE H locs ls hP hS hl
  have hown : s.vm.findClass RX7 = some m.cls := hown
  have hl : lv_has ls 2 [(0, .ref (ca 0)), (1, .int p0)] := hl
  unfold J_X7_usesOf at hJ
  refine lv_aload_n hx hb dX7_usesOf_0 rfl (lv_at hl 0 rfl) ?_
  refine lv_iload_n hx hb dX7_usesOf_1 rfl (lv_at hl 1 rfl) ?_
  obtain ⟨z1, e2, hJ⟩ := bnd hJ
  refine xoVv (As := [.int p0]) (rest := []) (ci := 7) (q0 := 0) hx hb hml hown hts (c_X7_requireCode l hl0 dC dI K kI kE ca a b oa ob ra sa ha ux uy tx c_tapeLength c_errorAt c_decodedLength f_tape f_dec ee oo tt rr sw hh p0 z1 e2) gX7_usesOf_X7_requireCode qX7_requireCode rfl ⟨Nat.le_of_ble_eq_true rfl, Nat.le_of_ble_eq_true rfl⟩ ⟨rfl, rfl⟩ hNW hCE hK hP hS hP hK rfl rfl rfl hl.1 rfl rfl (Nat.le_of_ble_eq_true rfl) dX7_usesOf_2 ⟨Nat.le_of_ble_eq_true rfl, Nat.le_of_ble_eq_true rfl⟩ (fun E ce q9 H locs hz hP hS g1 g2 g3 => ?_) (fun hz H locs hP hS => ?_)
  · subst hz; exact xo_out hT hlocks g1 g2 g3 (Nat.le_of_ble_eq_true rfl) (Nat.le_of_ble_eq_true rfl) hJ hS
  subst hz
  have hJ := try_l hJ
  refine W.widen (k := 1) (n := 6) (Nat.le_of_ble_eq_true rfl) (Nat.le_of_ble_eq_true rfl) ?_
  refine lv_aload_n hx hb dX7_usesOf_5 rfl (lv_at hl 0 rfl) ?_
  refine va_get (D := (dC, dI)) (ci := 7) (v := .ref (a 0)) (C := RX7) (T := TX7) (N := 11) hx hb hts (fun _ h => List.mem_cons_of_mem _ (List.mem_append_left _ (List.mem_append_left _ (List.mem_append_left _ (List.mem_append_right _ h))))) hown hK hP 0 rfl rfl 3 (by decide) (hts _ (List.mem_of_getElem? (i := 1) rfl)) (fun _ h9 => h9) rfl dX7_usesOf_6 ?_
  refine lv_iload_n hx hb dX7_usesOf_9 rfl (lv_at hl 1 rfl) ?_
  obtain ⟨z3, e4, hJ⟩ := bnd hJ
  refine roVi (As := [.int p0]) (rest := []) (ci := 2) (q0 := 0) hx hb hml hown hts (c_X2_countWritten fu l dC dI kI a b ee p0 z3 e4) gX7_usesOf_X2_countWritten qX2_countWritten rfl ⟨Nat.le_of_ble_eq_true rfl, Nat.le_of_ble_eq_true rfl⟩ ⟨rfl, rfl⟩ hNW hK hP hS (fl_sub (L := [COc ca a oa ra sa ha c_tapeLength c_errorAt c_decodedLength, AWc (ca 1) kI 800 f_tape, AWc (ca 2) kI 400 f_dec, EWc a b kI ee, OOc oa ob oo, AWc (oa 1) kI 400 (o_symbols oo), DWc ob kI (o_d oo), TWc (ca 3) tx tt, RWc ra kI rr, SWc sa kI sw, HWc ha ux uy kE kI hh]) (Lc := [EWc a b kI ee]) (wc := EWc a b kI ee) hP [3] rfl (by simp only [List.flatten_cons, List.flatten_nil, List.append_nil, List.append_assoc] <;> rfl)) (hK.sub (tys' := [(kI, .int)]) [0] rfl) rfl rfl rfl hl.1 rfl rfl (Nat.le_of_ble_eq_true rfl) dX7_usesOf_10 ⟨Nat.le_of_ble_eq_true rfl, Nat.le_of_ble_eq_true rfl⟩ (fun H locs hP hS => ?_)
  exact xo_iret hx hb hr hlocks (Nat.le_of_ble_eq_true rfl) (Nat.le_of_ble_eq_true rfl) hS hJ dX7_usesOf_13
theorem qX7_codeOfTape : (yX7_codeOfTape.cls = RX7) ∧ yX7_codeOfTape.cls ≠ "java/lang/invoke/MethodHandle" ∧ yX7_codeOfTape.cls ≠ "java/lang/invoke/VarHandle" ∧ (parseMethodDescriptor yX7_codeOfTape.desc).map (fun d => d.parameters.length) = some 0 := by decide +kernel
set_option maxHeartbeats 4000000 in
set_option maxRecDepth 100000 in
theorem c_X7_codeOfTape (fu : Nat) (l : Launch) (dC : Nat → ClassId) (dI : Nat → Nat → Nat) (kI kE : ClassId) (ca : Nat → Nat) (a : Nat → Nat) (b : Nat → Nat) (oa : Nat → Nat) (ob : Nat → Nat) (ra : Nat → Nat) (sa : Nat → Nat) (ha : Nat → Nat) (ux : Nat → Nat → Nat) (uy : Nat → Nat → Nat) (tx : Nat) (c_tapeLength : Int32) (c_errorAt : Int32) (c_decodedLength : Int32) (f_tape : Nat → Int32) (f_dec : Nat → Int32) (ee : ES) (oo : OS) (tt : TS) (rr : RS) (sw : SS) (hh : HS) (z : Int32) (hJ : J_X7_codeOfTape fu c_tapeLength f_tape f_dec ee oo tt rr sw hh = some z) : Met l yX7_codeOfTape wsX7_codeOfTape ({ frames := 2, cells := 0, slots := 0, locals := 45 }) (va_Pc [.ref (ca 0)] (ROp dC dI (([COc ca a oa ra sa ha c_tapeLength c_errorAt c_decodedLength, AWc (ca 1) kI 800 f_tape, AWc (ca 2) kI 400 f_dec, EWc a b kI ee, OOc oa ob oo, AWc (oa 1) kI 400 (o_symbols oo), DWc ob kI (o_d oo), TWc (ca 3) tx tt, RWc ra kI rr, SWc sa kI sw, HWc ha ux uy kE kI hh] : List va_W).flatten) [(kI, .int), (kE, .object "LzwCodec$Encoder")])) (roQi z) 0 0 (fun _ => False) := by
  refine ro_start (cc := cX7_codeOfTape) (maxL := 4) (ret := (some .int)) (by decide) rfl (Nat.le_of_ble_eq_true rfl) ?_
  intro p e s m args below meth c hx hb hr hml hown hts hlocks hNW hK H locs ls hP hS hl
  have hown : s.vm.findClass RX7 = some m.cls := hown
  have hl : lv_has ls 4 [(0, .ref (ca 0))] := hl
  unfold J_X7_codeOfTape at hJ
  have L4 : ∀ (n : Nat) (y1 : Int32) (y2 : Int32) (H : Heap) (locs : List Loc) (ls : Array Slot), va_P (dC, dI) vwCl (([COc ca a oa ra sa ha c_tapeLength c_errorAt c_decodedLength, AWc (ca 1) kI 800 f_tape, AWc (ca 2) kI 400 f_dec, EWc a b kI ee, OOc oa ob oo, AWc (oa 1) kI 400 (o_symbols oo), DWc ob kI (o_d oo), TWc (ca 3) tx tt, RWc ra kI rr, SWc sa kI sw, HWc ha ux uy kE kI hh] : List va_W).flatten) H → va_S (fun _ => False) s.heap H locs → lv_has ls 4 [(0, .ref (ca 0)), (1, .int y1), (2, .int y2)] → J_X7_codeOfTape_b4 fu c_tapeLength f_tape f_dec ee oo tt rr sw hh n y1 y2 = some z → W p l e ({ frames := 2, cells := 0, slots := 0, locals := 45 }) s m args below meth c H locs 0 0 (MQ below (roQi z) args s 0 0 (fun _ => False)) (F0 m 4 ls []) := by
    intro n
    induction n with
    | zero =>
      intro y1 y2 H locs ls hP hS hl hJ
      rw [J_X7_codeOfTape_b4] at hJ; cases hJ
    | succ n ih =>
      intro y1 y2 H locs ls hP hS hl hJ
      rw [J_X7_codeOfTape_b4] at hJ
      refine lv_iload_n hx hb dX7_codeOfTape_4 rfl (lv_at hl 2 rfl) ?_
      refine lv_aload_n hx hb dX7_codeOfTape_5 rfl (lv_at hl 0 rfl) ?_
      refine va_get (D := (dC, dI)) (ci := 7) (v := .int c_tapeLength) (C := RX7) (T := TX7) (N := 11) hx hb hts (fun _ h => List.mem_cons_of_mem _ (List.mem_append_left _ (List.mem_append_left _ (List.mem_append_right _ h)))) hown hK hP 0 rfl rfl 1 (by decide) (hts _ (List.mem_of_getElem? (i := 1) rfl)) (fun _ h9 => h9) rfl dX7_codeOfTape_6 ?_
      refine lv_icmp_ge (tgt := 68) hx hb dX7_codeOfTape_9 (by decide) (fun c1 => ?_) (fun c1 => ?_)
      · have hJ := ite_t c1 hJ
        refine lv_iload_n hx hb dX7_codeOfTape_68 rfl (lv_at hl 1 rfl) ?_
        exact ro_iret hx hb hr hlocks hS hJ dX7_codeOfTape_69
      · have hJ := ite_f c1 hJ
        refine lv_aload_n hx hb dX7_codeOfTape_12 rfl (lv_at hl 0 rfl) ?_
        refine va_get (D := (dC, dI)) (ci := 7) (v := .ref (ca 1)) (C := RX7) (T := TX7) (N := 11) hx hb hts (fun _ h => List.mem_cons_of_mem _ (List.mem_append_left _ (List.mem_append_left _ (List.mem_append_right _ h)))) hown hK hP 0 rfl rfl 0 (by decide) (hts _ (List.mem_of_getElem? (i := 2) rfl)) (fun _ h9 => h9) rfl dX7_codeOfTape_13 ?_
        refine lv_iload_n hx hb dX7_codeOfTape_16 rfl (lv_at hl 2 rfl) ?_
        obtain ⟨z2, e3, hJ⟩ := bnd hJ
        refine roSi (As := [.ref (ca 1), .int y2]) (rest := []) hx hb hml hown hts (c_X7_at l dC dI kI (ca 1) 800 f_tape y2 z2 e3) gX7_codeOfTape_X7_at qX7_at rfl ⟨Nat.le_of_ble_eq_true rfl, Nat.le_of_ble_eq_true rfl⟩ ⟨rfl, rfl⟩ hNW hK hP hS (fl_sub (L := [COc ca a oa ra sa ha c_tapeLength c_errorAt c_decodedLength, AWc (ca 1) kI 800 f_tape, AWc (ca 2) kI 400 f_dec, EWc a b kI ee, OOc oa ob oo, AWc (oa 1) kI 400 (o_symbols oo), DWc ob kI (o_d oo), TWc (ca 3) tx tt, RWc ra kI rr, SWc sa kI sw, HWc ha ux uy kE kI hh]) (Lc := [AWc (ca 1) kI 800 f_tape]) (wc := AWc (ca 1) kI 800 f_tape) hP [1] rfl (by simp only [List.flatten_cons, List.flatten_nil, List.append_nil, List.append_assoc] <;> rfl)) (hK.sub (tys' := [(kI, .int)]) [0] rfl) hl.1 rfl rfl (Nat.le_of_ble_eq_true rfl) dX7_codeOfTape_17 z0 (fun H locs hP hS => ?_)
        refine lv_bipush (v := 97) hx hb dX7_codeOfTape_20 (by decide) ?_
        refine lv_isub hx hb dX7_codeOfTape_22 ?_
        refine lv_istore_n (lv' := [(3, .int (z2 - (97 : Int32))), (0, .ref (ca 0)), (1, .int y1), (2, .int y2)]) hx hb dX7_codeOfTape_23 rfl hl (by decide) rfl (fun ls hl => ?_)
        refine lv_aload_n hx hb dX7_codeOfTape_24 rfl (lv_at hl 1 rfl) ?_
        refine lv_iload_n hx hb dX7_codeOfTape_25 rfl (lv_at hl 0 rfl) ?_
        obtain ⟨z4, e5, hJ⟩ := bnd hJ
        refine roVi (As := [.int (z2 - (97 : Int32))]) (rest := []) (ci := 7) (q0 := 0) hx hb hml hown hts (c_X7_isSymbol l dC dI kI kE ca a b oa ob ra sa ha ux uy tx c_tapeLength c_errorAt c_decodedLength f_tape f_dec ee oo tt rr sw hh (z2 - (97 : Int32)) z4 e5) gX7_codeOfTape_X7_isSymbol qX7_isSymbol rfl ⟨Nat.le_of_ble_eq_true rfl, Nat.le_of_ble_eq_true rfl⟩ ⟨rfl, rfl⟩ hNW hK hP hS hP hK rfl rfl rfl hl.1 rfl rfl (Nat.le_of_ble_eq_true rfl) dX7_codeOfTape_26 z0 (fun H locs hP hS => ?_)
        refine lv_if_ne (tgt := 34) hx hb dX7_codeOfTape_29 (by decide) (fun c6 => ?_) (fun c6 => ?_)
        · have hJ := ite_f c6 hJ
          refine lv_iload_n hx hb dX7_codeOfTape_34 rfl (lv_at hl 3 rfl) ?_
          refine lv_if_ne (tgt := 42) hx hb dX7_codeOfTape_35 (by decide) (fun c7 => ?_) (fun c7 => ?_)
          · have hJ := ite_f c7 hJ
            refine lv_aload_n hx hb dX7_codeOfTape_42 rfl (lv_at hl 1 rfl) ?_
            refine va_get (D := (dC, dI)) (ci := 7) (v := .ref (a 0)) (C := RX7) (T := TX7) (N := 11) hx hb hts (fun _ h => List.mem_cons_of_mem _ (List.mem_append_left _ (List.mem_append_left _ (List.mem_append_right _ h)))) hown hK hP 0 rfl rfl 3 (by decide) (hts _ (List.mem_of_getElem? (i := 3) rfl)) (fun _ h9 => h9) rfl dX7_codeOfTape_43 ?_
            refine va_getN (D := (dC, dI)) (ci := 2) (v := .ref (b 0)) (C := RX2) (T := TX2) (N := 14) hx hb hts (fun _ h => List.mem_cons_of_mem _ (List.mem_append_left _ (List.mem_append_right _ h))) hown hK hP 3 rfl rfl 0 (by decide) (hNW.use (i := 11) rfl) (fun _ h9 => h9) rfl dX7_codeOfTape_46 ?_
            refine lv_iload_n hx hb dX7_codeOfTape_49 rfl (lv_at hl 2 rfl) ?_
            refine lv_iload_n hx hb dX7_codeOfTape_50 rfl (lv_at hl 0 rfl) ?_
            obtain ⟨z8, e9, hJ⟩ := bnd hJ
            refine roVi (As := [.int y1, .int (z2 - (97 : Int32))]) (rest := []) (ci := 1) (q0 := 0) hx hb hml hown hts (c_X1_longerBy fu l dC dI kI b (e_d ee) y1 (z2 - (97 : Int32)) z8 e9) gX7_codeOfTape_X1_longerBy qX1_longerBy rfl ⟨Nat.le_of_ble_eq_true rfl, Nat.le_of_ble_eq_true rfl⟩ ⟨rfl, rfl⟩ hNW hK hP hS (hP.sub (ws' := DWc b kI (e_d ee)) [7, 8, 9, 10, 11, 12] rfl) (hK.sub (tys' := [(kI, .int)]) [0] rfl) rfl rfl rfl hl.1 rfl rfl (Nat.le_of_ble_eq_true rfl) dX7_codeOfTape_51 z0 (fun H locs hP hS => ?_)
            refine lv_istore_n (lv' := [(1, .int z8), (3, .int (z2 - (97 : Int32))), (0, .ref (ca 0)), (2, .int y2)]) hx hb dX7_codeOfTape_54 rfl hl (by decide) rfl (fun ls hl => ?_)
            refine lv_iload_n hx hb dX7_codeOfTape_55 rfl (lv_at hl 0 rfl) ?_
            refine lv_iconst (v := -1) hx hb dX7_codeOfTape_56 (by decide) ?_
            refine lv_icmp_ne (tgt := 62) hx hb dX7_codeOfTape_57 (by decide) (fun c10 => ?_) (fun c10 => ?_)
            · have hJ := ite_f c10 hJ
              refine lv_iinc (v := y2 + 1) (lv' := [(2, .int (y2 + 1)), (1, .int z8), (3, .int (z2 - (97 : Int32))), (0, .ref (ca 0))]) hx hb dX7_codeOfTape_62 hl (k := 3) rfl rfl (by decide) rfl (fun ls hl => ?_)
              refine lv_goto (tgt := 4) hx hb dX7_codeOfTape_65 (by decide) ?_
              exact ih z8 (y2 + 1) H locs ls hP hS (lv_sub hl [3, 1, 0] rfl) hJ
            · have hJ := ite_t c10 hJ
              refine lv_iconst (v := -1) hx hb dX7_codeOfTape_60 (by decide) ?_
              exact ro_iret hx hb hr hlocks hS hJ dX7_codeOfTape_61
          · have hJ := ite_t c7 hJ
            refine lv_iload_n hx hb dX7_codeOfTape_38 rfl (lv_at hl 0 rfl) ?_
            refine lv_goto (tgt := 54) hx hb dX7_codeOfTape_39 (by decide) ?_
            refine lv_istore_n (lv' := [(1, .int (z2 - (97 : Int32))), (3, .int (z2 - (97 : Int32))), (0, .ref (ca 0)), (2, .int y2)]) hx hb dX7_codeOfTape_54 rfl hl (by decide) rfl (fun ls hl => ?_)
            refine lv_iload_n hx hb dX7_codeOfTape_55 rfl (lv_at hl 0 rfl) ?_
            refine lv_iconst (v := -1) hx hb dX7_codeOfTape_56 (by decide) ?_
            refine lv_icmp_ne (tgt := 62) hx hb dX7_codeOfTape_57 (by decide) (fun c11 => ?_) (fun c11 => ?_)
            · have hJ := ite_f c11 hJ
              refine lv_iinc (v := y2 + 1) (lv' := [(2, .int (y2 + 1)), (1, .int (z2 - (97 : Int32))), (3, .int (z2 - (97 : Int32))), (0, .ref (ca 0))]) hx hb dX7_codeOfTape_62 hl (k := 3) rfl rfl (by decide) rfl (fun ls hl => ?_)
              refine lv_goto (tgt := 4) hx hb dX7_codeOfTape_65 (by decide) ?_
              exact ih (z2 - (97 : Int32)) (y2 + 1) H locs ls hP hS (lv_sub hl [3, 1, 0] rfl) hJ
            · have hJ := ite_t c11 hJ
              refine lv_iconst (v := -1) hx hb dX7_codeOfTape_60 (by decide) ?_
              exact ro_iret hx hb hr hlocks hS hJ dX7_codeOfTape_61
        · have hJ := ite_t c6 hJ
          refine lv_iconst (v := -1) hx hb dX7_codeOfTape_32 (by decide) ?_
          exact ro_iret hx hb hr hlocks hS hJ dX7_codeOfTape_33
  refine lv_iconst (v := -1) hx hb dX7_codeOfTape_0 (by decide) ?_
  refine lv_istore_n (lv' := [(1, .int (-1 : Int32)), (0, .ref (ca 0))]) hx hb dX7_codeOfTape_1 rfl hl (by decide) rfl (fun ls hl => ?_)
  refine lv_iconst (v := 0) hx hb dX7_codeOfTape_2 (by decide) ?_
  refine lv_istore_n (lv' := [(2, .int (0 : Int32)), (1, .int (-1 : Int32)), (0, .ref (ca 0))]) hx hb dX7_codeOfTape_3 rfl hl (by decide) rfl (fun ls hl => ?_)
  exact L4 fu (-1 : Int32) (0 : Int32) H locs ls hP hS (lv_sub hl [2, 1, 0] rfl) hJ
theorem qX7_findTape : (yX7_findTape.cls = RX7) ∧ yX7_findTape.cls ≠ "java/lang/invoke/MethodHandle" ∧ yX7_findTape.cls ≠ "java/lang/invoke/VarHandle" ∧ (parseMethodDescriptor yX7_findTape.desc).map (fun d => d.parameters.length) = some 0 := by decide +kernel
set_option maxHeartbeats 4000000 in
set_option maxRecDepth 100000 in
theorem c_X7_findTape (fu : Nat) (l : Launch) (hl0 : l.stackTraces = false) (dC : Nat → ClassId) (dI : Nat → Nat → Nat) (K : KT) (kI kE : ClassId) (ca : Nat → Nat) (a : Nat → Nat) (b : Nat → Nat) (oa : Nat → Nat) (ob : Nat → Nat) (ra : Nat → Nat) (sa : Nat → Nat) (ha : Nat → Nat) (ux : Nat → Nat → Nat) (uy : Nat → Nat → Nat) (tx : Nat) (c_tapeLength : Int32) (c_errorAt : Int32) (c_decodedLength : Int32) (f_tape : Nat → Int32) (f_dec : Nat → Int32) (ee : ES) (oo : OS) (tt : TS) (rr : RS) (sw : SS) (hh : HS) (z : (Int32 ⊕ String)) (hJ : J_X7_findTape fu c_tapeLength f_tape f_dec ee oo tt rr sw hh = some z) : vx_Met l yX7_findTape wsX7_findTape ({ frames := 6, cells := 1, slots := 6, locals := 90 }) (va_Pc [.ref (ca 0)] (ROc K dC dI (([COc ca a oa ra sa ha c_tapeLength c_errorAt c_decodedLength, AWc (ca 1) kI 800 f_tape, AWc (ca 2) kI 400 f_dec, EWc a b kI ee, OOc oa ob oo, AWc (oa 1) kI 400 (o_symbols oo), DWc ob kI (o_d oo), TWc (ca 3) tx tt, RWc ra kI rr, SWc sa kI sw, HWc ha ux uy kE kI hh] : List va_W).flatten) [(kI, .int), (kE, .object "LzwCodec$Encoder")])) (xoQi z) (xoX z) 1 6 (fun _ => False) := by
  refine xo_start (cc := cX7_findTape) (maxL := 2) (ret := (some .int)) (by decide) rfl (Nat.le_of_ble_eq_true rfl) ?_
  intro p e s m args below meth c hx hb hr hml hown hts hlocks hNW hK hT hCE H locs ls hP hS hl
  have hown : s.vm.findClass RX7 = some m.cls := hown
  have hl : lv_has ls 2 [(0, .ref (ca 0))] := hl
  unfold J_X7_findTape at hJ
  refine lv_aload_n hx hb dX7_findTape_0 rfl (lv_at hl 0 rfl) ?_
  obtain ⟨z1, e2, hJ⟩ := bnd hJ
  refine roVi (As := []) (rest := []) (ci := 7) (q0 := 0) hx hb hml hown hts (c_X7_codeOfTape fu l dC dI kI kE ca a b oa ob ra sa ha ux uy tx c_tapeLength c_errorAt c_decodedLength f_tape f_dec ee oo tt rr sw hh z1 e2) gX7_findTape_X7_codeOfTape qX7_codeOfTape rfl ⟨Nat.le_of_ble_eq_true rfl, Nat.le_of_ble_eq_true rfl⟩ ⟨rfl, rfl⟩ hNW hK hP hS hP hK rfl rfl rfl hl.1 rfl rfl (Nat.le_of_ble_eq_true rfl) dX7_findTape_1 z0 (fun H locs hP hS => ?_)
  refine lv_istore_n (lv' := [(1, .int z1), (0, .ref (ca 0))]) hx hb dX7_findTape_4 rfl hl (by decide) rfl (fun ls hl => ?_)
  refine lv_iload_n hx hb dX7_findTape_5 rfl (lv_at hl 0 rfl) ?_
  refine lv_iconst (v := -1) hx hb dX7_findTape_6 (by decide) ?_
  refine lv_icmp_ne (tgt := 21) hx hb dX7_findTape_7 (by decide) (fun c3 => ?_) (fun c3 => ?_)
  · have hJ := ite_f c3 hJ
    refine lv_iload_n hx hb dX7_findTape_21 rfl (lv_at hl 0 rfl) ?_
    exact xo_iret hx hb hr hlocks (Nat.le_of_ble_eq_true rfl) (Nat.le_of_ble_eq_true rfl) hS hJ dX7_findTape_22
  · have hJ := ite_t c3 hJ
    exact xo_throw (text := "the dictionary has no such phrase") hx hb hl0 hown hlocks hT (hl.1.trans hml.symm) (by decide +kernel) (hts _ (List.mem_of_getElem? (i := 1) rfl)) (hts _ (List.mem_of_getElem? (i := 2) rfl)) hCE (List.mem_of_getElem? (i := 14) rfl) (fun w h => hts w (List.mem_cons_of_mem _ (List.mem_append_right _ h))) gd201 hS hJ dX7_findTape_10 dX7_findTape_13 (Or.inr ⟨dX7_findTape_14, dX7_findTape_17, dX7_findTape_20⟩) (Nat.le_of_ble_eq_true rfl) (Nat.le_of_ble_eq_true rfl) (Nat.le_of_ble_eq_true rfl) (Nat.le_of_ble_eq_true rfl) (Nat.le_of_ble_eq_true rfl) (Nat.le_of_ble_eq_true rfl)
theorem qX7_hasPhrase : (yX7_hasPhrase.cls = RX7) ∧ yX7_hasPhrase.cls ≠ "java/lang/invoke/MethodHandle" ∧ yX7_hasPhrase.cls ≠ "java/lang/invoke/VarHandle" ∧ (parseMethodDescriptor yX7_hasPhrase.desc).map (fun d => d.parameters.length) = some 0 := by decide +kernel
set_option maxHeartbeats 4000000 in
set_option maxRecDepth 100000 in
theorem c_X7_hasPhrase (l : Launch) (dC : Nat → ClassId) (dI : Nat → Nat → Nat) (kI kE : ClassId) (ca : Nat → Nat) (a : Nat → Nat) (b : Nat → Nat) (oa : Nat → Nat) (ob : Nat → Nat) (ra : Nat → Nat) (sa : Nat → Nat) (ha : Nat → Nat) (ux : Nat → Nat → Nat) (uy : Nat → Nat → Nat) (tx : Nat) (c_tapeLength : Int32) (c_errorAt : Int32) (c_decodedLength : Int32) (f_tape : Nat → Int32) (f_dec : Nat → Int32) (ee : ES) (oo : OS) (tt : TS) (rr : RS) (sw : SS) (hh : HS) (z : Int32) (hJ : J_X7_hasPhrase ee = some z) : Met l yX7_hasPhrase wsX7_hasPhrase ({ frames := 0, cells := 0, slots := 0, locals := 0 }) (va_Pc [.ref (ca 0)] (ROp dC dI (([COc ca a oa ra sa ha c_tapeLength c_errorAt c_decodedLength, AWc (ca 1) kI 800 f_tape, AWc (ca 2) kI 400 f_dec, EWc a b kI ee, OOc oa ob oo, AWc (oa 1) kI 400 (o_symbols oo), DWc ob kI (o_d oo), TWc (ca 3) tx tt, RWc ra kI rr, SWc sa kI sw, HWc ha ux uy kE kI hh] : List va_W).flatten) [(kI, .int), (kE, .object "LzwCodec$Encoder")])) (roQi z) 0 0 (fun _ => False) := by
  refine ro_start (cc := cX7_hasPhrase) (maxL := 1) (ret := (some .boolean)) (by decide) rfl (Nat.le_of_ble_eq_true rfl) ?_
  intro p e s m args below meth c hx hb hr hml hown hts hlocks hNW hK H locs ls hP hS hl
  have hown : s.vm.findClass RX7 = some m.cls := hown
  have hl : lv_has ls 1 [(0, .ref (ca 0))] := hl
  unfold J_X7_hasPhrase at hJ
  refine lv_aload_n hx hb dX7_hasPhrase_0 rfl (lv_at hl 0 rfl) ?_
  refine va_get (D := (dC, dI)) (ci := 7) (v := .ref (a 0)) (C := RX7) (T := TX7) (N := 11) hx hb hts (fun _ h => List.mem_cons_of_mem _ (List.mem_append_left _ (List.mem_append_right _ h))) hown hK hP 0 rfl rfl 3 (by decide) (hts _ (List.mem_of_getElem? (i := 1) rfl)) (fun _ h9 => h9) rfl dX7_hasPhrase_1 ?_
  refine va_getN (D := (dC, dI)) (ci := 2) (v := .int (e_phrase ee)) (C := RX2) (T := TX2) (N := 14) hx hb hts (fun _ h => List.mem_cons_of_mem _ (List.mem_append_right _ h)) hown hK hP 3 rfl rfl 3 (by decide) (hNW.use (i := 16) rfl) (fun _ h9 => h9) rfl dX7_hasPhrase_4 ?_
  refine lv_iconst (v := -1) hx hb dX7_hasPhrase_7 (by decide) ?_
  refine lv_icmp_eq (tgt := 15) hx hb dX7_hasPhrase_8 (by decide) (fun c1 => ?_) (fun c1 => ?_)
  · have hJ := ite_t c1 hJ
    refine lv_iconst (v := 0) hx hb dX7_hasPhrase_15 (by decide) ?_
    exact ro_zret hx hb hr hlocks rfl hS hJ dX7_hasPhrase_16
  · have hJ := ite_f c1 hJ
    refine lv_iconst (v := 1) hx hb dX7_hasPhrase_11 (by decide) ?_
    refine lv_goto (tgt := 16) hx hb dX7_hasPhrase_12 (by decide) ?_
    exact ro_zret hx hb hr hlocks rfl hS hJ dX7_hasPhrase_16
theorem qX7_currentPhrase : (yX7_currentPhrase.cls = RX7) ∧ yX7_currentPhrase.cls ≠ "java/lang/invoke/MethodHandle" ∧ yX7_currentPhrase.cls ≠ "java/lang/invoke/VarHandle" ∧ (parseMethodDescriptor yX7_currentPhrase.desc).map (fun d => d.parameters.length) = some 0 := by decide +kernel
set_option maxHeartbeats 4000000 in
set_option maxRecDepth 100000 in
theorem c_X7_currentPhrase (l : Launch) (hl0 : l.stackTraces = false) (dC : Nat → ClassId) (dI : Nat → Nat → Nat) (K : KT) (kI kE : ClassId) (ca : Nat → Nat) (a : Nat → Nat) (b : Nat → Nat) (oa : Nat → Nat) (ob : Nat → Nat) (ra : Nat → Nat) (sa : Nat → Nat) (ha : Nat → Nat) (ux : Nat → Nat → Nat) (uy : Nat → Nat → Nat) (tx : Nat) (c_tapeLength : Int32) (c_errorAt : Int32) (c_decodedLength : Int32) (f_tape : Nat → Int32) (f_dec : Nat → Int32) (ee : ES) (oo : OS) (tt : TS) (rr : RS) (sw : SS) (hh : HS) (z : (Int32 ⊕ String)) (hJ : J_X7_currentPhrase ee = some z) : vx_Met l yX7_currentPhrase wsX7_currentPhrase ({ frames := 6, cells := 1, slots := 6, locals := 90 }) (va_Pc [.ref (ca 0)] (ROc K dC dI (([COc ca a oa ra sa ha c_tapeLength c_errorAt c_decodedLength, AWc (ca 1) kI 800 f_tape, AWc (ca 2) kI 400 f_dec, EWc a b kI ee, OOc oa ob oo, AWc (oa 1) kI 400 (o_symbols oo), DWc ob kI (o_d oo), TWc (ca 3) tx tt, RWc ra kI rr, SWc sa kI sw, HWc ha ux uy kE kI hh] : List va_W).flatten) [(kI, .int), (kE, .object "LzwCodec$Encoder")])) (xoQi z) (xoX z) 1 6 (fun _ => False) := by
  refine xo_start (cc := cX7_currentPhrase) (maxL := 1) (ret := (some .int)) (by decide) rfl (Nat.le_of_ble_eq_true rfl) ?_
  intro p e s m args below meth c hx hb hr hml hown hts hlocks hNW hK hT hCE H locs ls hP hS hl
  have hown : s.vm.findClass RX7 = some m.cls := hown
  have hl : lv_has ls 1 [(0, .ref (ca 0))] := hl
  unfold J_X7_currentPhrase at hJ
  refine lv_aload_n hx hb dX7_currentPhrase_0 rfl (lv_at hl 0 rfl) ?_
  refine va_get (D := (dC, dI)) (ci := 7) (v := .ref (a 0)) (C := RX7) (T := TX7) (N := 11) hx hb hts (fun _ h => List.mem_cons_of_mem _ (List.mem_append_left _ (List.mem_append_left _ (List.mem_append_right _ h)))) hown hK hP 0 rfl rfl 3 (by decide) (hts _ (List.mem_of_getElem? (i := 3) rfl)) (fun _ h9 => h9) rfl dX7_currentPhrase_1 ?_
  refine va_getN (D := (dC, dI)) (ci := 2) (v := .int (e_phrase ee)) (C := RX2) (T := TX2) (N := 14) hx hb hts (fun _ h => List.mem_cons_of_mem _ (List.mem_append_left _ (List.mem_append_right _ h))) hown hK hP 3 rfl rfl 3 (by decide) (hNW.use (i := 16) rfl) (fun _ h9 => h9) rfl dX7_currentPhrase_4 ?_
  refine lv_iconst (v := -1) hx hb dX7_currentPhrase_7 (by decide) ?_
  refine lv_icmp_ne (tgt := 22) hx hb dX7_currentPhrase_8 (by decide) (fun c1 => ?_) (fun c1 => ?_)
  · have hJ := ite_f c1 hJ
    refine lv_aload_n hx hb dX7_currentPhrase_22 rfl (lv_at hl 0 rfl) ?_
    refine va_get (D := (dC, dI)) (ci := 7) (v := .ref (a 0)) (C := RX7) (T := TX7) (N := 11) hx hb hts (fun _ h => List.mem_cons_of_mem _ (List.mem_append_left _ (List.mem_append_left _ (List.mem_append_right _ h)))) hown hK hP 0 rfl rfl 3 (by decide) (hts _ (List.mem_of_getElem? (i := 3) rfl)) (fun _ h9 => h9) rfl dX7_currentPhrase_23 ?_
    refine va_getN (D := (dC, dI)) (ci := 2) (v := .int (e_phrase ee)) (C := RX2) (T := TX2) (N := 14) hx hb hts (fun _ h => List.mem_cons_of_mem _ (List.mem_append_left _ (List.mem_append_right _ h))) hown hK hP 3 rfl rfl 3 (by decide) (hNW.use (i := 16) rfl) (fun _ h9 => h9) rfl dX7_currentPhrase_26 ?_
    exact xo_iret hx hb hr hlocks (Nat.le_of_ble_eq_true rfl) (Nat.le_of_ble_eq_true rfl) hS hJ dX7_currentPhrase_29
  · have hJ := ite_t c1 hJ
    exact xo_throw (text := "there is no current phrase") hx hb hl0 hown hlocks hT (hl.1.trans hml.symm) (by decide +kernel) (hts _ (List.mem_of_getElem? (i := 1) rfl)) (hts _ (List.mem_of_getElem? (i := 2) rfl)) hCE (List.mem_of_getElem? (i := 17) rfl) (fun w h => hts w (List.mem_cons_of_mem _ (List.mem_append_right _ h))) gd201 hS hJ dX7_currentPhrase_11 dX7_currentPhrase_14 (Or.inr ⟨dX7_currentPhrase_15, dX7_currentPhrase_18, dX7_currentPhrase_21⟩) (Nat.le_of_ble_eq_true rfl) (Nat.le_of_ble_eq_true rfl) (Nat.le_of_ble_eq_true rfl) (Nat.le_of_ble_eq_true rfl) (Nat.le_of_ble_eq_true rfl) (Nat.le_of_ble_eq_true rfl)
theorem qX7_codesIfEncoded : (yX7_codesIfEncoded.cls = RX7) ∧ yX7_codesIfEncoded.cls ≠ "java/lang/invoke/MethodHandle" ∧ yX7_codesIfEncoded.cls ≠ "java/lang/invoke/VarHandle" ∧ (parseMethodDescriptor yX7_codesIfEncoded.desc).map (fun d => d.parameters.length) = some 1 := by decide +kernel
set_option maxHeartbeats 4000000 in
set_option maxRecDepth 100000 in
theorem c_X7_codesIfEncoded (fu : Nat) (l : Launch) (hl0 : l.stackTraces = false) (dC : Nat → ClassId) (dI : Nat → Nat → Nat) (K : KT) (kI kE : ClassId) (ca : Nat → Nat) (a : Nat → Nat) (b : Nat → Nat) (oa : Nat → Nat) (ob : Nat → Nat) (ra : Nat → Nat) (sa : Nat → Nat) (ha : Nat → Nat) (ux : Nat → Nat → Nat) (uy : Nat → Nat → Nat) (tx : Nat) (c_tapeLength : Int32) (c_errorAt : Int32) (c_decodedLength : Int32) (f_tape : Nat → Int32) (f_dec : Nat → Int32) (ee : ES) (oo : OS) (tt : TS) (rr : RS) (sw : SS) (hh : HS) (p0 : Int32) (z : (Int32 ⊕ String)) (hJ : J_X7_codesIfEncoded fu f_tape f_dec ee oo tt rr sw hh p0 = some z) : vx_Met l yX7_codesIfEncoded wsX7_codesIfEncoded ({ frames := 7, cells := 1, slots := 6, locals := 111 }) (va_Pc [.ref (ca 0), .int p0] (ROc K dC dI (([COc ca a oa ra sa ha c_tapeLength c_errorAt c_decodedLength, AWc (ca 1) kI 800 f_tape, AWc (ca 2) kI 400 f_dec, EWc a b kI ee, OOc oa ob oo, AWc (oa 1) kI 400 (o_symbols oo), DWc ob kI (o_d oo), TWc (ca 3) tx tt, RWc ra kI rr, SWc sa kI sw, HWc ha ux uy kE kI hh] : List va_W).flatten) [(kI, .int), (kE, .object "LzwCodec$Encoder")])) (xoQi z) (xoX z) 1 6 (fun _ => False) := by
  refine xo_start (cc := cX7_codesIfEncoded) (maxL := 2) (ret := (some .int)) (by decide) rfl (Nat.le_of_ble_eq_true rfl) ?_
  intro p e s m args below meth c hx hb hr hml hown hts hlocks hNW hK hT hCE H locs ls hP hS hl
  have hown : s.vm.findClass RX7 = some m.cls := hown
  have hl : lv_has ls 2 [(0, .ref (ca 0)), (1, .int p0)] := hl
  unfold J_X7_codesIfEncoded at hJ
  refine lv_aload_n hx hb dX7_codesIfEncoded_0 rfl (lv_at hl 0 rfl) ?_
  refine lv_iload_n hx hb dX7_codesIfEncoded_1 rfl (lv_at hl 1 rfl) ?_
  obtain ⟨z1, e2, hJ⟩ := bnd hJ
  refine xoVv (As := [.int p0]) (rest := []) (ci := 7) (q0 := 0) hx hb hml hown hts (c_X7_requireSymbol l hl0 dC dI K kI kE ca a b oa ob ra sa ha ux uy tx c_tapeLength c_errorAt c_decodedLength f_tape f_dec ee oo tt rr sw hh p0 z1 e2) gX7_codesIfEncoded_X7_requireSymbol qX7_requireSymbol rfl ⟨Nat.le_of_ble_eq_true rfl, Nat.le_of_ble_eq_true rfl⟩ ⟨rfl, rfl⟩ hNW hCE hK hP hS hP hK rfl rfl rfl hl.1 rfl rfl (Nat.le_of_ble_eq_true rfl) dX7_codesIfEncoded_2 ⟨Nat.le_of_ble_eq_true rfl, Nat.le_of_ble_eq_true rfl⟩ (fun E ce q9 H locs hz hP hS g1 g2 g3 => ?_) (fun hz H locs hP hS => ?_)
  · subst hz; exact xo_out hT hlocks g1 g2 g3 (Nat.le_of_ble_eq_true rfl) (Nat.le_of_ble_eq_true rfl) hJ hS
  subst hz
  have hJ := try_l hJ
  refine W.widen (k := 1) (n := 6) (Nat.le_of_ble_eq_true rfl) (Nat.le_of_ble_eq_true rfl) ?_
  refine lv_aload_n hx hb dX7_codesIfEncoded_5 rfl (lv_at hl 0 rfl) ?_
  refine va_get (D := (dC, dI)) (ci := 7) (v := .ref (a 0)) (C := RX7) (T := TX7) (N := 11) hx hb hts (fun _ h => List.mem_cons_of_mem _ (List.mem_append_left _ (List.mem_append_left _ (List.mem_append_left _ (List.mem_append_right _ h))))) hown hK hP 0 rfl rfl 3 (by decide) (hts _ (List.mem_of_getElem? (i := 1) rfl)) (fun _ h9 => h9) rfl dX7_codesIfEncoded_6 ?_
  refine lv_iload_n hx hb dX7_codesIfEncoded_9 rfl (lv_at hl 1 rfl) ?_
  obtain ⟨z3, e4, hJ⟩ := bnd hJ
  refine roVi (As := [.int p0]) (rest := []) (ci := 2) (q0 := 0) hx hb hml hown hts (c_X2_codesFor fu l dC dI kI a b ee p0 z3 e4) gX7_codesIfEncoded_X2_codesFor qX2_codesFor rfl ⟨Nat.le_of_ble_eq_true rfl, Nat.le_of_ble_eq_true rfl⟩ ⟨rfl, rfl⟩ hNW hK hP hS (fl_sub (L := [COc ca a oa ra sa ha c_tapeLength c_errorAt c_decodedLength, AWc (ca 1) kI 800 f_tape, AWc (ca 2) kI 400 f_dec, EWc a b kI ee, OOc oa ob oo, AWc (oa 1) kI 400 (o_symbols oo), DWc ob kI (o_d oo), TWc (ca 3) tx tt, RWc ra kI rr, SWc sa kI sw, HWc ha ux uy kE kI hh]) (Lc := [EWc a b kI ee]) (wc := EWc a b kI ee) hP [3] rfl (by simp only [List.flatten_cons, List.flatten_nil, List.append_nil, List.append_assoc] <;> rfl)) (hK.sub (tys' := [(kI, .int)]) [0] rfl) rfl rfl rfl hl.1 rfl rfl (Nat.le_of_ble_eq_true rfl) dX7_codesIfEncoded_10 ⟨Nat.le_of_ble_eq_true rfl, Nat.le_of_ble_eq_true rfl⟩ (fun H locs hP hS => ?_)
  exact xo_iret hx hb hr hlocks (Nat.le_of_ble_eq_true rfl) (Nat.le_of_ble_eq_true rfl) hS hJ dX7_codesIfEncoded_13
theorem qX7_clearsIfEncoded : (yX7_clearsIfEncoded.cls = RX7) ∧ yX7_clearsIfEncoded.cls ≠ "java/lang/invoke/MethodHandle" ∧ yX7_clearsIfEncoded.cls ≠ "java/lang/invoke/VarHandle" ∧ (parseMethodDescriptor yX7_clearsIfEncoded.desc).map (fun d => d.parameters.length) = some 1 := by decide +kernel
set_option maxHeartbeats 4000000 in
set_option maxRecDepth 100000 in
theorem c_X7_clearsIfEncoded (fu : Nat) (l : Launch) (hl0 : l.stackTraces = false) (dC : Nat → ClassId) (dI : Nat → Nat → Nat) (K : KT) (kI kE : ClassId) (ca : Nat → Nat) (a : Nat → Nat) (b : Nat → Nat) (oa : Nat → Nat) (ob : Nat → Nat) (ra : Nat → Nat) (sa : Nat → Nat) (ha : Nat → Nat) (ux : Nat → Nat → Nat) (uy : Nat → Nat → Nat) (tx : Nat) (c_tapeLength : Int32) (c_errorAt : Int32) (c_decodedLength : Int32) (f_tape : Nat → Int32) (f_dec : Nat → Int32) (ee : ES) (oo : OS) (tt : TS) (rr : RS) (sw : SS) (hh : HS) (p0 : Int32) (z : (Int32 ⊕ String)) (hJ : J_X7_clearsIfEncoded fu f_tape f_dec ee oo tt rr sw hh p0 = some z) : vx_Met l yX7_clearsIfEncoded wsX7_clearsIfEncoded ({ frames := 7, cells := 1, slots := 6, locals := 111 }) (va_Pc [.ref (ca 0), .int p0] (ROc K dC dI (([COc ca a oa ra sa ha c_tapeLength c_errorAt c_decodedLength, AWc (ca 1) kI 800 f_tape, AWc (ca 2) kI 400 f_dec, EWc a b kI ee, OOc oa ob oo, AWc (oa 1) kI 400 (o_symbols oo), DWc ob kI (o_d oo), TWc (ca 3) tx tt, RWc ra kI rr, SWc sa kI sw, HWc ha ux uy kE kI hh] : List va_W).flatten) [(kI, .int), (kE, .object "LzwCodec$Encoder")])) (xoQi z) (xoX z) 1 6 (fun _ => False) := by
  refine xo_start (cc := cX7_clearsIfEncoded) (maxL := 2) (ret := (some .int)) (by decide) rfl (Nat.le_of_ble_eq_true rfl) ?_
  intro p e s m args below meth c hx hb hr hml hown hts hlocks hNW hK hT hCE H locs ls hP hS hl
  have hown : s.vm.findClass RX7 = some m.cls := hown
  have hl : lv_has ls 2 [(0, .ref (ca 0)), (1, .int p0)] := hl
  unfold J_X7_clearsIfEncoded at hJ
  refine lv_aload_n hx hb dX7_clearsIfEncoded_0 rfl (lv_at hl 0 rfl) ?_
  refine lv_iload_n hx hb dX7_clearsIfEncoded_1 rfl (lv_at hl 1 rfl) ?_
  obtain ⟨z1, e2, hJ⟩ := bnd hJ
  refine xoVv (As := [.int p0]) (rest := []) (ci := 7) (q0 := 0) hx hb hml hown hts (c_X7_requireSymbol l hl0 dC dI K kI kE ca a b oa ob ra sa ha ux uy tx c_tapeLength c_errorAt c_decodedLength f_tape f_dec ee oo tt rr sw hh p0 z1 e2) gX7_clearsIfEncoded_X7_requireSymbol qX7_requireSymbol rfl ⟨Nat.le_of_ble_eq_true rfl, Nat.le_of_ble_eq_true rfl⟩ ⟨rfl, rfl⟩ hNW hCE hK hP hS hP hK rfl rfl rfl hl.1 rfl rfl (Nat.le_of_ble_eq_true rfl) dX7_clearsIfEncoded_2 ⟨Nat.le_of_ble_eq_true rfl, Nat.le_of_ble_eq_true rfl⟩ (fun E ce q9 H locs hz hP hS g1 g2 g3 => ?_) (fun hz H locs hP hS => ?_)
  · subst hz; exact xo_out hT hlocks g1 g2 g3 (Nat.le_of_ble_eq_true rfl) (Nat.le_of_ble_eq_true rfl) hJ hS
  subst hz
  have hJ := try_l hJ
  refine W.widen (k := 1) (n := 6) (Nat.le_of_ble_eq_true rfl) (Nat.le_of_ble_eq_true rfl) ?_
  refine lv_aload_n hx hb dX7_clearsIfEncoded_5 rfl (lv_at hl 0 rfl) ?_
  refine va_get (D := (dC, dI)) (ci := 7) (v := .ref (a 0)) (C := RX7) (T := TX7) (N := 11) hx hb hts (fun _ h => List.mem_cons_of_mem _ (List.mem_append_left _ (List.mem_append_left _ (List.mem_append_left _ (List.mem_append_right _ h))))) hown hK hP 0 rfl rfl 3 (by decide) (hts _ (List.mem_of_getElem? (i := 1) rfl)) (fun _ h9 => h9) rfl dX7_clearsIfEncoded_6 ?_
  refine lv_iload_n hx hb dX7_clearsIfEncoded_9 rfl (lv_at hl 1 rfl) ?_
  obtain ⟨z3, e4, hJ⟩ := bnd hJ
  refine roVi (As := [.int p0]) (rest := []) (ci := 2) (q0 := 0) hx hb hml hown hts (c_X2_codesFor fu l dC dI kI a b ee p0 z3 e4) gX7_clearsIfEncoded_X2_codesFor qX2_codesFor rfl ⟨Nat.le_of_ble_eq_true rfl, Nat.le_of_ble_eq_true rfl⟩ ⟨rfl, rfl⟩ hNW hK hP hS (fl_sub (L := [COc ca a oa ra sa ha c_tapeLength c_errorAt c_decodedLength, AWc (ca 1) kI 800 f_tape, AWc (ca 2) kI 400 f_dec, EWc a b kI ee, OOc oa ob oo, AWc (oa 1) kI 400 (o_symbols oo), DWc ob kI (o_d oo), TWc (ca 3) tx tt, RWc ra kI rr, SWc sa kI sw, HWc ha ux uy kE kI hh]) (Lc := [EWc a b kI ee]) (wc := EWc a b kI ee) hP [3] rfl (by simp only [List.flatten_cons, List.flatten_nil, List.append_nil, List.append_assoc] <;> rfl)) (hK.sub (tys' := [(kI, .int)]) [0] rfl) rfl rfl rfl hl.1 rfl rfl (Nat.le_of_ble_eq_true rfl) dX7_clearsIfEncoded_10 ⟨Nat.le_of_ble_eq_true rfl, Nat.le_of_ble_eq_true rfl⟩ (fun H locs hP hS => ?_)
  refine lv_iconst (v := 2) hx hb dX7_clearsIfEncoded_13 (by decide) ?_
  refine lv_icmp_ne (tgt := 21) hx hb dX7_clearsIfEncoded_14 (by decide) (fun c5 => ?_) (fun c5 => ?_)
  · have hJ := ite_f c5 hJ
    refine lv_iconst (v := 0) hx hb dX7_clearsIfEncoded_21 (by decide) ?_
    exact xo_iret hx hb hr hlocks (Nat.le_of_ble_eq_true rfl) (Nat.le_of_ble_eq_true rfl) hS hJ dX7_clearsIfEncoded_22
  · have hJ := ite_t c5 hJ
    refine lv_iconst (v := 1) hx hb dX7_clearsIfEncoded_17 (by decide) ?_
    refine lv_goto (tgt := 22) hx hb dX7_clearsIfEncoded_18 (by decide) ?_
    exact xo_iret hx hb hr hlocks (Nat.le_of_ble_eq_true rfl) (Nat.le_of_ble_eq_true rfl) hS hJ dX7_clearsIfEncoded_22
theorem qX7_encodedCount : (yX7_encodedCount.cls = RX7) ∧ yX7_encodedCount.cls ≠ "java/lang/invoke/MethodHandle" ∧ yX7_encodedCount.cls ≠ "java/lang/invoke/VarHandle" ∧ (parseMethodDescriptor yX7_encodedCount.desc).map (fun d => d.parameters.length) = some 0 := by decide +kernel
set_option maxHeartbeats 4000000 in
set_option maxRecDepth 100000 in
theorem c_X7_encodedCount (l : Launch) (dC : Nat → ClassId) (dI : Nat → Nat → Nat) (kI kE : ClassId) (ca : Nat → Nat) (a : Nat → Nat) (b : Nat → Nat) (oa : Nat → Nat) (ob : Nat → Nat) (ra : Nat → Nat) (sa : Nat → Nat) (ha : Nat → Nat) (ux : Nat → Nat → Nat) (uy : Nat → Nat → Nat) (tx : Nat) (c_tapeLength : Int32) (c_errorAt : Int32) (c_decodedLength : Int32) (f_tape : Nat → Int32) (f_dec : Nat → Int32) (ee : ES) (oo : OS) (tt : TS) (rr : RS) (sw : SS) (hh : HS) (z : Int32) (hJ : J_X7_encodedCount ee = some z) : Met l yX7_encodedCount wsX7_encodedCount ({ frames := 0, cells := 0, slots := 0, locals := 0 }) (va_Pc [.ref (ca 0)] (ROp dC dI (([COc ca a oa ra sa ha c_tapeLength c_errorAt c_decodedLength, AWc (ca 1) kI 800 f_tape, AWc (ca 2) kI 400 f_dec, EWc a b kI ee, OOc oa ob oo, AWc (oa 1) kI 400 (o_symbols oo), DWc ob kI (o_d oo), TWc (ca 3) tx tt, RWc ra kI rr, SWc sa kI sw, HWc ha ux uy kE kI hh] : List va_W).flatten) [(kI, .int), (kE, .object "LzwCodec$Encoder")])) (roQi z) 0 0 (fun _ => False) := by
  refine ro_start (cc := cX7_encodedCount) (maxL := 1) (ret := (some .int)) (by decide) rfl (Nat.le_of_ble_eq_true rfl) ?_
  intro p e s m args below meth c hx hb hr hml hown hts hlocks hNW hK H locs ls hP hS hl
  have hown : s.vm.findClass RX7 = some m.cls := hown
  have hl : lv_has ls 1 [(0, .ref (ca 0))] := hl
  unfold J_X7_encodedCount at hJ
  refine lv_aload_n hx hb dX7_encodedCount_0 rfl (lv_at hl 0 rfl) ?_
  refine va_get (D := (dC, dI)) (ci := 7) (v := .ref (a 0)) (C := RX7) (T := TX7) (N := 11) hx hb hts (fun _ h => List.mem_cons_of_mem _ (List.mem_append_left _ (List.mem_append_right _ h))) hown hK hP 0 rfl rfl 3 (by decide) (hts _ (List.mem_of_getElem? (i := 1) rfl)) (fun _ h9 => h9) rfl dX7_encodedCount_1 ?_
  refine va_getN (D := (dC, dI)) (ci := 2) (v := .int (e_encodedLength ee)) (C := RX2) (T := TX2) (N := 14) hx hb hts (fun _ h => List.mem_cons_of_mem _ (List.mem_append_right _ h)) hown hK hP 3 rfl rfl 5 (by decide) (hNW.use (i := 20) rfl) (fun _ h9 => h9) rfl dX7_encodedCount_4 ?_
  exact ro_iret hx hb hr hlocks hS hJ dX7_encodedCount_7
theorem qX7_encodedSymbol : (yX7_encodedSymbol.cls = RX7) ∧ yX7_encodedSymbol.cls ≠ "java/lang/invoke/MethodHandle" ∧ yX7_encodedSymbol.cls ≠ "java/lang/invoke/VarHandle" ∧ (parseMethodDescriptor yX7_encodedSymbol.desc).map (fun d => d.parameters.length) = some 1 := by decide +kernel
set_option maxHeartbeats 4000000 in
set_option maxRecDepth 100000 in
theorem c_X7_encodedSymbol (l : Launch) (hl0 : l.stackTraces = false) (dC : Nat → ClassId) (dI : Nat → Nat → Nat) (K : KT) (kI kE : ClassId) (ca : Nat → Nat) (a : Nat → Nat) (b : Nat → Nat) (oa : Nat → Nat) (ob : Nat → Nat) (ra : Nat → Nat) (sa : Nat → Nat) (ha : Nat → Nat) (ux : Nat → Nat → Nat) (uy : Nat → Nat → Nat) (tx : Nat) (c_tapeLength : Int32) (c_errorAt : Int32) (c_decodedLength : Int32) (f_tape : Nat → Int32) (f_dec : Nat → Int32) (ee : ES) (oo : OS) (tt : TS) (rr : RS) (sw : SS) (hh : HS) (p0 : Int32) (z : (Int32 ⊕ String)) (hJ : J_X7_encodedSymbol ee p0 = some z) : vx_Met l yX7_encodedSymbol wsX7_encodedSymbol ({ frames := 7, cells := 1, slots := 6, locals := 111 }) (va_Pc [.ref (ca 0), .int p0] (ROc K dC dI (([COc ca a oa ra sa ha c_tapeLength c_errorAt c_decodedLength, AWc (ca 1) kI 800 f_tape, AWc (ca 2) kI 400 f_dec, EWc a b kI ee, OOc oa ob oo, AWc (oa 1) kI 400 (o_symbols oo), DWc ob kI (o_d oo), TWc (ca 3) tx tt, RWc ra kI rr, SWc sa kI sw, HWc ha ux uy kE kI hh] : List va_W).flatten) [(kI, .int), (kE, .object "LzwCodec$Encoder")])) (xoQi z) (xoX z) 1 6 (fun _ => False) := by
  refine xo_start (cc := cX7_encodedSymbol) (maxL := 2) (ret := (some .int)) (by decide) rfl (Nat.le_of_ble_eq_true rfl) ?_
  intro p e s m args below meth c hx hb hr hml hown hts hlocks hNW hK hT hCE H locs ls hP hS hl
  have hown : s.vm.findClass RX7 = some m.cls := hown
  have hl : lv_has ls 2 [(0, .ref (ca 0)), (1, .int p0)] := hl
  unfold J_X7_encodedSymbol at hJ
  refine lv_iload_n hx hb dX7_encodedSymbol_0 rfl (lv_at hl 1 rfl) ?_
  refine lv_aload_n hx hb dX7_encodedSymbol_1 rfl (lv_at hl 0 rfl) ?_
  refine va_get (D := (dC, dI)) (ci := 7) (v := .ref (a 0)) (C := RX7) (T := TX7) (N := 11) hx hb hts (fun _ h => List.mem_cons_of_mem _ (List.mem_append_left _ (List.mem_append_left _ (List.mem_append_right _ h)))) hown hK hP 0 rfl rfl 3 (by decide) (hts _ (List.mem_of_getElem? (i := 1) rfl)) (fun _ h9 => h9) rfl dX7_encodedSymbol_2 ?_
  refine va_getN (D := (dC, dI)) (ci := 2) (v := .int (e_encodedLength ee)) (C := RX2) (T := TX2) (N := 14) hx hb hts (fun _ h => List.mem_cons_of_mem _ (List.mem_append_left _ (List.mem_append_right _ h))) hown hK hP 3 rfl rfl 5 (by decide) (hNW.use (i := 20) rfl) (fun _ h9 => h9) rfl dX7_encodedSymbol_5 ?_
  obtain ⟨z1, e2, hJ⟩ := bnd hJ
  refine xoSv (As := [.int p0, .int (e_encodedLength ee)]) (rest := []) hx hb hml hown hts (c_X7_requireIndex l hl0 dC dI K p0 (e_encodedLength ee) z1 e2) gX7_encodedSymbol_X7_requireIndex qX7_requireIndex rfl ⟨Nat.le_of_ble_eq_true rfl, Nat.le_of_ble_eq_true rfl⟩ ⟨rfl, rfl⟩ hNW hCE hK hP hS (hP.sub (ws' := []) [] rfl) (hK.sub (tys' := []) [] rfl) hl.1 rfl rfl (Nat.le_of_ble_eq_true rfl) dX7_encodedSymbol_8 ⟨Nat.le_of_ble_eq_true rfl, Nat.le_of_ble_eq_true rfl⟩ (fun E ce q9 H locs hz hP hS g1 g2 g3 => ?_) (fun hz H locs hP hS => ?_)
  · subst hz; exact xo_out hT hlocks g1 g2 g3 (Nat.le_of_ble_eq_true rfl) (Nat.le_of_ble_eq_true rfl) hJ hS
  subst hz
  have hJ := try_l hJ
  refine W.widen (k := 1) (n := 6) (Nat.le_of_ble_eq_true rfl) (Nat.le_of_ble_eq_true rfl) ?_
  refine lv_aload_n hx hb dX7_encodedSymbol_11 rfl (lv_at hl 0 rfl) ?_
  refine va_get (D := (dC, dI)) (ci := 7) (v := .ref (a 0)) (C := RX7) (T := TX7) (N := 11) hx hb hts (fun _ h => List.mem_cons_of_mem _ (List.mem_append_left _ (List.mem_append_left _ (List.mem_append_right _ h)))) hown hK hP 0 rfl rfl 3 (by decide) (hts _ (List.mem_of_getElem? (i := 1) rfl)) (fun _ h9 => h9) rfl dX7_encodedSymbol_12 ?_
  refine va_getN (D := (dC, dI)) (ci := 2) (v := .ref (a 1)) (C := RX2) (T := TX2) (N := 14) hx hb hts (fun _ h => List.mem_cons_of_mem _ (List.mem_append_left _ (List.mem_append_right _ h))) hown hK hP 3 rfl rfl 4 (by decide) (hNW.use (i := 18) rfl) (fun _ h9 => h9) rfl dX7_encodedSymbol_15 ?_
  refine lv_iload_n hx hb dX7_encodedSymbol_18 rfl (lv_at hl 1 rfl) ?_
  obtain ⟨z3, e4, hJ⟩ := bnd hJ
  refine roSi (As := [.ref (a 1), .int p0]) (rest := []) hx hb hml hown hts (c_X7_at l dC dI kI (a 1) 400 (e_encoded ee) p0 z3 e4) gX7_encodedSymbol_X7_at qX7_at rfl ⟨Nat.le_of_ble_eq_true rfl, Nat.le_of_ble_eq_true rfl⟩ ⟨rfl, rfl⟩ hNW hK hP hS (hP.sub (ws' := AWc (a 1) kI 400 (e_encoded ee)) [4] rfl) (hK.sub (tys' := [(kI, .int)]) [0] rfl) hl.1 rfl rfl (Nat.le_of_ble_eq_true rfl) dX7_encodedSymbol_19 ⟨Nat.le_of_ble_eq_true rfl, Nat.le_of_ble_eq_true rfl⟩ (fun H locs hP hS => ?_)
  exact xo_iret hx hb hr hlocks (Nat.le_of_ble_eq_true rfl) (Nat.le_of_ble_eq_true rfl) hS hJ dX7_encodedSymbol_22
theorem qX7_writtenCount : (yX7_writtenCount.cls = RX7) ∧ yX7_writtenCount.cls ≠ "java/lang/invoke/MethodHandle" ∧ yX7_writtenCount.cls ≠ "java/lang/invoke/VarHandle" ∧ (parseMethodDescriptor yX7_writtenCount.desc).map (fun d => d.parameters.length) = some 0 := by decide +kernel
set_option maxHeartbeats 4000000 in
set_option maxRecDepth 100000 in
theorem c_X7_writtenCount (l : Launch) (dC : Nat → ClassId) (dI : Nat → Nat → Nat) (kI kE : ClassId) (ca : Nat → Nat) (a : Nat → Nat) (b : Nat → Nat) (oa : Nat → Nat) (ob : Nat → Nat) (ra : Nat → Nat) (sa : Nat → Nat) (ha : Nat → Nat) (ux : Nat → Nat → Nat) (uy : Nat → Nat → Nat) (tx : Nat) (c_tapeLength : Int32) (c_errorAt : Int32) (c_decodedLength : Int32) (f_tape : Nat → Int32) (f_dec : Nat → Int32) (ee : ES) (oo : OS) (tt : TS) (rr : RS) (sw : SS) (hh : HS) (z : Int32) (hJ : J_X7_writtenCount ee = some z) : Met l yX7_writtenCount wsX7_writtenCount ({ frames := 0, cells := 0, slots := 0, locals := 0 }) (va_Pc [.ref (ca 0)] (ROp dC dI (([COc ca a oa ra sa ha c_tapeLength c_errorAt c_decodedLength, AWc (ca 1) kI 800 f_tape, AWc (ca 2) kI 400 f_dec, EWc a b kI ee, OOc oa ob oo, AWc (oa 1) kI 400 (o_symbols oo), DWc ob kI (o_d oo), TWc (ca 3) tx tt, RWc ra kI rr, SWc sa kI sw, HWc ha ux uy kE kI hh] : List va_W).flatten) [(kI, .int), (kE, .object "LzwCodec$Encoder")])) (roQi z) 0 0 (fun _ => False) := by
  refine ro_start (cc := cX7_writtenCount) (maxL := 1) (ret := (some .int)) (by decide) rfl (Nat.le_of_ble_eq_true rfl) ?_
  intro p e s m args below meth c hx hb hr hml hown hts hlocks hNW hK H locs ls hP hS hl
  have hown : s.vm.findClass RX7 = some m.cls := hown
  have hl : lv_has ls 1 [(0, .ref (ca 0))] := hl
  unfold J_X7_writtenCount at hJ
  refine lv_aload_n hx hb dX7_writtenCount_0 rfl (lv_at hl 0 rfl) ?_
  refine va_get (D := (dC, dI)) (ci := 7) (v := .ref (a 0)) (C := RX7) (T := TX7) (N := 11) hx hb hts (fun _ h => List.mem_cons_of_mem _ (List.mem_append_left _ (List.mem_append_right _ h))) hown hK hP 0 rfl rfl 3 (by decide) (hts _ (List.mem_of_getElem? (i := 1) rfl)) (fun _ h9 => h9) rfl dX7_writtenCount_1 ?_
  refine va_getN (D := (dC, dI)) (ci := 2) (v := .int (e_writtenLength ee)) (C := RX2) (T := TX2) (N := 14) hx hb hts (fun _ h => List.mem_cons_of_mem _ (List.mem_append_right _ h)) hown hK hP 3 rfl rfl 8 (by decide) (hNW.use (i := 23) rfl) (fun _ h9 => h9) rfl dX7_writtenCount_4 ?_
  exact ro_iret hx hb hr hlocks hS hJ dX7_writtenCount_7
