theorem qX8_endsPhrase : (yX8_endsPhrase.cls = RX8) ∧ yX8_endsPhrase.cls ≠ "java/lang/invoke/MethodHandle" ∧ yX8_endsPhrase.cls ≠ "java/lang/invoke/VarHandle" ∧ (parseMethodDescriptor yX8_endsPhrase.desc).map (fun d => d.parameters.length) = some 2 := by decide +kernel
set_option maxHeartbeats 4000000 in
set_option maxRecDepth 100000 in
theorem c_X8_endsPhrase (fu : Nat) (l : Launch) (dC : Nat → ClassId) (dI : Nat → Nat → Nat) (kI kB kZ : ClassId) (a : Nat → Nat) (v_tape : Nat → Int32) (v_taped : Int32) (v_errorAt : Int32) (v_thrown : Int32) (v_world : Nat → Int32) (v_aside : Nat → Int32) (v_undone : Nat → Int32) (v_slots : Nat → Int32) (v_isKept : Nat → Int32) (v_undos : Int32) (v_seenPrefix : Nat → Int32) (v_seenLast : Nat → Int32) (v_seen : Int32) (v_previous : Int32) (v_gained : Nat → Int32) (v_gains : Int32) (v_decoded : Nat → Int32) (v_decodes : Int32) (v_readAt : Int32) (v_start : Int32) (v_kind : Int32) (v_word : Int64) (v_letters : Int32) (v_number : Int32) (v_fine : Int32) (v_text : Nat → Int32) (v_texted : Int32) (p0 : Int32) (p1 : Int32) (sz : Nat) (z : (Nat → Int32)) (hJ : J_X8_endsPhrase fu v_world p0 p1 = some z) : Met l yX8_endsPhrase wsX8_endsPhrase ({ frames := 6, cells := 0, slots := 0, locals := 126 }) (va_Pc [.ref (a 0), .int p0, .int p1] (RWp dC dI sz (MWc a kI kB kZ v_tape v_taped v_errorAt v_thrown v_world v_aside v_undone v_slots v_isKept v_undos v_seenPrefix v_seenLast v_seen v_previous v_gained v_gains v_decoded v_decodes v_readAt v_start v_kind v_word v_letters v_number v_fine v_text v_texted) [(kI, .int), (kB, .byte), (kZ, .boolean)])) (rwQv dC dI (va_A (MWc a kI kB kZ v_tape v_taped v_errorAt v_thrown v_world v_aside v_undone v_slots v_isKept v_undos v_seenPrefix v_seenLast v_seen v_previous v_gained v_gains v_decoded v_decodes v_readAt v_start v_kind v_word v_letters v_number v_fine v_text v_texted) sz) (MWc a kI kB kZ v_tape v_taped v_errorAt v_thrown z v_aside v_undone v_slots v_isKept v_undos v_seenPrefix v_seenLast v_seen v_previous v_gained v_gains v_decoded v_decodes v_readAt v_start v_kind v_word v_letters v_number v_fine v_text v_texted)) 0 0 (va_A (MWc a kI kB kZ v_tape v_taped v_errorAt v_thrown v_world v_aside v_undone v_slots v_isKept v_undos v_seenPrefix v_seenLast v_seen v_previous v_gained v_gains v_decoded v_decodes v_readAt v_start v_kind v_word v_letters v_number v_fine v_text v_texted) sz) := by
  refine rw_start (Qc := fun A => rwQv dC dI A (MWc a kI kB kZ v_tape v_taped v_errorAt v_thrown z v_aside v_undone v_slots v_isKept v_undos v_seenPrefix v_seenLast v_seen v_previous v_gained v_gains v_decoded v_decodes v_readAt v_start v_kind v_word v_letters v_number v_fine v_text v_texted)) (cc := cX8_endsPhrase) (maxL := 3) (ret := none) (by decide) rfl (Nat.le_of_ble_eq_true rfl) ?_
  intro p e s m args below meth c hx hb hr hml hown hts hlocks hNW hK A hA H locs ls hP hD hS hl
  have hown : s.vm.findClass RX8 = some m.cls := hown
  have hl : lv_has ls 3 [(0, .ref (a 0)), (1, .int p0), (2, .int p1)] := hl
  unfold J_X8_endsPhrase at hJ
  have L32 : ∀ (v_world : Nat → Int32) (y2 : Int32) (H : Heap) (locs : List Loc) (ls : Array Slot), va_P (dC, dI) vwCl (MWc a kI kB kZ v_tape v_taped v_errorAt v_thrown v_world v_aside v_undone v_slots v_isKept v_undos v_seenPrefix v_seenLast v_seen v_previous v_gained v_gains v_decoded v_decodes v_readAt v_start v_kind v_word v_letters v_number v_fine v_text v_texted) H → va_D A (MWc a kI kB kZ v_tape v_taped v_errorAt v_thrown v_world v_aside v_undone v_slots v_isKept v_undos v_seenPrefix v_seenLast v_seen v_previous v_gained v_gains v_decoded v_decodes v_readAt v_start v_kind v_word v_letters v_number v_fine v_text v_texted) → va_S A s.heap H locs → lv_has ls 3 [(0, .ref (a 0)), (2, .int y2)] → J_X8_endsPhrase_b32 fu v_world y2 = some z → W p l e ({ frames := 6, cells := 0, slots := 0, locals := 126 }) s m args below meth c H locs 0 0 (MQ below (rwQv dC dI A (MWc a kI kB kZ v_tape v_taped v_errorAt v_thrown z v_aside v_undone v_slots v_isKept v_undos v_seenPrefix v_seenLast v_seen v_previous v_gained v_gains v_decoded v_decodes v_readAt v_start v_kind v_word v_letters v_number v_fine v_text v_texted)) args s 0 0 (A)) (F0 m 32 ls []) := by
    intro v_world y2 H locs ls hP hD hS hl hJ
    unfold J_X8_endsPhrase_b32 at hJ
    refine lv_aload_n hx hb dX8_endsPhrase_32 rfl (lv_at hl 0 rfl) ?_
    refine va_get (D := (dC, dI)) (ci := 8) (v := .ref (a 2)) (C := RX8) (T := TX8) (N := 27) hx hb hts (fun _ h => List.mem_cons_of_mem _ (List.mem_append_right _ h)) hown hK hP 0 rfl rfl 4 (by decide) (hts _ (List.mem_of_getElem? (i := 1) rfl)) (fun _ h9 => h9) rfl dX8_endsPhrase_33 ?_
    refine lv_iconst (v := 5) hx hb dX8_endsPhrase_36 (by decide) ?_
    refine lv_iload_n hx hb dX8_endsPhrase_37 rfl (lv_at hl 1 rfl) ?_
    refine lv_iconst (v := 1) hx hb dX8_endsPhrase_38 (by decide) ?_
    refine lv_iadd hx hb dX8_endsPhrase_39 ?_
    obtain ⟨g13, e14, hJ⟩ := bnd hJ
    refine wr_int (n := 1726) (f := v_world) (x := y2 + (1 : Int32)) hx hb hK hP hD hS 2 0 rfl rfl e14 dX8_endsPhrase_40 (fun H locs hP hD hS => ?_)
    have hP : va_P (dC, dI) vwCl (MWc a kI kB kZ v_tape v_taped v_errorAt v_thrown g13 v_aside v_undone v_slots v_isKept v_undos v_seenPrefix v_seenLast v_seen v_previous v_gained v_gains v_decoded v_decodes v_readAt v_start v_kind v_word v_letters v_number v_fine v_text v_texted) H := hP
    have hD : va_D A (MWc a kI kB kZ v_tape v_taped v_errorAt v_thrown g13 v_aside v_undone v_slots v_isKept v_undos v_seenPrefix v_seenLast v_seen v_previous v_gained v_gains v_decoded v_decodes v_readAt v_start v_kind v_word v_letters v_number v_fine v_text v_texted) := hD
    obtain rfl := Option.some.inj hJ
    exact rw_vret hx hb hr hlocks hP hD hS dX8_endsPhrase_41
  refine lv_aload_n hx hb dX8_endsPhrase_0 rfl (lv_at hl 0 rfl) ?_
  refine lv_iload_n hx hb dX8_endsPhrase_1 rfl (lv_at hl 1 rfl) ?_
  obtain ⟨z1, e2, hJ⟩ := bnd hJ
  refine rwVvW (As := [.int p0]) (rest := []) (ci := 8) (q0 := 0) hx hb hml hown hts (c_X8_writes fu l dC dI kI kB kZ a v_tape v_taped v_errorAt v_thrown v_world v_aside v_undone v_slots v_isKept v_undos v_seenPrefix v_seenLast v_seen v_previous v_gained v_gains v_decoded v_decodes v_readAt v_start v_kind v_word v_letters v_number v_fine v_text v_texted p0 H.size z1 e2) gX8_endsPhrase_X8_writes qX8_writes rfl ⟨Nat.le_of_ble_eq_true rfl, Nat.le_of_ble_eq_true rfl⟩ ⟨rfl, rfl⟩ hNW hK hP hD hS hA hK rfl rfl rfl hl.1 rfl rfl (Nat.le_of_ble_eq_true rfl) dX8_endsPhrase_2 z0 (fun H locs hP hD hS => ?_)
  refine lv_aload_n hx hb dX8_endsPhrase_5 rfl (lv_at hl 0 rfl) ?_
  obtain ⟨z3, e4, hJ⟩ := bnd hJ
  refine roVi (As := []) (rest := []) (ci := 8) (q0 := 0) hx hb hml hown hts (c_X8_isAsked fu l dC dI kI kB kZ a v_tape v_taped v_errorAt v_thrown z1 v_aside v_undone v_slots v_isKept v_undos v_seenPrefix v_seenLast v_seen v_previous v_gained v_gains v_decoded v_decodes v_readAt v_start v_kind v_word v_letters v_number v_fine v_text v_texted z3 e4) gX8_endsPhrase_X8_isAsked qX8_isAsked rfl ⟨Nat.le_of_ble_eq_true rfl, Nat.le_of_ble_eq_true rfl⟩ ⟨rfl, rfl⟩ hNW hK hP hS hP hK rfl rfl rfl hl.1 rfl rfl (Nat.le_of_ble_eq_true rfl) dX8_endsPhrase_6 z0 (fun H locs hP hS => ?_)
  refine lv_if_eq (tgt := 19) hx hb dX8_endsPhrase_9 (by decide) (fun c5 => ?_) (fun c5 => ?_)
  · have hJ := ite_t c5 hJ
    refine lv_aload_n hx hb dX8_endsPhrase_19 rfl (lv_at hl 0 rfl) ?_
    obtain ⟨z6, e7, hJ⟩ := bnd hJ
    refine roVi (As := []) (rest := []) (ci := 8) (q0 := 0) hx hb hml hown hts (c_X8_isAllFull l dC dI kI kB kZ a v_tape v_taped v_errorAt v_thrown z1 v_aside v_undone v_slots v_isKept v_undos v_seenPrefix v_seenLast v_seen v_previous v_gained v_gains v_decoded v_decodes v_readAt v_start v_kind v_word v_letters v_number v_fine v_text v_texted z6 e7) gX8_endsPhrase_X8_isAllFull qX8_isAllFull rfl ⟨Nat.le_of_ble_eq_true rfl, Nat.le_of_ble_eq_true rfl⟩ ⟨rfl, rfl⟩ hNW hK hP hS hP hK rfl rfl rfl hl.1 rfl rfl (Nat.le_of_ble_eq_true rfl) dX8_endsPhrase_20 z0 (fun H locs hP hS => ?_)
    refine lv_if_ne (tgt := 32) hx hb dX8_endsPhrase_23 (by decide) (fun c8 => ?_) (fun c8 => ?_)
    · have hJ := ite_f c8 hJ
      exact L32 z1 p1 H locs ls hP hD hS (lv_sub hl [0, 2] rfl) hJ
    · have hJ := ite_t c8 hJ
      refine lv_aload_n hx hb dX8_endsPhrase_26 rfl (lv_at hl 0 rfl) ?_
      refine lv_iload_n hx hb dX8_endsPhrase_27 rfl (lv_at hl 1 rfl) ?_
      refine lv_iload_n hx hb dX8_endsPhrase_28 rfl (lv_at hl 2 rfl) ?_
      obtain ⟨z9, e10, hJ⟩ := bnd hJ
      refine rwVvW (As := [.int p0, .int p1]) (rest := []) (ci := 8) (q0 := 0) hx hb hml hown hts (c_X8_learns l dC dI kI kB kZ a v_tape v_taped v_errorAt v_thrown z1 v_aside v_undone v_slots v_isKept v_undos v_seenPrefix v_seenLast v_seen v_previous v_gained v_gains v_decoded v_decodes v_readAt v_start v_kind v_word v_letters v_number v_fine v_text v_texted p0 p1 H.size z9 e10) gX8_endsPhrase_X8_learns qX8_learns rfl ⟨Nat.le_of_ble_eq_true rfl, Nat.le_of_ble_eq_true rfl⟩ ⟨rfl, rfl⟩ hNW hK hP hD hS hA hK rfl rfl rfl hl.1 rfl rfl (Nat.le_of_ble_eq_true rfl) dX8_endsPhrase_29 z0 (fun H locs hP hD hS => ?_)
      exact L32 z9 p1 H locs ls hP hD hS (lv_sub hl [0, 2] rfl) hJ
  · have hJ := ite_f c5 hJ
    refine lv_aload_n hx hb dX8_endsPhrase_12 rfl (lv_at hl 0 rfl) ?_
    obtain ⟨z11, e12, hJ⟩ := bnd hJ
    refine rwVvW (As := []) (rest := []) (ci := 8) (q0 := 0) hx hb hml hown hts (c_X8_writesClear fu l dC dI kI kB kZ a v_tape v_taped v_errorAt v_thrown z1 v_aside v_undone v_slots v_isKept v_undos v_seenPrefix v_seenLast v_seen v_previous v_gained v_gains v_decoded v_decodes v_readAt v_start v_kind v_word v_letters v_number v_fine v_text v_texted H.size z11 e12) gX8_endsPhrase_X8_writesClear qX8_writesClear rfl ⟨Nat.le_of_ble_eq_true rfl, Nat.le_of_ble_eq_true rfl⟩ ⟨rfl, rfl⟩ hNW hK hP hD hS hA hK rfl rfl rfl hl.1 rfl rfl (Nat.le_of_ble_eq_true rfl) dX8_endsPhrase_13 z0 (fun H locs hP hD hS => ?_)
    refine lv_goto (tgt := 32) hx hb dX8_endsPhrase_16 (by decide) ?_
    exact L32 z11 p1 H locs ls hP hD hS (lv_sub hl [0, 2] rfl) hJ
theorem qX8_encodes : (yX8_encodes.cls = RX8) ∧ yX8_encodes.cls ≠ "java/lang/invoke/MethodHandle" ∧ yX8_encodes.cls ≠ "java/lang/invoke/VarHandle" ∧ (parseMethodDescriptor yX8_encodes.desc).map (fun d => d.parameters.length) = some 1 := by decide +kernel
set_option maxHeartbeats 4000000 in
set_option maxRecDepth 100000 in
theorem c_X8_encodes (fu : Nat) (l : Launch) (dC : Nat → ClassId) (dI : Nat → Nat → Nat) (kI kB kZ : ClassId) (a : Nat → Nat) (v_tape : Nat → Int32) (v_taped : Int32) (v_errorAt : Int32) (v_thrown : Int32) (v_world : Nat → Int32) (v_aside : Nat → Int32) (v_undone : Nat → Int32) (v_slots : Nat → Int32) (v_isKept : Nat → Int32) (v_undos : Int32) (v_seenPrefix : Nat → Int32) (v_seenLast : Nat → Int32) (v_seen : Int32) (v_previous : Int32) (v_gained : Nat → Int32) (v_gains : Int32) (v_decoded : Nat → Int32) (v_decodes : Int32) (v_readAt : Int32) (v_start : Int32) (v_kind : Int32) (v_word : Int64) (v_letters : Int32) (v_number : Int32) (v_fine : Int32) (v_text : Nat → Int32) (v_texted : Int32) (p0 : Int32) (sz : Nat) (z : (Nat → Int32)) (hJ : J_X8_encodes fu v_world p0 = some z) : Met l yX8_encodes wsX8_encodes ({ frames := 7, cells := 0, slots := 0, locals := 148 }) (va_Pc [.ref (a 0), .int p0] (RWp dC dI sz (MWc a kI kB kZ v_tape v_taped v_errorAt v_thrown v_world v_aside v_undone v_slots v_isKept v_undos v_seenPrefix v_seenLast v_seen v_previous v_gained v_gains v_decoded v_decodes v_readAt v_start v_kind v_word v_letters v_number v_fine v_text v_texted) [(kI, .int), (kB, .byte), (kZ, .boolean)])) (rwQv dC dI (va_A (MWc a kI kB kZ v_tape v_taped v_errorAt v_thrown v_world v_aside v_undone v_slots v_isKept v_undos v_seenPrefix v_seenLast v_seen v_previous v_gained v_gains v_decoded v_decodes v_readAt v_start v_kind v_word v_letters v_number v_fine v_text v_texted) sz) (MWc a kI kB kZ v_tape v_taped v_errorAt v_thrown z v_aside v_undone v_slots v_isKept v_undos v_seenPrefix v_seenLast v_seen v_previous v_gained v_gains v_decoded v_decodes v_readAt v_start v_kind v_word v_letters v_number v_fine v_text v_texted)) 0 0 (va_A (MWc a kI kB kZ v_tape v_taped v_errorAt v_thrown v_world v_aside v_undone v_slots v_isKept v_undos v_seenPrefix v_seenLast v_seen v_previous v_gained v_gains v_decoded v_decodes v_readAt v_start v_kind v_word v_letters v_number v_fine v_text v_texted) sz) := by
  refine rw_start (Qc := fun A => rwQv dC dI A (MWc a kI kB kZ v_tape v_taped v_errorAt v_thrown z v_aside v_undone v_slots v_isKept v_undos v_seenPrefix v_seenLast v_seen v_previous v_gained v_gains v_decoded v_decodes v_readAt v_start v_kind v_word v_letters v_number v_fine v_text v_texted)) (cc := cX8_encodes) (maxL := 4) (ret := none) (by decide) rfl (Nat.le_of_ble_eq_true rfl) ?_
  intro p e s m args below meth c hx hb hr hml hown hts hlocks hNW hK A hA H locs ls hP hD hS hl
  have hown : s.vm.findClass RX8 = some m.cls := hown
  have hl : lv_has ls 4 [(0, .ref (a 0)), (1, .int p0)] := hl
  unfold J_X8_encodes at hJ
  refine lv_aload_n hx hb dX8_encodes_0 rfl (lv_at hl 0 rfl) ?_
  refine va_get (D := (dC, dI)) (ci := 8) (v := .ref (a 2)) (C := RX8) (T := TX8) (N := 27) hx hb hts (fun _ h => List.mem_cons_of_mem _ (List.mem_append_right _ h)) hown hK hP 0 rfl rfl 4 (by decide) (hts _ (List.mem_of_getElem? (i := 1) rfl)) (fun _ h9 => h9) rfl dX8_encodes_1 ?_
  refine lv_sipush (v := 526) hx hb dX8_encodes_4 (by decide) ?_
  refine lv_aload_n hx hb dX8_encodes_7 rfl (lv_at hl 0 rfl) ?_
  refine va_get (D := (dC, dI)) (ci := 8) (v := .ref (a 2)) (C := RX8) (T := TX8) (N := 27) hx hb hts (fun _ h => List.mem_cons_of_mem _ (List.mem_append_right _ h)) hown hK hP 0 rfl rfl 4 (by decide) (hts _ (List.mem_of_getElem? (i := 1) rfl)) (fun _ h9 => h9) rfl dX8_encodes_8 ?_
  refine lv_bipush (v := 6) hx hb dX8_encodes_11 (by decide) ?_
  obtain ⟨z1, e2, hJ⟩ := bnd hJ
  refine rd_int (n := 1726) (f := v_world) hx hb hK hP 2 0 rfl rfl e2 dX8_encodes_13 ?_
  refine lv_iadd hx hb dX8_encodes_14 ?_
  refine lv_iload_n hx hb dX8_encodes_15 rfl (lv_at hl 1 rfl) ?_
  obtain ⟨g3, e4, hJ⟩ := bnd hJ
  refine wr_int (n := 1726) (f := v_world) (x := p0) hx hb hK hP hD hS 2 0 rfl rfl e4 dX8_encodes_16 (fun H locs hP hD hS => ?_)
  have hP : va_P (dC, dI) vwCl (MWc a kI kB kZ v_tape v_taped v_errorAt v_thrown g3 v_aside v_undone v_slots v_isKept v_undos v_seenPrefix v_seenLast v_seen v_previous v_gained v_gains v_decoded v_decodes v_readAt v_start v_kind v_word v_letters v_number v_fine v_text v_texted) H := hP
  have hD : va_D A (MWc a kI kB kZ v_tape v_taped v_errorAt v_thrown g3 v_aside v_undone v_slots v_isKept v_undos v_seenPrefix v_seenLast v_seen v_previous v_gained v_gains v_decoded v_decodes v_readAt v_start v_kind v_word v_letters v_number v_fine v_text v_texted) := hD
  refine lv_aload_n hx hb dX8_encodes_17 rfl (lv_at hl 0 rfl) ?_
  refine va_get (D := (dC, dI)) (ci := 8) (v := .ref (a 2)) (C := RX8) (T := TX8) (N := 27) hx hb hts (fun _ h => List.mem_cons_of_mem _ (List.mem_append_right _ h)) hown hK hP 0 rfl rfl 4 (by decide) (hts _ (List.mem_of_getElem? (i := 1) rfl)) (fun _ h9 => h9) rfl dX8_encodes_18 ?_
  refine lv_bipush (v := 6) hx hb dX8_encodes_21 (by decide) ?_
  refine lv_dup2_11 hx hb dX8_encodes_23 rfl rfl ?_
  obtain ⟨z5, e6, hJ⟩ := bnd hJ
  refine rd_int (n := 1726) (f := g3) hx hb hK hP 2 0 rfl rfl e6 dX8_encodes_24 ?_
  refine lv_iconst (v := 1) hx hb dX8_encodes_25 (by decide) ?_
  refine lv_iadd hx hb dX8_encodes_26 ?_
  obtain ⟨g7, e8, hJ⟩ := bnd hJ
  refine wr_int (n := 1726) (f := g3) (x := z5 + (1 : Int32)) hx hb hK hP hD hS 2 0 rfl rfl e8 dX8_encodes_27 (fun H locs hP hD hS => ?_)
  have hP : va_P (dC, dI) vwCl (MWc a kI kB kZ v_tape v_taped v_errorAt v_thrown g7 v_aside v_undone v_slots v_isKept v_undos v_seenPrefix v_seenLast v_seen v_previous v_gained v_gains v_decoded v_decodes v_readAt v_start v_kind v_word v_letters v_number v_fine v_text v_texted) H := hP
  have hD : va_D A (MWc a kI kB kZ v_tape v_taped v_errorAt v_thrown g7 v_aside v_undone v_slots v_isKept v_undos v_seenPrefix v_seenLast v_seen v_previous v_gained v_gains v_decoded v_decodes v_readAt v_start v_kind v_word v_letters v_number v_fine v_text v_texted) := hD
  refine lv_aload_n hx hb dX8_encodes_28 rfl (lv_at hl 0 rfl) ?_
  refine va_get (D := (dC, dI)) (ci := 8) (v := .ref (a 2)) (C := RX8) (T := TX8) (N := 27) hx hb hts (fun _ h => List.mem_cons_of_mem _ (List.mem_append_right _ h)) hown hK hP 0 rfl rfl 4 (by decide) (hts _ (List.mem_of_getElem? (i := 1) rfl)) (fun _ h9 => h9) rfl dX8_encodes_29 ?_
  refine lv_iconst (v := 5) hx hb dX8_encodes_32 (by decide) ?_
  obtain ⟨z9, e10, hJ⟩ := bnd hJ
  refine rd_int (n := 1726) (f := g7) hx hb hK hP 2 0 rfl rfl e10 dX8_encodes_33 ?_
  refine lv_iconst (v := 1) hx hb dX8_encodes_34 (by decide) ?_
  refine lv_isub hx hb dX8_encodes_35 ?_
  refine lv_istore_n (lv' := [(2, .int (z9 - (1 : Int32))), (0, .ref (a 0)), (1, .int p0)]) hx hb dX8_encodes_36 rfl hl (by decide) rfl (fun ls hl => ?_)
  refine lv_iload_n hx hb dX8_encodes_37 rfl (lv_at hl 0 rfl) ?_
  refine lv_if_ge (tgt := 51) hx hb dX8_encodes_38 (by decide) (fun c11 => ?_) (fun c11 => ?_)
  · have hJ := ite_t c11 hJ
    refine lv_aload_n hx hb dX8_encodes_51 rfl (lv_at hl 1 rfl) ?_
    refine lv_iload_n hx hb dX8_encodes_52 rfl (lv_at hl 0 rfl) ?_
    refine lv_iload_n hx hb dX8_encodes_53 rfl (lv_at hl 2 rfl) ?_
    obtain ⟨z12, e13, hJ⟩ := bnd hJ
    refine roVi (As := [.int (z9 - (1 : Int32)), .int p0]) (rest := []) (ci := 8) (q0 := 0) hx hb hml hown hts (c_X8_longer fu l dC dI kI kB kZ a v_tape v_taped v_errorAt v_thrown g7 v_aside v_undone v_slots v_isKept v_undos v_seenPrefix v_seenLast v_seen v_previous v_gained v_gains v_decoded v_decodes v_readAt v_start v_kind v_word v_letters v_number v_fine v_text v_texted (z9 - (1 : Int32)) p0 z12 e13) gX8_encodes_X8_longer qX8_longer rfl ⟨Nat.le_of_ble_eq_true rfl, Nat.le_of_ble_eq_true rfl⟩ ⟨rfl, rfl⟩ hNW hK hP hS hP hK rfl rfl rfl hl.1 rfl rfl (Nat.le_of_ble_eq_true rfl) dX8_encodes_54 z0 (fun H locs hP hS => ?_)
    refine lv_istore_n (lv' := [(3, .int z12), (2, .int (z9 - (1 : Int32))), (0, .ref (a 0)), (1, .int p0)]) hx hb dX8_encodes_57 rfl hl (by decide) rfl (fun ls hl => ?_)
    refine lv_iload_n hx hb dX8_encodes_58 rfl (lv_at hl 0 rfl) ?_
    refine lv_if_lt (tgt := 72) hx hb dX8_encodes_59 (by decide) (fun c14 => ?_) (fun c14 => ?_)
    · have hJ := ite_t c14 hJ
      refine lv_aload_n hx hb dX8_encodes_72 rfl (lv_at hl 2 rfl) ?_
      refine lv_iload_n hx hb dX8_encodes_73 rfl (lv_at hl 1 rfl) ?_
      refine lv_iload_n hx hb dX8_encodes_74 rfl (lv_at hl 3 rfl) ?_
      obtain ⟨z15, e16, hJ⟩ := bnd hJ
      refine rwVvW (As := [.int (z9 - (1 : Int32)), .int p0]) (rest := []) (ci := 8) (q0 := 0) hx hb hml hown hts (c_X8_endsPhrase fu l dC dI kI kB kZ a v_tape v_taped v_errorAt v_thrown g7 v_aside v_undone v_slots v_isKept v_undos v_seenPrefix v_seenLast v_seen v_previous v_gained v_gains v_decoded v_decodes v_readAt v_start v_kind v_word v_letters v_number v_fine v_text v_texted (z9 - (1 : Int32)) p0 H.size z15 e16) gX8_encodes_X8_endsPhrase qX8_endsPhrase rfl ⟨Nat.le_of_ble_eq_true rfl, Nat.le_of_ble_eq_true rfl⟩ ⟨rfl, rfl⟩ hNW hK hP hD hS hA hK rfl rfl rfl hl.1 rfl rfl (Nat.le_of_ble_eq_true rfl) dX8_encodes_75 z0 (fun H locs hP hD hS => ?_)
      obtain rfl := Option.some.inj hJ
      exact rw_vret hx hb hr hlocks hP hD hS dX8_encodes_78
    · have hJ := ite_f c14 hJ
      refine lv_aload_n hx hb dX8_encodes_62 rfl (lv_at hl 2 rfl) ?_
      refine va_get (D := (dC, dI)) (ci := 8) (v := .ref (a 2)) (C := RX8) (T := TX8) (N := 27) hx hb hts (fun _ h => List.mem_cons_of_mem _ (List.mem_append_right _ h)) hown hK hP 0 rfl rfl 4 (by decide) (hts _ (List.mem_of_getElem? (i := 1) rfl)) (fun _ h9 => h9) rfl dX8_encodes_63 ?_
      refine lv_iconst (v := 5) hx hb dX8_encodes_66 (by decide) ?_
      refine lv_iload_n hx hb dX8_encodes_67 rfl (lv_at hl 0 rfl) ?_
      refine lv_iconst (v := 1) hx hb dX8_encodes_68 (by decide) ?_
      refine lv_iadd hx hb dX8_encodes_69 ?_
      obtain ⟨g17, e18, hJ⟩ := bnd hJ
      refine wr_int (n := 1726) (f := g7) (x := z12 + (1 : Int32)) hx hb hK hP hD hS 2 0 rfl rfl e18 dX8_encodes_70 (fun H locs hP hD hS => ?_)
      have hP : va_P (dC, dI) vwCl (MWc a kI kB kZ v_tape v_taped v_errorAt v_thrown g17 v_aside v_undone v_slots v_isKept v_undos v_seenPrefix v_seenLast v_seen v_previous v_gained v_gains v_decoded v_decodes v_readAt v_start v_kind v_word v_letters v_number v_fine v_text v_texted) H := hP
      have hD : va_D A (MWc a kI kB kZ v_tape v_taped v_errorAt v_thrown g17 v_aside v_undone v_slots v_isKept v_undos v_seenPrefix v_seenLast v_seen v_previous v_gained v_gains v_decoded v_decodes v_readAt v_start v_kind v_word v_letters v_number v_fine v_text v_texted) := hD
      obtain rfl := Option.some.inj hJ
      exact rw_vret hx hb hr hlocks hP hD hS dX8_encodes_71
  · have hJ := ite_f c11 hJ
    refine lv_aload_n hx hb dX8_encodes_41 rfl (lv_at hl 1 rfl) ?_
    refine va_get (D := (dC, dI)) (ci := 8) (v := .ref (a 2)) (C := RX8) (T := TX8) (N := 27) hx hb hts (fun _ h => List.mem_cons_of_mem _ (List.mem_append_right _ h)) hown hK hP 0 rfl rfl 4 (by decide) (hts _ (List.mem_of_getElem? (i := 1) rfl)) (fun _ h9 => h9) rfl dX8_encodes_42 ?_
    refine lv_iconst (v := 5) hx hb dX8_encodes_45 (by decide) ?_
    refine lv_iload_n hx hb dX8_encodes_46 rfl (lv_at hl 2 rfl) ?_
    refine lv_iconst (v := 1) hx hb dX8_encodes_47 (by decide) ?_
    refine lv_iadd hx hb dX8_encodes_48 ?_
    obtain ⟨g19, e20, hJ⟩ := bnd hJ
    refine wr_int (n := 1726) (f := g7) (x := p0 + (1 : Int32)) hx hb hK hP hD hS 2 0 rfl rfl e20 dX8_encodes_49 (fun H locs hP hD hS => ?_)
    have hP : va_P (dC, dI) vwCl (MWc a kI kB kZ v_tape v_taped v_errorAt v_thrown g19 v_aside v_undone v_slots v_isKept v_undos v_seenPrefix v_seenLast v_seen v_previous v_gained v_gains v_decoded v_decodes v_readAt v_start v_kind v_word v_letters v_number v_fine v_text v_texted) H := hP
    have hD : va_D A (MWc a kI kB kZ v_tape v_taped v_errorAt v_thrown g19 v_aside v_undone v_slots v_isKept v_undos v_seenPrefix v_seenLast v_seen v_previous v_gained v_gains v_decoded v_decodes v_readAt v_start v_kind v_word v_letters v_number v_fine v_text v_texted) := hD
    obtain rfl := Option.some.inj hJ
    exact rw_vret hx hb hr hlocks hP hD hS dX8_encodes_50
theorem qX8_encode : (yX8_encode.cls = RX8) ∧ yX8_encode.cls ≠ "java/lang/invoke/MethodHandle" ∧ yX8_encode.cls ≠ "java/lang/invoke/VarHandle" ∧ (parseMethodDescriptor yX8_encode.desc).map (fun d => d.parameters.length) = some 1 := by decide +kernel
set_option maxHeartbeats 4000000 in
set_option maxRecDepth 100000 in
theorem c_X8_encode (fu : Nat) (l : Launch) (dC : Nat → ClassId) (dI : Nat → Nat → Nat) (kI kB kZ : ClassId) (a : Nat → Nat) (v_tape : Nat → Int32) (v_taped : Int32) (v_errorAt : Int32) (v_thrown : Int32) (v_world : Nat → Int32) (v_aside : Nat → Int32) (v_undone : Nat → Int32) (v_slots : Nat → Int32) (v_isKept : Nat → Int32) (v_undos : Int32) (v_seenPrefix : Nat → Int32) (v_seenLast : Nat → Int32) (v_seen : Int32) (v_previous : Int32) (v_gained : Nat → Int32) (v_gains : Int32) (v_decoded : Nat → Int32) (v_decodes : Int32) (v_readAt : Int32) (v_start : Int32) (v_kind : Int32) (v_word : Int64) (v_letters : Int32) (v_number : Int32) (v_fine : Int32) (v_text : Nat → Int32) (v_texted : Int32) (p0 : Int32) (sz : Nat) (z : Int32 × Int32 × (Nat → Int32) × (Nat → Int32) × (Nat → Int32) × Int32) (hJ : J_X8_encode fu v_thrown v_world v_aside v_undone v_undos p0 = some z) : Met l yX8_encode wsX8_encode ({ frames := 8, cells := 0, slots := 0, locals := 171 }) (va_Pc [.ref (a 0), .int p0] (RWp dC dI sz (MWc a kI kB kZ v_tape v_taped v_errorAt v_thrown v_world v_aside v_undone v_slots v_isKept v_undos v_seenPrefix v_seenLast v_seen v_previous v_gained v_gains v_decoded v_decodes v_readAt v_start v_kind v_word v_letters v_number v_fine v_text v_texted) [(kI, .int), (kB, .byte), (kZ, .boolean)])) (rwQi dC dI (va_A (MWc a kI kB kZ v_tape v_taped v_errorAt v_thrown v_world v_aside v_undone v_slots v_isKept v_undos v_seenPrefix v_seenLast v_seen v_previous v_gained v_gains v_decoded v_decodes v_readAt v_start v_kind v_word v_letters v_number v_fine v_text v_texted) sz) (MWc a kI kB kZ v_tape v_taped v_errorAt z.2.1 z.2.2.1 z.2.2.2.1 z.2.2.2.2.1 v_slots v_isKept z.2.2.2.2.2 v_seenPrefix v_seenLast v_seen v_previous v_gained v_gains v_decoded v_decodes v_readAt v_start v_kind v_word v_letters v_number v_fine v_text v_texted) z.1) 0 0 (va_A (MWc a kI kB kZ v_tape v_taped v_errorAt v_thrown v_world v_aside v_undone v_slots v_isKept v_undos v_seenPrefix v_seenLast v_seen v_previous v_gained v_gains v_decoded v_decodes v_readAt v_start v_kind v_word v_letters v_number v_fine v_text v_texted) sz) := by
  refine rw_start (Qc := fun A => rwQi dC dI A (MWc a kI kB kZ v_tape v_taped v_errorAt z.2.1 z.2.2.1 z.2.2.2.1 z.2.2.2.2.1 v_slots v_isKept z.2.2.2.2.2 v_seenPrefix v_seenLast v_seen v_previous v_gained v_gains v_decoded v_decodes v_readAt v_start v_kind v_word v_letters v_number v_fine v_text v_texted) z.1) (cc := cX8_encode) (maxL := 3) (ret := (some .int)) (by decide) rfl (Nat.le_of_ble_eq_true rfl) ?_
  intro p e s m args below meth c hx hb hr hml hown hts hlocks hNW hK A hA H locs ls hP hD hS hl
  have hown : s.vm.findClass RX8 = some m.cls := hown
  have hl : lv_has ls 3 [(0, .ref (a 0)), (1, .int p0)] := hl
  unfold J_X8_encode at hJ
  refine lv_aload_n hx hb dX8_encode_0 rfl (lv_at hl 0 rfl) ?_
  refine lv_iload_n hx hb dX8_encode_1 rfl (lv_at hl 1 rfl) ?_
  obtain ⟨z1, e2, hJ⟩ := bnd hJ
  refine roVi (As := [.int p0]) (rest := []) (ci := 8) (q0 := 0) hx hb hml hown hts (c_X8_isSymbol l dC dI kI kB kZ a v_tape v_taped v_errorAt v_thrown v_world v_aside v_undone v_slots v_isKept v_undos v_seenPrefix v_seenLast v_seen v_previous v_gained v_gains v_decoded v_decodes v_readAt v_start v_kind v_word v_letters v_number v_fine v_text v_texted p0 z1 e2) gX8_encode_X8_isSymbol qX8_isSymbol rfl ⟨Nat.le_of_ble_eq_true rfl, Nat.le_of_ble_eq_true rfl⟩ ⟨rfl, rfl⟩ hNW hK hP hS hP hK rfl rfl rfl hl.1 rfl rfl (Nat.le_of_ble_eq_true rfl) dX8_encode_2 z0 (fun H locs hP hS => ?_)
  refine lv_if_ne (tgt := 14) hx hb dX8_encode_5 (by decide) (fun c3 => ?_) (fun c3 => ?_)
  · have hJ := ite_f c3 hJ
    refine lv_aload_n hx hb dX8_encode_14 rfl (lv_at hl 0 rfl) ?_
    refine va_get (D := (dC, dI)) (ci := 8) (v := .ref (a 2)) (C := RX8) (T := TX8) (N := 27) hx hb hts (fun _ h => List.mem_cons_of_mem _ (List.mem_append_right _ h)) hown hK hP 0 rfl rfl 4 (by decide) (hts _ (List.mem_of_getElem? (i := 1) rfl)) (fun _ h9 => h9) rfl dX8_encode_15 ?_
    refine lv_bipush (v := 6) hx hb dX8_encode_18 (by decide) ?_
    obtain ⟨z4, e5, hJ⟩ := bnd hJ
    refine rd_int (n := 1726) (f := v_world) hx hb hK hP 2 0 rfl rfl e5 dX8_encode_20 ?_
    refine lv_sipush (v := 400) hx hb dX8_encode_21 (by decide) ?_
    refine lv_icmp_ne (tgt := 33) hx hb dX8_encode_24 (by decide) (fun c6 => ?_) (fun c6 => ?_)
    · have hJ := ite_f c6 hJ
      refine lv_aload_n hx hb dX8_encode_33 rfl (lv_at hl 0 rfl) ?_
      obtain ⟨z7, e8, hJ⟩ := bnd hJ
      refine rwVvW (As := []) (rest := []) (ci := 8) (q0 := 0) hx hb hml hown hts (c_X8_keepsAside fu l dC dI kI kB kZ a v_tape v_taped v_errorAt v_thrown v_world v_aside v_undone v_slots v_isKept v_undos v_seenPrefix v_seenLast v_seen v_previous v_gained v_gains v_decoded v_decodes v_readAt v_start v_kind v_word v_letters v_number v_fine v_text v_texted H.size z7 e8) gX8_encode_X8_keepsAside qX8_keepsAside rfl ⟨Nat.le_of_ble_eq_true rfl, Nat.le_of_ble_eq_true rfl⟩ ⟨rfl, rfl⟩ hNW hK hP hD hS hA hK rfl rfl rfl hl.1 rfl rfl (Nat.le_of_ble_eq_true rfl) dX8_encode_34 z0 (fun H locs hP hD hS => ?_)
      refine lv_aload_n hx hb dX8_encode_37 rfl (lv_at hl 0 rfl) ?_
      refine va_get (D := (dC, dI)) (ci := 8) (v := .ref (a 2)) (C := RX8) (T := TX8) (N := 27) hx hb hts (fun _ h => List.mem_cons_of_mem _ (List.mem_append_right _ h)) hown hK hP 0 rfl rfl 4 (by decide) (hts _ (List.mem_of_getElem? (i := 1) rfl)) (fun _ h9 => h9) rfl dX8_encode_38 ?_
      refine lv_bipush (v := 7) hx hb dX8_encode_41 (by decide) ?_
      obtain ⟨z9, e10, hJ⟩ := bnd hJ
      refine rd_int (n := 1726) (f := v_world) hx hb hK hP 2 0 rfl rfl e10 dX8_encode_43 ?_
      refine lv_istore_n (lv' := [(2, .int z9), (0, .ref (a 0)), (1, .int p0)]) hx hb dX8_encode_44 rfl hl (by decide) rfl (fun ls hl => ?_)
      refine lv_aload_n hx hb dX8_encode_45 rfl (lv_at hl 1 rfl) ?_
      refine lv_iload_n hx hb dX8_encode_46 rfl (lv_at hl 2 rfl) ?_
      obtain ⟨z11, e12, hJ⟩ := bnd hJ
      refine rwVvW (As := [.int p0]) (rest := []) (ci := 8) (q0 := 0) hx hb hml hown hts (c_X8_encodes fu l dC dI kI kB kZ a v_tape v_taped v_errorAt v_thrown v_world z7 v_undone v_slots v_isKept v_undos v_seenPrefix v_seenLast v_seen v_previous v_gained v_gains v_decoded v_decodes v_readAt v_start v_kind v_word v_letters v_number v_fine v_text v_texted p0 H.size z11 e12) gX8_encode_X8_encodes qX8_encodes rfl ⟨Nat.le_of_ble_eq_true rfl, Nat.le_of_ble_eq_true rfl⟩ ⟨rfl, rfl⟩ hNW hK hP hD hS hA hK rfl rfl rfl hl.1 rfl rfl (Nat.le_of_ble_eq_true rfl) dX8_encode_47 z0 (fun H locs hP hD hS => ?_)
      refine lv_aload_n hx hb dX8_encode_50 rfl (lv_at hl 1 rfl) ?_
      refine lv_aload_n hx hb dX8_encode_51 rfl (lv_at hl 1 rfl) ?_
      refine va_get (D := (dC, dI)) (ci := 8) (v := .ref (a 2)) (C := RX8) (T := TX8) (N := 27) hx hb hts (fun _ h => List.mem_cons_of_mem _ (List.mem_append_right _ h)) hown hK hP 0 rfl rfl 4 (by decide) (hts _ (List.mem_of_getElem? (i := 1) rfl)) (fun _ h9 => h9) rfl dX8_encode_52 ?_
      refine lv_bipush (v := 7) hx hb dX8_encode_55 (by decide) ?_
      obtain ⟨z13, e14, hJ⟩ := bnd hJ
      refine rd_int (n := 1726) (f := z11) hx hb hK hP 2 0 rfl rfl e14 dX8_encode_57 ?_
      refine lv_iload_n hx hb dX8_encode_58 rfl (lv_at hl 0 rfl) ?_
      refine lv_isub hx hb dX8_encode_59 ?_
      obtain ⟨z15, e16, hJ⟩ := bnd hJ
      refine rwViW (As := [.int (z13 - z9)]) (rest := []) (ci := 8) (q0 := 0) hx hb hml hown hts (c_X8_changed fu l dC dI kI kB kZ a v_tape v_taped v_errorAt v_thrown z11 z7 v_undone v_slots v_isKept v_undos v_seenPrefix v_seenLast v_seen v_previous v_gained v_gains v_decoded v_decodes v_readAt v_start v_kind v_word v_letters v_number v_fine v_text v_texted (z13 - z9) H.size z15 e16) gX8_encode_X8_changed qX8_changed rfl ⟨Nat.le_of_ble_eq_true rfl, Nat.le_of_ble_eq_true rfl⟩ ⟨rfl, rfl⟩ hNW hK hP hD hS hA hK rfl rfl rfl hl.1 rfl rfl (Nat.le_of_ble_eq_true rfl) dX8_encode_60 z0 (fun H locs hP hD hS => ?_)
      obtain rfl := Option.some.inj hJ
      exact rw_iret hx hb hr hlocks rfl hP hD hS dX8_encode_63
    · have hJ := ite_t c6 hJ
      refine lv_aload_n hx hb dX8_encode_27 rfl (lv_at hl 0 rfl) ?_
      refine lv_iconst (v := 2) hx hb dX8_encode_28 (by decide) ?_
      obtain ⟨z17, e18, hJ⟩ := bnd hJ
      refine rwViW (As := [.int (2 : Int32)]) (rest := []) (ci := 8) (q0 := 0) hx hb hml hown hts (c_X8_throwing l dC dI kI kB kZ a v_tape v_taped v_errorAt v_thrown v_world v_aside v_undone v_slots v_isKept v_undos v_seenPrefix v_seenLast v_seen v_previous v_gained v_gains v_decoded v_decodes v_readAt v_start v_kind v_word v_letters v_number v_fine v_text v_texted (2 : Int32) H.size z17 e18) gX8_encode_X8_throwing qX8_throwing rfl ⟨Nat.le_of_ble_eq_true rfl, Nat.le_of_ble_eq_true rfl⟩ ⟨rfl, rfl⟩ hNW hK hP hD hS hA hK rfl rfl rfl hl.1 rfl rfl (Nat.le_of_ble_eq_true rfl) dX8_encode_29 z0 (fun H locs hP hD hS => ?_)
      obtain rfl := Option.some.inj hJ
      exact rw_iret hx hb hr hlocks rfl hP hD hS dX8_encode_32
  · have hJ := ite_t c3 hJ
    refine lv_aload_n hx hb dX8_encode_8 rfl (lv_at hl 0 rfl) ?_
    refine lv_iconst (v := 1) hx hb dX8_encode_9 (by decide) ?_
    obtain ⟨z19, e20, hJ⟩ := bnd hJ
    refine rwViW (As := [.int (1 : Int32)]) (rest := []) (ci := 8) (q0 := 0) hx hb hml hown hts (c_X8_throwing l dC dI kI kB kZ a v_tape v_taped v_errorAt v_thrown v_world v_aside v_undone v_slots v_isKept v_undos v_seenPrefix v_seenLast v_seen v_previous v_gained v_gains v_decoded v_decodes v_readAt v_start v_kind v_word v_letters v_number v_fine v_text v_texted (1 : Int32) H.size z19 e20) gX8_encode_X8_throwing qX8_throwing rfl ⟨Nat.le_of_ble_eq_true rfl, Nat.le_of_ble_eq_true rfl⟩ ⟨rfl, rfl⟩ hNW hK hP hD hS hA hK rfl rfl rfl hl.1 rfl rfl (Nat.le_of_ble_eq_true rfl) dX8_encode_10 z0 (fun H locs hP hD hS => ?_)
    obtain rfl := Option.some.inj hJ
    exact rw_iret hx hb hr hlocks rfl hP hD hS dX8_encode_13
theorem qX8_isLetter : (yX8_isLetter.cls = RX8) ∧ yX8_isLetter.cls ≠ "java/lang/invoke/MethodHandle" ∧ yX8_isLetter.cls ≠ "java/lang/invoke/VarHandle" ∧ (parseMethodDescriptor yX8_isLetter.desc).map (fun d => d.parameters.length) = some 1 := by decide +kernel
set_option maxHeartbeats 4000000 in
set_option maxRecDepth 100000 in
theorem c_X8_isLetter (l : Launch) (dC : Nat → ClassId) (dI : Nat → Nat → Nat) (kI kB kZ : ClassId) (a : Nat → Nat) (v_tape : Nat → Int32) (v_taped : Int32) (v_errorAt : Int32) (v_thrown : Int32) (v_world : Nat → Int32) (v_aside : Nat → Int32) (v_undone : Nat → Int32) (v_slots : Nat → Int32) (v_isKept : Nat → Int32) (v_undos : Int32) (v_seenPrefix : Nat → Int32) (v_seenLast : Nat → Int32) (v_seen : Int32) (v_previous : Int32) (v_gained : Nat → Int32) (v_gains : Int32) (v_decoded : Nat → Int32) (v_decodes : Int32) (v_readAt : Int32) (v_start : Int32) (v_kind : Int32) (v_word : Int64) (v_letters : Int32) (v_number : Int32) (v_fine : Int32) (v_text : Nat → Int32) (v_texted : Int32) (p0 : Int32) (z : Int32) (hJ : J_X8_isLetter v_world p0 = some z) : Met l yX8_isLetter wsX8_isLetter ({ frames := 2, cells := 0, slots := 0, locals := 43 }) (va_Pc [.ref (a 0), .int p0] (ROp dC dI (MWc a kI kB kZ v_tape v_taped v_errorAt v_thrown v_world v_aside v_undone v_slots v_isKept v_undos v_seenPrefix v_seenLast v_seen v_previous v_gained v_gains v_decoded v_decodes v_readAt v_start v_kind v_word v_letters v_number v_fine v_text v_texted) [(kI, .int), (kB, .byte), (kZ, .boolean)])) (roQi z) 0 0 (fun _ => False) := by
  refine ro_start (cc := cX8_isLetter) (maxL := 2) (ret := (some .boolean)) (by decide) rfl (Nat.le_of_ble_eq_true rfl) ?_
  intro p e s m args below meth c hx hb hr hml hown hts hlocks hNW hK H locs ls hP hS hl
  have hown : s.vm.findClass RX8 = some m.cls := hown
  have hl : lv_has ls 2 [(0, .ref (a 0)), (1, .int p0)] := hl
  unfold J_X8_isLetter at hJ
  refine lv_aload_n hx hb dX8_isLetter_0 rfl (lv_at hl 0 rfl) ?_
  refine lv_iload_n hx hb dX8_isLetter_1 rfl (lv_at hl 1 rfl) ?_
  refine lv_bipush (v := 97) hx hb dX8_isLetter_2 (by decide) ?_
  refine lv_isub hx hb dX8_isLetter_4 ?_
  obtain ⟨z1, e2, hJ⟩ := bnd hJ
  refine roVi (As := [.int (p0 - (97 : Int32))]) (rest := []) (ci := 8) (q0 := 0) hx hb hml hown hts (c_X8_isSymbol l dC dI kI kB kZ a v_tape v_taped v_errorAt v_thrown v_world v_aside v_undone v_slots v_isKept v_undos v_seenPrefix v_seenLast v_seen v_previous v_gained v_gains v_decoded v_decodes v_readAt v_start v_kind v_word v_letters v_number v_fine v_text v_texted (p0 - (97 : Int32)) z1 e2) gX8_isLetter_X8_isSymbol qX8_isSymbol rfl ⟨Nat.le_of_ble_eq_true rfl, Nat.le_of_ble_eq_true rfl⟩ ⟨rfl, rfl⟩ hNW hK hP hS hP hK rfl rfl rfl hl.1 rfl rfl (Nat.le_of_ble_eq_true rfl) dX8_isLetter_5 z0 (fun H locs hP hS => ?_)
  obtain ⟨h3, hJ⟩ := ite_some hJ
  exact ro_zret hx hb hr hlocks (nar_z h3) hS hJ dX8_isLetter_8
theorem qX8_encodesTape : (yX8_encodesTape.cls = RX8) ∧ yX8_encodesTape.cls ≠ "java/lang/invoke/MethodHandle" ∧ yX8_encodesTape.cls ≠ "java/lang/invoke/VarHandle" ∧ (parseMethodDescriptor yX8_encodesTape.desc).map (fun d => d.parameters.length) = some 2 := by decide +kernel
set_option maxHeartbeats 4000000 in
set_option maxRecDepth 100000 in
theorem c_X8_encodesTape (fu : Nat) (l : Launch) (dC : Nat → ClassId) (dI : Nat → Nat → Nat) (kI kB kZ : ClassId) (a : Nat → Nat) (v_tape : Nat → Int32) (v_taped : Int32) (v_errorAt : Int32) (v_thrown : Int32) (v_world : Nat → Int32) (v_aside : Nat → Int32) (v_undone : Nat → Int32) (v_slots : Nat → Int32) (v_isKept : Nat → Int32) (v_undos : Int32) (v_seenPrefix : Nat → Int32) (v_seenLast : Nat → Int32) (v_seen : Int32) (v_previous : Int32) (v_gained : Nat → Int32) (v_gains : Int32) (v_decoded : Nat → Int32) (v_decodes : Int32) (v_readAt : Int32) (v_start : Int32) (v_kind : Int32) (v_word : Int64) (v_letters : Int32) (v_number : Int32) (v_fine : Int32) (v_text : Nat → Int32) (v_texted : Int32) (p0 : Int32) (p1 : Int32) (sz : Nat) (z : (Nat → Int32)) (hJ : J_X8_encodesTape fu v_tape v_world p0 p1 = some z) : Met l yX8_encodesTape wsX8_encodesTape ({ frames := 8, cells := 0, slots := 0, locals := 171 }) (va_Pc [.ref (a 0), .int p0, .int p1] (RWp dC dI sz (MWc a kI kB kZ v_tape v_taped v_errorAt v_thrown v_world v_aside v_undone v_slots v_isKept v_undos v_seenPrefix v_seenLast v_seen v_previous v_gained v_gains v_decoded v_decodes v_readAt v_start v_kind v_word v_letters v_number v_fine v_text v_texted) [(kI, .int), (kB, .byte), (kZ, .boolean)])) (rwQv dC dI (va_A (MWc a kI kB kZ v_tape v_taped v_errorAt v_thrown v_world v_aside v_undone v_slots v_isKept v_undos v_seenPrefix v_seenLast v_seen v_previous v_gained v_gains v_decoded v_decodes v_readAt v_start v_kind v_word v_letters v_number v_fine v_text v_texted) sz) (MWc a kI kB kZ v_tape v_taped v_errorAt v_thrown z v_aside v_undone v_slots v_isKept v_undos v_seenPrefix v_seenLast v_seen v_previous v_gained v_gains v_decoded v_decodes v_readAt v_start v_kind v_word v_letters v_number v_fine v_text v_texted)) 0 0 (va_A (MWc a kI kB kZ v_tape v_taped v_errorAt v_thrown v_world v_aside v_undone v_slots v_isKept v_undos v_seenPrefix v_seenLast v_seen v_previous v_gained v_gains v_decoded v_decodes v_readAt v_start v_kind v_word v_letters v_number v_fine v_text v_texted) sz) := by
  refine rw_start (Qc := fun A => rwQv dC dI A (MWc a kI kB kZ v_tape v_taped v_errorAt v_thrown z v_aside v_undone v_slots v_isKept v_undos v_seenPrefix v_seenLast v_seen v_previous v_gained v_gains v_decoded v_decodes v_readAt v_start v_kind v_word v_letters v_number v_fine v_text v_texted)) (cc := cX8_encodesTape) (maxL := 4) (ret := none) (by decide) rfl (Nat.le_of_ble_eq_true rfl) ?_
  intro p e s m args below meth c hx hb hr hml hown hts hlocks hNW hK A hA H locs ls hP hD hS hl
  have hown : s.vm.findClass RX8 = some m.cls := hown
  have hl : lv_has ls 4 [(0, .ref (a 0)), (1, .int p0), (2, .int p1)] := hl
  unfold J_X8_encodesTape at hJ
  have L2 : ∀ (n : Nat) (v_world : Nat → Int32) (y1 : Int32) (y2 : Int32) (y3 : Int32) (H : Heap) (locs : List Loc) (ls : Array Slot), va_P (dC, dI) vwCl (MWc a kI kB kZ v_tape v_taped v_errorAt v_thrown v_world v_aside v_undone v_slots v_isKept v_undos v_seenPrefix v_seenLast v_seen v_previous v_gained v_gains v_decoded v_decodes v_readAt v_start v_kind v_word v_letters v_number v_fine v_text v_texted) H → va_D A (MWc a kI kB kZ v_tape v_taped v_errorAt v_thrown v_world v_aside v_undone v_slots v_isKept v_undos v_seenPrefix v_seenLast v_seen v_previous v_gained v_gains v_decoded v_decodes v_readAt v_start v_kind v_word v_letters v_number v_fine v_text v_texted) → va_S A s.heap H locs → lv_has ls 4 [(0, .ref (a 0)), (1, .int y1), (2, .int y2), (3, .int y3)] → J_X8_encodesTape_b2 fu v_tape n v_world y1 y2 y3 = some z → W p l e ({ frames := 8, cells := 0, slots := 0, locals := 171 }) s m args below meth c H locs 0 0 (MQ below (rwQv dC dI A (MWc a kI kB kZ v_tape v_taped v_errorAt v_thrown z v_aside v_undone v_slots v_isKept v_undos v_seenPrefix v_seenLast v_seen v_previous v_gained v_gains v_decoded v_decodes v_readAt v_start v_kind v_word v_letters v_number v_fine v_text v_texted)) args s 0 0 (A)) (F0 m 2 ls []) := by
    intro n
    induction n with
    | zero =>
      intro v_world y1 y2 y3 H locs ls hP hD hS hl hJ
      rw [J_X8_encodesTape_b2] at hJ; cases hJ
    | succ n ih =>
      intro v_world y1 y2 y3 H locs ls hP hD hS hl hJ
      rw [J_X8_encodesTape_b2] at hJ
      refine lv_iload_n hx hb dX8_encodesTape_2 rfl (lv_at hl 3 rfl) ?_
      refine lv_iload_n hx hb dX8_encodesTape_3 rfl (lv_at hl 2 rfl) ?_
      refine lv_icmp_ge (tgt := 28) hx hb dX8_encodesTape_4 (by decide) (fun c1 => ?_) (fun c1 => ?_)
      · have hJ := ite_t c1 hJ
        obtain rfl := Option.some.inj hJ
        exact rw_vret hx hb hr hlocks hP hD hS dX8_encodesTape_28
      · have hJ := ite_f c1 hJ
        refine lv_aload_n hx hb dX8_encodesTape_7 rfl (lv_at hl 0 rfl) ?_
        refine lv_aload_n hx hb dX8_encodesTape_8 rfl (lv_at hl 0 rfl) ?_
        refine va_get (D := (dC, dI)) (ci := 8) (v := .ref (a 1)) (C := RX8) (T := TX8) (N := 27) hx hb hts (fun _ h => List.mem_cons_of_mem _ (List.mem_append_right _ h)) hown hK hP 0 rfl rfl 0 (by decide) (hts _ (List.mem_of_getElem? (i := 1) rfl)) (fun _ h9 => h9) rfl dX8_encodesTape_9 ?_
        refine lv_iload_n hx hb dX8_encodesTape_12 rfl (lv_at hl 1 rfl) ?_
        refine lv_iload_n hx hb dX8_encodesTape_13 rfl (lv_at hl 3 rfl) ?_
        refine lv_iadd hx hb dX8_encodesTape_14 ?_
        obtain ⟨z2, e3, hJ⟩ := bnd hJ
        refine rd_byte (n := 800) (f := v_tape) hx hb hK hP 1 1 rfl rfl e3 dX8_encodesTape_15 ?_
        refine lv_bipush (v := 97) hx hb dX8_encodesTape_16 (by decide) ?_
        refine lv_isub hx hb dX8_encodesTape_18 ?_
        obtain ⟨z4, e5, hJ⟩ := bnd hJ
        refine rwVvW (As := [.int (z2 - (97 : Int32))]) (rest := []) (ci := 8) (q0 := 0) hx hb hml hown hts (c_X8_encodes fu l dC dI kI kB kZ a v_tape v_taped v_errorAt v_thrown v_world v_aside v_undone v_slots v_isKept v_undos v_seenPrefix v_seenLast v_seen v_previous v_gained v_gains v_decoded v_decodes v_readAt v_start v_kind v_word v_letters v_number v_fine v_text v_texted (z2 - (97 : Int32)) H.size z4 e5) gX8_encodesTape_X8_encodes qX8_encodes rfl ⟨Nat.le_of_ble_eq_true rfl, Nat.le_of_ble_eq_true rfl⟩ ⟨rfl, rfl⟩ hNW hK hP hD hS hA hK rfl rfl rfl hl.1 rfl rfl (Nat.le_of_ble_eq_true rfl) dX8_encodesTape_19 z0 (fun H locs hP hD hS => ?_)
        refine lv_iinc (v := y3 + 1) (lv' := [(3, .int (y3 + 1)), (0, .ref (a 0)), (1, .int y1), (2, .int y2)]) hx hb dX8_encodesTape_22 hl (k := 3) rfl rfl (by decide) rfl (fun ls hl => ?_)
        refine lv_goto (tgt := 2) hx hb dX8_encodesTape_25 (by decide) ?_
        exact ih z4 y1 y2 (y3 + 1) H locs ls hP hD hS (lv_sub hl [1, 2, 3, 0] rfl) hJ
  refine lv_iconst (v := 0) hx hb dX8_encodesTape_0 (by decide) ?_
  refine lv_istore_n (lv' := [(3, .int (0 : Int32)), (0, .ref (a 0)), (1, .int p0), (2, .int p1)]) hx hb dX8_encodesTape_1 rfl hl (by decide) rfl (fun ls hl => ?_)
  exact L2 fu v_world p0 p1 (0 : Int32) H locs ls hP hD hS (lv_sub hl [1, 2, 3, 0] rfl) hJ
theorem qX8_areLetters : (yX8_areLetters.cls = RX8) ∧ yX8_areLetters.cls ≠ "java/lang/invoke/MethodHandle" ∧ yX8_areLetters.cls ≠ "java/lang/invoke/VarHandle" ∧ (parseMethodDescriptor yX8_areLetters.desc).map (fun d => d.parameters.length) = some 2 := by decide +kernel
set_option maxHeartbeats 4000000 in
set_option maxRecDepth 100000 in
theorem c_X8_areLetters (fu : Nat) (l : Launch) (dC : Nat → ClassId) (dI : Nat → Nat → Nat) (kI kB kZ : ClassId) (a : Nat → Nat) (v_tape : Nat → Int32) (v_taped : Int32) (v_errorAt : Int32) (v_thrown : Int32) (v_world : Nat → Int32) (v_aside : Nat → Int32) (v_undone : Nat → Int32) (v_slots : Nat → Int32) (v_isKept : Nat → Int32) (v_undos : Int32) (v_seenPrefix : Nat → Int32) (v_seenLast : Nat → Int32) (v_seen : Int32) (v_previous : Int32) (v_gained : Nat → Int32) (v_gains : Int32) (v_decoded : Nat → Int32) (v_decodes : Int32) (v_readAt : Int32) (v_start : Int32) (v_kind : Int32) (v_word : Int64) (v_letters : Int32) (v_number : Int32) (v_fine : Int32) (v_text : Nat → Int32) (v_texted : Int32) (p0 : Int32) (p1 : Int32) (z : Int32) (hJ : J_X8_areLetters fu v_tape v_world p0 p1 = some z) : Met l yX8_areLetters wsX8_areLetters ({ frames := 3, cells := 0, slots := 0, locals := 64 }) (va_Pc [.ref (a 0), .int p0, .int p1] (ROp dC dI (MWc a kI kB kZ v_tape v_taped v_errorAt v_thrown v_world v_aside v_undone v_slots v_isKept v_undos v_seenPrefix v_seenLast v_seen v_previous v_gained v_gains v_decoded v_decodes v_readAt v_start v_kind v_word v_letters v_number v_fine v_text v_texted) [(kI, .int), (kB, .byte), (kZ, .boolean)])) (roQi z) 0 0 (fun _ => False) := by
  refine ro_start (cc := cX8_areLetters) (maxL := 5) (ret := (some .boolean)) (by decide) rfl (Nat.le_of_ble_eq_true rfl) ?_
  intro p e s m args below meth c hx hb hr hml hown hts hlocks hNW hK H locs ls hP hS hl
  have hown : s.vm.findClass RX8 = some m.cls := hown
  have hl : lv_has ls 5 [(0, .ref (a 0)), (1, .int p0), (2, .int p1)] := hl
  unfold J_X8_areLetters at hJ
  have L5 : ∀ (n : Nat) (y1 : Int32) (y2 : Int32) (y3 : Int32) (y4 : Int32) (H : Heap) (locs : List Loc) (ls : Array Slot), va_P (dC, dI) vwCl (MWc a kI kB kZ v_tape v_taped v_errorAt v_thrown v_world v_aside v_undone v_slots v_isKept v_undos v_seenPrefix v_seenLast v_seen v_previous v_gained v_gains v_decoded v_decodes v_readAt v_start v_kind v_word v_letters v_number v_fine v_text v_texted) H → va_S (fun _ => False) s.heap H locs → lv_has ls 5 [(0, .ref (a 0)), (1, .int y1), (2, .int y2), (3, .int y3), (4, .int y4)] → J_X8_areLetters_b5 fu v_tape v_world n y1 y2 y3 y4 = some z → W p l e ({ frames := 3, cells := 0, slots := 0, locals := 64 }) s m args below meth c H locs 0 0 (MQ below (roQi z) args s 0 0 (fun _ => False)) (F0 m 5 ls []) := by
    intro n
    induction n with
    | zero =>
      intro y1 y2 y3 y4 H locs ls hP hS hl hJ
      rw [J_X8_areLetters_b5] at hJ; cases hJ
    | succ n ih =>
      intro y1 y2 y3 y4 H locs ls hP hS hl hJ
      rw [J_X8_areLetters_b5] at hJ
      refine lv_iload hx hb dX8_areLetters_5 (lv_at hl 4 rfl) ?_
      refine lv_iload_n hx hb dX8_areLetters_7 rfl (lv_at hl 2 rfl) ?_
      refine lv_icmp_ge (tgt := 35) hx hb dX8_areLetters_8 (by decide) (fun c1 => ?_) (fun c1 => ?_)
      · have hJ := ite_t c1 hJ
        refine lv_iload_n hx hb dX8_areLetters_35 rfl (lv_at hl 3 rfl) ?_
        obtain ⟨h2, hJ⟩ := ite_some hJ
        exact ro_zret hx hb hr hlocks (nar_z h2) hS hJ dX8_areLetters_36
      · have hJ := ite_f c1 hJ
        refine lv_iload_n hx hb dX8_areLetters_11 rfl (lv_at hl 3 rfl) ?_
        refine lv_if_eq (tgt := 35) hx hb dX8_areLetters_12 (by decide) (fun c3 => ?_) (fun c3 => ?_)
        · have hJ := ite_t c3 hJ
          refine lv_iload_n hx hb dX8_areLetters_35 rfl (lv_at hl 3 rfl) ?_
          obtain ⟨h4, hJ⟩ := ite_some hJ
          exact ro_zret hx hb hr hlocks (nar_z h4) hS hJ dX8_areLetters_36
        · have hJ := ite_f c3 hJ
          refine lv_aload_n hx hb dX8_areLetters_15 rfl (lv_at hl 0 rfl) ?_
          refine lv_aload_n hx hb dX8_areLetters_16 rfl (lv_at hl 0 rfl) ?_
          refine va_get (D := (dC, dI)) (ci := 8) (v := .ref (a 1)) (C := RX8) (T := TX8) (N := 27) hx hb hts (fun _ h => List.mem_cons_of_mem _ (List.mem_append_right _ h)) hown hK hP 0 rfl rfl 0 (by decide) (hts _ (List.mem_of_getElem? (i := 1) rfl)) (fun _ h9 => h9) rfl dX8_areLetters_17 ?_
          refine lv_iload_n hx hb dX8_areLetters_20 rfl (lv_at hl 1 rfl) ?_
          refine lv_iload hx hb dX8_areLetters_21 (lv_at hl 4 rfl) ?_
          refine lv_iadd hx hb dX8_areLetters_23 ?_
          obtain ⟨z5, e6, hJ⟩ := bnd hJ
          refine rd_byte (n := 800) (f := v_tape) hx hb hK hP 1 1 rfl rfl e6 dX8_areLetters_24 ?_
          obtain ⟨z7, e8, hJ⟩ := bnd hJ
          refine roVi (As := [.int z5]) (rest := []) (ci := 8) (q0 := 0) hx hb hml hown hts (c_X8_isLetter l dC dI kI kB kZ a v_tape v_taped v_errorAt v_thrown v_world v_aside v_undone v_slots v_isKept v_undos v_seenPrefix v_seenLast v_seen v_previous v_gained v_gains v_decoded v_decodes v_readAt v_start v_kind v_word v_letters v_number v_fine v_text v_texted z5 z7 e8) gX8_areLetters_X8_isLetter qX8_isLetter rfl ⟨Nat.le_of_ble_eq_true rfl, Nat.le_of_ble_eq_true rfl⟩ ⟨rfl, rfl⟩ hNW hK hP hS hP hK rfl rfl rfl hl.1 rfl rfl (Nat.le_of_ble_eq_true rfl) dX8_areLetters_25 z0 (fun H locs hP hS => ?_)
          refine lv_istore_n (lv' := [(3, .int z7), (0, .ref (a 0)), (1, .int y1), (2, .int y2), (4, .int y4)]) hx hb dX8_areLetters_28 rfl hl (by decide) rfl (fun ls hl => ?_)
          refine lv_iinc (v := y4 + 1) (lv' := [(4, .int (y4 + 1)), (3, .int z7), (0, .ref (a 0)), (1, .int y1), (2, .int y2)]) hx hb dX8_areLetters_29 hl (k := 4) rfl rfl (by decide) rfl (fun ls hl => ?_)
          refine lv_goto (tgt := 5) hx hb dX8_areLetters_32 (by decide) ?_
          exact ih y1 y2 z7 (y4 + 1) H locs ls hP hS (lv_sub hl [2, 3, 4, 1, 0] rfl) hJ
  refine lv_iconst (v := 1) hx hb dX8_areLetters_0 (by decide) ?_
  refine lv_istore_n (lv' := [(3, .int (1 : Int32)), (0, .ref (a 0)), (1, .int p0), (2, .int p1)]) hx hb dX8_areLetters_1 rfl hl (by decide) rfl (fun ls hl => ?_)
  refine lv_iconst (v := 0) hx hb dX8_areLetters_2 (by decide) ?_
  refine lv_istore (lv' := [(4, .int (0 : Int32)), (3, .int (1 : Int32)), (0, .ref (a 0)), (1, .int p0), (2, .int p1)]) hx hb dX8_areLetters_3 hl (by decide) rfl (fun ls hl => ?_)
  exact L5 fu p0 p1 (1 : Int32) (0 : Int32) H locs ls hP hS (lv_sub hl [2, 3, 4, 1, 0] rfl) hJ
theorem qX8_encodeTape : (yX8_encodeTape.cls = RX8) ∧ yX8_encodeTape.cls ≠ "java/lang/invoke/MethodHandle" ∧ yX8_encodeTape.cls ≠ "java/lang/invoke/VarHandle" ∧ (parseMethodDescriptor yX8_encodeTape.desc).map (fun d => d.parameters.length) = some 0 := by decide +kernel
set_option maxHeartbeats 4000000 in
set_option maxRecDepth 100000 in
theorem c_X8_encodeTape (fu : Nat) (l : Launch) (dC : Nat → ClassId) (dI : Nat → Nat → Nat) (kI kB kZ : ClassId) (a : Nat → Nat) (v_tape : Nat → Int32) (v_taped : Int32) (v_errorAt : Int32) (v_thrown : Int32) (v_world : Nat → Int32) (v_aside : Nat → Int32) (v_undone : Nat → Int32) (v_slots : Nat → Int32) (v_isKept : Nat → Int32) (v_undos : Int32) (v_seenPrefix : Nat → Int32) (v_seenLast : Nat → Int32) (v_seen : Int32) (v_previous : Int32) (v_gained : Nat → Int32) (v_gains : Int32) (v_decoded : Nat → Int32) (v_decodes : Int32) (v_readAt : Int32) (v_start : Int32) (v_kind : Int32) (v_word : Int64) (v_letters : Int32) (v_number : Int32) (v_fine : Int32) (v_text : Nat → Int32) (v_texted : Int32) (sz : Nat) (z : Int32 × Int32 × Int32 × (Nat → Int32) × (Nat → Int32) × (Nat → Int32) × Int32) (hJ : J_X8_encodeTape fu v_tape v_taped v_thrown v_world v_aside v_undone v_undos = some z) : Met l yX8_encodeTape wsX8_encodeTape ({ frames := 9, cells := 0, slots := 0, locals := 194 }) (va_Pc [.ref (a 0)] (RWp dC dI sz (MWc a kI kB kZ v_tape v_taped v_errorAt v_thrown v_world v_aside v_undone v_slots v_isKept v_undos v_seenPrefix v_seenLast v_seen v_previous v_gained v_gains v_decoded v_decodes v_readAt v_start v_kind v_word v_letters v_number v_fine v_text v_texted) [(kI, .int), (kB, .byte), (kZ, .boolean)])) (rwQi dC dI (va_A (MWc a kI kB kZ v_tape v_taped v_errorAt v_thrown v_world v_aside v_undone v_slots v_isKept v_undos v_seenPrefix v_seenLast v_seen v_previous v_gained v_gains v_decoded v_decodes v_readAt v_start v_kind v_word v_letters v_number v_fine v_text v_texted) sz) (MWc a kI kB kZ v_tape z.2.1 v_errorAt z.2.2.1 z.2.2.2.1 z.2.2.2.2.1 z.2.2.2.2.2.1 v_slots v_isKept z.2.2.2.2.2.2 v_seenPrefix v_seenLast v_seen v_previous v_gained v_gains v_decoded v_decodes v_readAt v_start v_kind v_word v_letters v_number v_fine v_text v_texted) z.1) 0 0 (va_A (MWc a kI kB kZ v_tape v_taped v_errorAt v_thrown v_world v_aside v_undone v_slots v_isKept v_undos v_seenPrefix v_seenLast v_seen v_previous v_gained v_gains v_decoded v_decodes v_readAt v_start v_kind v_word v_letters v_number v_fine v_text v_texted) sz) := by
  refine rw_start (Qc := fun A => rwQi dC dI A (MWc a kI kB kZ v_tape z.2.1 v_errorAt z.2.2.1 z.2.2.2.1 z.2.2.2.2.1 z.2.2.2.2.2.1 v_slots v_isKept z.2.2.2.2.2.2 v_seenPrefix v_seenLast v_seen v_previous v_gained v_gains v_decoded v_decodes v_readAt v_start v_kind v_word v_letters v_number v_fine v_text v_texted) z.1) (cc := cX8_encodeTape) (maxL := 2) (ret := (some .int)) (by decide) rfl (Nat.le_of_ble_eq_true rfl) ?_
  intro p e s m args below meth c hx hb hr hml hown hts hlocks hNW hK A hA H locs ls hP hD hS hl
  have hown : s.vm.findClass RX8 = some m.cls := hown
  have hl : lv_has ls 2 [(0, .ref (a 0))] := hl
  unfold J_X8_encodeTape at hJ
  refine lv_aload_n hx hb dX8_encodeTape_0 rfl (lv_at hl 0 rfl) ?_
  refine lv_iconst (v := 0) hx hb dX8_encodeTape_1 (by decide) ?_
  refine lv_aload_n hx hb dX8_encodeTape_2 rfl (lv_at hl 0 rfl) ?_
  refine va_get (D := (dC, dI)) (ci := 8) (v := .int v_taped) (C := RX8) (T := TX8) (N := 27) hx hb hts (fun _ h => List.mem_cons_of_mem _ (List.mem_append_right _ h)) hown hK hP 0 rfl rfl 1 (by decide) (hts _ (List.mem_of_getElem? (i := 1) rfl)) (fun _ h9 => h9) rfl dX8_encodeTape_3 ?_
  obtain ⟨z1, e2, hJ⟩ := bnd hJ
  refine roVi (As := [.int (0 : Int32), .int v_taped]) (rest := []) (ci := 8) (q0 := 0) hx hb hml hown hts (c_X8_areLetters fu l dC dI kI kB kZ a v_tape v_taped v_errorAt v_thrown v_world v_aside v_undone v_slots v_isKept v_undos v_seenPrefix v_seenLast v_seen v_previous v_gained v_gains v_decoded v_decodes v_readAt v_start v_kind v_word v_letters v_number v_fine v_text v_texted (0 : Int32) v_taped z1 e2) gX8_encodeTape_X8_areLetters qX8_areLetters rfl ⟨Nat.le_of_ble_eq_true rfl, Nat.le_of_ble_eq_true rfl⟩ ⟨rfl, rfl⟩ hNW hK hP hS hP hK rfl rfl rfl hl.1 rfl rfl (Nat.le_of_ble_eq_true rfl) dX8_encodeTape_6 z0 (fun H locs hP hS => ?_)
  refine lv_if_ne (tgt := 18) hx hb dX8_encodeTape_9 (by decide) (fun c3 => ?_) (fun c3 => ?_)
  · have hJ := ite_f c3 hJ
    refine lv_aload_n hx hb dX8_encodeTape_18 rfl (lv_at hl 0 rfl) ?_
    refine va_get (D := (dC, dI)) (ci := 8) (v := .ref (a 2)) (C := RX8) (T := TX8) (N := 27) hx hb hts (fun _ h => List.mem_cons_of_mem _ (List.mem_append_right _ h)) hown hK hP 0 rfl rfl 4 (by decide) (hts _ (List.mem_of_getElem? (i := 2) rfl)) (fun _ h9 => h9) rfl dX8_encodeTape_19 ?_
    refine lv_bipush (v := 6) hx hb dX8_encodeTape_22 (by decide) ?_
    obtain ⟨z4, e5, hJ⟩ := bnd hJ
    refine rd_int (n := 1726) (f := v_world) hx hb hK hP 2 0 rfl rfl e5 dX8_encodeTape_24 ?_
    refine lv_aload_n hx hb dX8_encodeTape_25 rfl (lv_at hl 0 rfl) ?_
    refine va_get (D := (dC, dI)) (ci := 8) (v := .int v_taped) (C := RX8) (T := TX8) (N := 27) hx hb hts (fun _ h => List.mem_cons_of_mem _ (List.mem_append_right _ h)) hown hK hP 0 rfl rfl 1 (by decide) (hts _ (List.mem_of_getElem? (i := 1) rfl)) (fun _ h9 => h9) rfl dX8_encodeTape_26 ?_
    refine lv_iadd hx hb dX8_encodeTape_29 ?_
    refine lv_sipush (v := 400) hx hb dX8_encodeTape_30 (by decide) ?_
    refine lv_icmp_le (tgt := 42) hx hb dX8_encodeTape_33 (by decide) (fun c6 => ?_) (fun c6 => ?_)
    · have hJ := ite_t c6 hJ
      refine lv_aload_n hx hb dX8_encodeTape_42 rfl (lv_at hl 0 rfl) ?_
      obtain ⟨z7, e8, hJ⟩ := bnd hJ
      refine rwVvW (As := []) (rest := []) (ci := 8) (q0 := 0) hx hb hml hown hts (c_X8_keepsAside fu l dC dI kI kB kZ a v_tape v_taped v_errorAt v_thrown v_world v_aside v_undone v_slots v_isKept v_undos v_seenPrefix v_seenLast v_seen v_previous v_gained v_gains v_decoded v_decodes v_readAt v_start v_kind v_word v_letters v_number v_fine v_text v_texted H.size z7 e8) gX8_encodeTape_X8_keepsAside qX8_keepsAside rfl ⟨Nat.le_of_ble_eq_true rfl, Nat.le_of_ble_eq_true rfl⟩ ⟨rfl, rfl⟩ hNW hK hP hD hS hA hK rfl rfl rfl hl.1 rfl rfl (Nat.le_of_ble_eq_true rfl) dX8_encodeTape_43 z0 (fun H locs hP hD hS => ?_)
      refine lv_aload_n hx hb dX8_encodeTape_46 rfl (lv_at hl 0 rfl) ?_
      refine va_get (D := (dC, dI)) (ci := 8) (v := .ref (a 2)) (C := RX8) (T := TX8) (N := 27) hx hb hts (fun _ h => List.mem_cons_of_mem _ (List.mem_append_right _ h)) hown hK hP 0 rfl rfl 4 (by decide) (hts _ (List.mem_of_getElem? (i := 2) rfl)) (fun _ h9 => h9) rfl dX8_encodeTape_47 ?_
      refine lv_bipush (v := 7) hx hb dX8_encodeTape_50 (by decide) ?_
      obtain ⟨z9, e10, hJ⟩ := bnd hJ
      refine rd_int (n := 1726) (f := v_world) hx hb hK hP 2 0 rfl rfl e10 dX8_encodeTape_52 ?_
      refine lv_istore_n (lv' := [(1, .int z9), (0, .ref (a 0))]) hx hb dX8_encodeTape_53 rfl hl (by decide) rfl (fun ls hl => ?_)
      refine lv_aload_n hx hb dX8_encodeTape_54 rfl (lv_at hl 1 rfl) ?_
      refine lv_iconst (v := 0) hx hb dX8_encodeTape_55 (by decide) ?_
      refine lv_aload_n hx hb dX8_encodeTape_56 rfl (lv_at hl 1 rfl) ?_
      refine va_get (D := (dC, dI)) (ci := 8) (v := .int v_taped) (C := RX8) (T := TX8) (N := 27) hx hb hts (fun _ h => List.mem_cons_of_mem _ (List.mem_append_right _ h)) hown hK hP 0 rfl rfl 1 (by decide) (hts _ (List.mem_of_getElem? (i := 1) rfl)) (fun _ h9 => h9) rfl dX8_encodeTape_57 ?_
      obtain ⟨z11, e12, hJ⟩ := bnd hJ
      refine rwVvW (As := [.int (0 : Int32), .int v_taped]) (rest := []) (ci := 8) (q0 := 0) hx hb hml hown hts (c_X8_encodesTape fu l dC dI kI kB kZ a v_tape v_taped v_errorAt v_thrown v_world z7 v_undone v_slots v_isKept v_undos v_seenPrefix v_seenLast v_seen v_previous v_gained v_gains v_decoded v_decodes v_readAt v_start v_kind v_word v_letters v_number v_fine v_text v_texted (0 : Int32) v_taped H.size z11 e12) gX8_encodeTape_X8_encodesTape qX8_encodesTape rfl ⟨Nat.le_of_ble_eq_true rfl, Nat.le_of_ble_eq_true rfl⟩ ⟨rfl, rfl⟩ hNW hK hP hD hS hA hK rfl rfl rfl hl.1 rfl rfl (Nat.le_of_ble_eq_true rfl) dX8_encodeTape_60 z0 (fun H locs hP hD hS => ?_)
      refine lv_aload_n hx hb dX8_encodeTape_63 rfl (lv_at hl 1 rfl) ?_
      refine lv_iconst (v := 0) hx hb dX8_encodeTape_64 (by decide) ?_
      refine va_put (D := (dC, dI)) (ci := 8) (v := .int (0 : Int32)) (ty := .int) (C := RX8) (T := TX8) (N := 27) hx hb hts (fun _ h => List.mem_cons_of_mem _ (List.mem_append_right _ h)) tyX8 tyX8_ok nmX8 hown hK hP hD hS 0 rfl rfl 1 (by decide) (hts _ (List.mem_of_getElem? (i := 1) rfl)) (fun _ h9 => h9) rfl (by decide +kernel) rfl rfl (Nat.le_of_ble_eq_true rfl) dX8_encodeTape_65 (fun H locs hP hD hS => ?_)
      have hP : va_P (dC, dI) vwCl (MWc a kI kB kZ v_tape (0 : Int32) v_errorAt v_thrown z11 z7 v_undone v_slots v_isKept v_undos v_seenPrefix v_seenLast v_seen v_previous v_gained v_gains v_decoded v_decodes v_readAt v_start v_kind v_word v_letters v_number v_fine v_text v_texted) H := hP
      have hD : va_D A (MWc a kI kB kZ v_tape (0 : Int32) v_errorAt v_thrown z11 z7 v_undone v_slots v_isKept v_undos v_seenPrefix v_seenLast v_seen v_previous v_gained v_gains v_decoded v_decodes v_readAt v_start v_kind v_word v_letters v_number v_fine v_text v_texted) := hD
      refine lv_aload_n hx hb dX8_encodeTape_68 rfl (lv_at hl 1 rfl) ?_
      refine lv_aload_n hx hb dX8_encodeTape_69 rfl (lv_at hl 1 rfl) ?_
      refine va_get (D := (dC, dI)) (ci := 8) (v := .ref (a 2)) (C := RX8) (T := TX8) (N := 27) hx hb hts (fun _ h => List.mem_cons_of_mem _ (List.mem_append_right _ h)) hown hK hP 0 rfl rfl 4 (by decide) (hts _ (List.mem_of_getElem? (i := 2) rfl)) (fun _ h9 => h9) rfl dX8_encodeTape_70 ?_
      refine lv_bipush (v := 7) hx hb dX8_encodeTape_73 (by decide) ?_
      obtain ⟨z13, e14, hJ⟩ := bnd hJ
      refine rd_int (n := 1726) (f := z11) hx hb hK hP 2 0 rfl rfl e14 dX8_encodeTape_75 ?_
      refine lv_iload_n hx hb dX8_encodeTape_76 rfl (lv_at hl 0 rfl) ?_
      refine lv_isub hx hb dX8_encodeTape_77 ?_
      obtain ⟨z15, e16, hJ⟩ := bnd hJ
      refine rwViW (As := [.int (z13 - z9)]) (rest := []) (ci := 8) (q0 := 0) hx hb hml hown hts (c_X8_changed fu l dC dI kI kB kZ a v_tape (0 : Int32) v_errorAt v_thrown z11 z7 v_undone v_slots v_isKept v_undos v_seenPrefix v_seenLast v_seen v_previous v_gained v_gains v_decoded v_decodes v_readAt v_start v_kind v_word v_letters v_number v_fine v_text v_texted (z13 - z9) H.size z15 e16) gX8_encodeTape_X8_changed qX8_changed rfl ⟨Nat.le_of_ble_eq_true rfl, Nat.le_of_ble_eq_true rfl⟩ ⟨rfl, rfl⟩ hNW hK hP hD hS hA hK rfl rfl rfl hl.1 rfl rfl (Nat.le_of_ble_eq_true rfl) dX8_encodeTape_78 z0 (fun H locs hP hD hS => ?_)
      obtain rfl := Option.some.inj hJ
      exact rw_iret hx hb hr hlocks rfl hP hD hS dX8_encodeTape_81
    · have hJ := ite_f c6 hJ
      refine lv_aload_n hx hb dX8_encodeTape_36 rfl (lv_at hl 0 rfl) ?_
      refine lv_iconst (v := 2) hx hb dX8_encodeTape_37 (by decide) ?_
      obtain ⟨z17, e18, hJ⟩ := bnd hJ
      refine rwViW (As := [.int (2 : Int32)]) (rest := []) (ci := 8) (q0 := 0) hx hb hml hown hts (c_X8_throwing l dC dI kI kB kZ a v_tape v_taped v_errorAt v_thrown v_world v_aside v_undone v_slots v_isKept v_undos v_seenPrefix v_seenLast v_seen v_previous v_gained v_gains v_decoded v_decodes v_readAt v_start v_kind v_word v_letters v_number v_fine v_text v_texted (2 : Int32) H.size z17 e18) gX8_encodeTape_X8_throwing qX8_throwing rfl ⟨Nat.le_of_ble_eq_true rfl, Nat.le_of_ble_eq_true rfl⟩ ⟨rfl, rfl⟩ hNW hK hP hD hS hA hK rfl rfl rfl hl.1 rfl rfl (Nat.le_of_ble_eq_true rfl) dX8_encodeTape_38 z0 (fun H locs hP hD hS => ?_)
      obtain rfl := Option.some.inj hJ
      exact rw_iret hx hb hr hlocks rfl hP hD hS dX8_encodeTape_41
  · have hJ := ite_t c3 hJ
    refine lv_aload_n hx hb dX8_encodeTape_12 rfl (lv_at hl 0 rfl) ?_
    refine lv_iconst (v := 1) hx hb dX8_encodeTape_13 (by decide) ?_
    obtain ⟨z19, e20, hJ⟩ := bnd hJ
    refine rwViW (As := [.int (1 : Int32)]) (rest := []) (ci := 8) (q0 := 0) hx hb hml hown hts (c_X8_throwing l dC dI kI kB kZ a v_tape v_taped v_errorAt v_thrown v_world v_aside v_undone v_slots v_isKept v_undos v_seenPrefix v_seenLast v_seen v_previous v_gained v_gains v_decoded v_decodes v_readAt v_start v_kind v_word v_letters v_number v_fine v_text v_texted (1 : Int32) H.size z19 e20) gX8_encodeTape_X8_throwing qX8_throwing rfl ⟨Nat.le_of_ble_eq_true rfl, Nat.le_of_ble_eq_true rfl⟩ ⟨rfl, rfl⟩ hNW hK hP hD hS hA hK rfl rfl rfl hl.1 rfl rfl (Nat.le_of_ble_eq_true rfl) dX8_encodeTape_14 z0 (fun H locs hP hD hS => ?_)
    obtain rfl := Option.some.inj hJ
    exact rw_iret hx hb hr hlocks rfl hP hD hS dX8_encodeTape_17
theorem qX8_endsAll : (yX8_endsAll.cls = RX8) ∧ yX8_endsAll.cls ≠ "java/lang/invoke/MethodHandle" ∧ yX8_endsAll.cls ≠ "java/lang/invoke/VarHandle" ∧ (parseMethodDescriptor yX8_endsAll.desc).map (fun d => d.parameters.length) = some 0 := by decide +kernel
set_option maxHeartbeats 4000000 in
set_option maxRecDepth 100000 in
theorem c_X8_endsAll (fu : Nat) (l : Launch) (dC : Nat → ClassId) (dI : Nat → Nat → Nat) (kI kB kZ : ClassId) (a : Nat → Nat) (v_tape : Nat → Int32) (v_taped : Int32) (v_errorAt : Int32) (v_thrown : Int32) (v_world : Nat → Int32) (v_aside : Nat → Int32) (v_undone : Nat → Int32) (v_slots : Nat → Int32) (v_isKept : Nat → Int32) (v_undos : Int32) (v_seenPrefix : Nat → Int32) (v_seenLast : Nat → Int32) (v_seen : Int32) (v_previous : Int32) (v_gained : Nat → Int32) (v_gains : Int32) (v_decoded : Nat → Int32) (v_decodes : Int32) (v_readAt : Int32) (v_start : Int32) (v_kind : Int32) (v_word : Int64) (v_letters : Int32) (v_number : Int32) (v_fine : Int32) (v_text : Nat → Int32) (v_texted : Int32) (sz : Nat) (z : (Nat → Int32)) (hJ : J_X8_endsAll fu v_world = some z) : Met l yX8_endsAll wsX8_endsAll ({ frames := 5, cells := 0, slots := 0, locals := 106 }) (va_Pc [.ref (a 0)] (RWp dC dI sz (MWc a kI kB kZ v_tape v_taped v_errorAt v_thrown v_world v_aside v_undone v_slots v_isKept v_undos v_seenPrefix v_seenLast v_seen v_previous v_gained v_gains v_decoded v_decodes v_readAt v_start v_kind v_word v_letters v_number v_fine v_text v_texted) [(kI, .int), (kB, .byte), (kZ, .boolean)])) (rwQv dC dI (va_A (MWc a kI kB kZ v_tape v_taped v_errorAt v_thrown v_world v_aside v_undone v_slots v_isKept v_undos v_seenPrefix v_seenLast v_seen v_previous v_gained v_gains v_decoded v_decodes v_readAt v_start v_kind v_word v_letters v_number v_fine v_text v_texted) sz) (MWc a kI kB kZ v_tape v_taped v_errorAt v_thrown z v_aside v_undone v_slots v_isKept v_undos v_seenPrefix v_seenLast v_seen v_previous v_gained v_gains v_decoded v_decodes v_readAt v_start v_kind v_word v_letters v_number v_fine v_text v_texted)) 0 0 (va_A (MWc a kI kB kZ v_tape v_taped v_errorAt v_thrown v_world v_aside v_undone v_slots v_isKept v_undos v_seenPrefix v_seenLast v_seen v_previous v_gained v_gains v_decoded v_decodes v_readAt v_start v_kind v_word v_letters v_number v_fine v_text v_texted) sz) := by
  refine rw_start (Qc := fun A => rwQv dC dI A (MWc a kI kB kZ v_tape v_taped v_errorAt v_thrown z v_aside v_undone v_slots v_isKept v_undos v_seenPrefix v_seenLast v_seen v_previous v_gained v_gains v_decoded v_decodes v_readAt v_start v_kind v_word v_letters v_number v_fine v_text v_texted)) (cc := cX8_endsAll) (maxL := 2) (ret := none) (by decide) rfl (Nat.le_of_ble_eq_true rfl) ?_
  intro p e s m args below meth c hx hb hr hml hown hts hlocks hNW hK A hA H locs ls hP hD hS hl
  have hown : s.vm.findClass RX8 = some m.cls := hown
  have hl : lv_has ls 2 [(0, .ref (a 0))] := hl
  unfold J_X8_endsAll at hJ
  refine lv_aload_n hx hb dX8_endsAll_0 rfl (lv_at hl 0 rfl) ?_
  refine va_get (D := (dC, dI)) (ci := 8) (v := .ref (a 2)) (C := RX8) (T := TX8) (N := 27) hx hb hts (fun _ h => List.mem_cons_of_mem _ (List.mem_append_right _ h)) hown hK hP 0 rfl rfl 4 (by decide) (hts _ (List.mem_of_getElem? (i := 1) rfl)) (fun _ h9 => h9) rfl dX8_endsAll_1 ?_
  refine lv_iconst (v := 5) hx hb dX8_endsAll_4 (by decide) ?_
  obtain ⟨z1, e2, hJ⟩ := bnd hJ
  refine rd_int (n := 1726) (f := v_world) hx hb hK hP 2 0 rfl rfl e2 dX8_endsAll_5 ?_
  refine lv_iconst (v := 1) hx hb dX8_endsAll_6 (by decide) ?_
  refine lv_isub hx hb dX8_endsAll_7 ?_
  refine lv_istore_n (lv' := [(1, .int (z1 - (1 : Int32))), (0, .ref (a 0))]) hx hb dX8_endsAll_8 rfl hl (by decide) rfl (fun ls hl => ?_)
  refine lv_aload_n hx hb dX8_endsAll_9 rfl (lv_at hl 1 rfl) ?_
  refine lv_iload_n hx hb dX8_endsAll_10 rfl (lv_at hl 0 rfl) ?_
  obtain ⟨z3, e4, hJ⟩ := bnd hJ
  refine rwVvW (As := [.int (z1 - (1 : Int32))]) (rest := []) (ci := 8) (q0 := 0) hx hb hml hown hts (c_X8_writes fu l dC dI kI kB kZ a v_tape v_taped v_errorAt v_thrown v_world v_aside v_undone v_slots v_isKept v_undos v_seenPrefix v_seenLast v_seen v_previous v_gained v_gains v_decoded v_decodes v_readAt v_start v_kind v_word v_letters v_number v_fine v_text v_texted (z1 - (1 : Int32)) H.size z3 e4) gX8_endsAll_X8_writes qX8_writes rfl ⟨Nat.le_of_ble_eq_true rfl, Nat.le_of_ble_eq_true rfl⟩ ⟨rfl, rfl⟩ hNW hK hP hD hS hA hK rfl rfl rfl hl.1 rfl rfl (Nat.le_of_ble_eq_true rfl) dX8_endsAll_11 z0 (fun H locs hP hD hS => ?_)
  refine lv_aload_n hx hb dX8_endsAll_14 rfl (lv_at hl 1 rfl) ?_
  obtain ⟨z5, e6, hJ⟩ := bnd hJ
  refine rwVvW (As := []) (rest := []) (ci := 8) (q0 := 0) hx hb hml hown hts (c_X8_writesClear fu l dC dI kI kB kZ a v_tape v_taped v_errorAt v_thrown z3 v_aside v_undone v_slots v_isKept v_undos v_seenPrefix v_seenLast v_seen v_previous v_gained v_gains v_decoded v_decodes v_readAt v_start v_kind v_word v_letters v_number v_fine v_text v_texted H.size z5 e6) gX8_endsAll_X8_writesClear qX8_writesClear rfl ⟨Nat.le_of_ble_eq_true rfl, Nat.le_of_ble_eq_true rfl⟩ ⟨rfl, rfl⟩ hNW hK hP hD hS hA hK rfl rfl rfl hl.1 rfl rfl (Nat.le_of_ble_eq_true rfl) dX8_endsAll_15 z0 (fun H locs hP hD hS => ?_)
  refine lv_aload_n hx hb dX8_endsAll_18 rfl (lv_at hl 1 rfl) ?_
  refine va_get (D := (dC, dI)) (ci := 8) (v := .ref (a 2)) (C := RX8) (T := TX8) (N := 27) hx hb hts (fun _ h => List.mem_cons_of_mem _ (List.mem_append_right _ h)) hown hK hP 0 rfl rfl 4 (by decide) (hts _ (List.mem_of_getElem? (i := 1) rfl)) (fun _ h9 => h9) rfl dX8_endsAll_19 ?_
  refine lv_iconst (v := 5) hx hb dX8_endsAll_22 (by decide) ?_
  refine lv_iconst (v := 0) hx hb dX8_endsAll_23 (by decide) ?_
  obtain ⟨g7, e8, hJ⟩ := bnd hJ
  refine wr_int (n := 1726) (f := z5) (x := (0 : Int32)) hx hb hK hP hD hS 2 0 rfl rfl e8 dX8_endsAll_24 (fun H locs hP hD hS => ?_)
  have hP : va_P (dC, dI) vwCl (MWc a kI kB kZ v_tape v_taped v_errorAt v_thrown g7 v_aside v_undone v_slots v_isKept v_undos v_seenPrefix v_seenLast v_seen v_previous v_gained v_gains v_decoded v_decodes v_readAt v_start v_kind v_word v_letters v_number v_fine v_text v_texted) H := hP
  have hD : va_D A (MWc a kI kB kZ v_tape v_taped v_errorAt v_thrown g7 v_aside v_undone v_slots v_isKept v_undos v_seenPrefix v_seenLast v_seen v_previous v_gained v_gains v_decoded v_decodes v_readAt v_start v_kind v_word v_letters v_number v_fine v_text v_texted) := hD
  obtain rfl := Option.some.inj hJ
  exact rw_vret hx hb hr hlocks hP hD hS dX8_endsAll_25
theorem qX8_flush : (yX8_flush.cls = RX8) ∧ yX8_flush.cls ≠ "java/lang/invoke/MethodHandle" ∧ yX8_flush.cls ≠ "java/lang/invoke/VarHandle" ∧ (parseMethodDescriptor yX8_flush.desc).map (fun d => d.parameters.length) = some 0 := by decide +kernel
set_option maxHeartbeats 4000000 in
set_option maxRecDepth 100000 in
theorem c_X8_flush (fu : Nat) (l : Launch) (dC : Nat → ClassId) (dI : Nat → Nat → Nat) (kI kB kZ : ClassId) (a : Nat → Nat) (v_tape : Nat → Int32) (v_taped : Int32) (v_errorAt : Int32) (v_thrown : Int32) (v_world : Nat → Int32) (v_aside : Nat → Int32) (v_undone : Nat → Int32) (v_slots : Nat → Int32) (v_isKept : Nat → Int32) (v_undos : Int32) (v_seenPrefix : Nat → Int32) (v_seenLast : Nat → Int32) (v_seen : Int32) (v_previous : Int32) (v_gained : Nat → Int32) (v_gains : Int32) (v_decoded : Nat → Int32) (v_decodes : Int32) (v_readAt : Int32) (v_start : Int32) (v_kind : Int32) (v_word : Int64) (v_letters : Int32) (v_number : Int32) (v_fine : Int32) (v_text : Nat → Int32) (v_texted : Int32) (sz : Nat) (z : Int32 × Int32 × (Nat → Int32) × (Nat → Int32) × (Nat → Int32) × Int32) (hJ : J_X8_flush fu v_thrown v_world v_aside v_undone v_undos = some z) : Met l yX8_flush wsX8_flush ({ frames := 6, cells := 0, slots := 0, locals := 127 }) (va_Pc [.ref (a 0)] (RWp dC dI sz (MWc a kI kB kZ v_tape v_taped v_errorAt v_thrown v_world v_aside v_undone v_slots v_isKept v_undos v_seenPrefix v_seenLast v_seen v_previous v_gained v_gains v_decoded v_decodes v_readAt v_start v_kind v_word v_letters v_number v_fine v_text v_texted) [(kI, .int), (kB, .byte), (kZ, .boolean)])) (rwQi dC dI (va_A (MWc a kI kB kZ v_tape v_taped v_errorAt v_thrown v_world v_aside v_undone v_slots v_isKept v_undos v_seenPrefix v_seenLast v_seen v_previous v_gained v_gains v_decoded v_decodes v_readAt v_start v_kind v_word v_letters v_number v_fine v_text v_texted) sz) (MWc a kI kB kZ v_tape v_taped v_errorAt z.2.1 z.2.2.1 z.2.2.2.1 z.2.2.2.2.1 v_slots v_isKept z.2.2.2.2.2 v_seenPrefix v_seenLast v_seen v_previous v_gained v_gains v_decoded v_decodes v_readAt v_start v_kind v_word v_letters v_number v_fine v_text v_texted) z.1) 0 0 (va_A (MWc a kI kB kZ v_tape v_taped v_errorAt v_thrown v_world v_aside v_undone v_slots v_isKept v_undos v_seenPrefix v_seenLast v_seen v_previous v_gained v_gains v_decoded v_decodes v_readAt v_start v_kind v_word v_letters v_number v_fine v_text v_texted) sz) := by
  refine rw_start (Qc := fun A => rwQi dC dI A (MWc a kI kB kZ v_tape v_taped v_errorAt z.2.1 z.2.2.1 z.2.2.2.1 z.2.2.2.2.1 v_slots v_isKept z.2.2.2.2.2 v_seenPrefix v_seenLast v_seen v_previous v_gained v_gains v_decoded v_decodes v_readAt v_start v_kind v_word v_letters v_number v_fine v_text v_texted) z.1) (cc := cX8_flush) (maxL := 2) (ret := (some .int)) (by decide) rfl (Nat.le_of_ble_eq_true rfl) ?_
  intro p e s m args below meth c hx hb hr hml hown hts hlocks hNW hK A hA H locs ls hP hD hS hl
  have hown : s.vm.findClass RX8 = some m.cls := hown
  have hl : lv_has ls 2 [(0, .ref (a 0))] := hl
  unfold J_X8_flush at hJ
  have L25 : ∀ (v_thrown : Int32) (v_world : Nat → Int32) (v_aside : Nat → Int32) (v_undone : Nat → Int32) (v_undos : Int32) (y1 : Int32) (H : Heap) (locs : List Loc) (ls : Array Slot), va_P (dC, dI) vwCl (MWc a kI kB kZ v_tape v_taped v_errorAt v_thrown v_world v_aside v_undone v_slots v_isKept v_undos v_seenPrefix v_seenLast v_seen v_previous v_gained v_gains v_decoded v_decodes v_readAt v_start v_kind v_word v_letters v_number v_fine v_text v_texted) H → va_D A (MWc a kI kB kZ v_tape v_taped v_errorAt v_thrown v_world v_aside v_undone v_slots v_isKept v_undos v_seenPrefix v_seenLast v_seen v_previous v_gained v_gains v_decoded v_decodes v_readAt v_start v_kind v_word v_letters v_number v_fine v_text v_texted) → va_S A s.heap H locs → lv_has ls 2 [(0, .ref (a 0)), (1, .int y1)] → J_X8_flush_b25 fu v_thrown v_world v_aside v_undone v_undos y1 = some z → W p l e ({ frames := 6, cells := 0, slots := 0, locals := 127 }) s m args below meth c H locs 0 0 (MQ below (rwQi dC dI A (MWc a kI kB kZ v_tape v_taped v_errorAt z.2.1 z.2.2.1 z.2.2.2.1 z.2.2.2.2.1 v_slots v_isKept z.2.2.2.2.2 v_seenPrefix v_seenLast v_seen v_previous v_gained v_gains v_decoded v_decodes v_readAt v_start v_kind v_word v_letters v_number v_fine v_text v_texted) z.1) args s 0 0 (A)) (F0 m 25 ls []) := by
    intro v_thrown v_world v_aside v_undone v_undos y1 H locs ls hP hD hS hl hJ
    unfold J_X8_flush_b25 at hJ
    refine lv_aload_n hx hb dX8_flush_25 rfl (lv_at hl 0 rfl) ?_
    refine lv_aload_n hx hb dX8_flush_26 rfl (lv_at hl 0 rfl) ?_
    refine va_get (D := (dC, dI)) (ci := 8) (v := .ref (a 2)) (C := RX8) (T := TX8) (N := 27) hx hb hts (fun _ h => List.mem_cons_of_mem _ (List.mem_append_right _ h)) hown hK hP 0 rfl rfl 4 (by decide) (hts _ (List.mem_of_getElem? (i := 1) rfl)) (fun _ h9 => h9) rfl dX8_flush_27 ?_
    refine lv_bipush (v := 7) hx hb dX8_flush_30 (by decide) ?_
    obtain ⟨z10, e11, hJ⟩ := bnd hJ
    refine rd_int (n := 1726) (f := v_world) hx hb hK hP 2 0 rfl rfl e11 dX8_flush_32 ?_
    refine lv_iload_n hx hb dX8_flush_33 rfl (lv_at hl 1 rfl) ?_
    refine lv_isub hx hb dX8_flush_34 ?_
    obtain ⟨z12, e13, hJ⟩ := bnd hJ
    refine rwViW (As := [.int (z10 - y1)]) (rest := []) (ci := 8) (q0 := 0) hx hb hml hown hts (c_X8_changed fu l dC dI kI kB kZ a v_tape v_taped v_errorAt v_thrown v_world v_aside v_undone v_slots v_isKept v_undos v_seenPrefix v_seenLast v_seen v_previous v_gained v_gains v_decoded v_decodes v_readAt v_start v_kind v_word v_letters v_number v_fine v_text v_texted (z10 - y1) H.size z12 e13) gX8_flush_X8_changed qX8_changed rfl ⟨Nat.le_of_ble_eq_true rfl, Nat.le_of_ble_eq_true rfl⟩ ⟨rfl, rfl⟩ hNW hK hP hD hS hA hK rfl rfl rfl hl.1 rfl rfl (Nat.le_of_ble_eq_true rfl) dX8_flush_35 z0 (fun H locs hP hD hS => ?_)
    obtain rfl := Option.some.inj hJ
    exact rw_iret hx hb hr hlocks rfl hP hD hS dX8_flush_38
  refine lv_aload_n hx hb dX8_flush_0 rfl (lv_at hl 0 rfl) ?_
  obtain ⟨z1, e2, hJ⟩ := bnd hJ
  refine rwVvW (As := []) (rest := []) (ci := 8) (q0 := 0) hx hb hml hown hts (c_X8_keepsAside fu l dC dI kI kB kZ a v_tape v_taped v_errorAt v_thrown v_world v_aside v_undone v_slots v_isKept v_undos v_seenPrefix v_seenLast v_seen v_previous v_gained v_gains v_decoded v_decodes v_readAt v_start v_kind v_word v_letters v_number v_fine v_text v_texted H.size z1 e2) gX8_flush_X8_keepsAside qX8_keepsAside rfl ⟨Nat.le_of_ble_eq_true rfl, Nat.le_of_ble_eq_true rfl⟩ ⟨rfl, rfl⟩ hNW hK hP hD hS hA hK rfl rfl rfl hl.1 rfl rfl (Nat.le_of_ble_eq_true rfl) dX8_flush_1 z0 (fun H locs hP hD hS => ?_)
  refine lv_aload_n hx hb dX8_flush_4 rfl (lv_at hl 0 rfl) ?_
  refine va_get (D := (dC, dI)) (ci := 8) (v := .ref (a 2)) (C := RX8) (T := TX8) (N := 27) hx hb hts (fun _ h => List.mem_cons_of_mem _ (List.mem_append_right _ h)) hown hK hP 0 rfl rfl 4 (by decide) (hts _ (List.mem_of_getElem? (i := 1) rfl)) (fun _ h9 => h9) rfl dX8_flush_5 ?_
  refine lv_bipush (v := 7) hx hb dX8_flush_8 (by decide) ?_
  obtain ⟨z3, e4, hJ⟩ := bnd hJ
  refine rd_int (n := 1726) (f := v_world) hx hb hK hP 2 0 rfl rfl e4 dX8_flush_10 ?_
  refine lv_istore_n (lv' := [(1, .int z3), (0, .ref (a 0))]) hx hb dX8_flush_11 rfl hl (by decide) rfl (fun ls hl => ?_)
  refine lv_aload_n hx hb dX8_flush_12 rfl (lv_at hl 1 rfl) ?_
  refine va_get (D := (dC, dI)) (ci := 8) (v := .ref (a 2)) (C := RX8) (T := TX8) (N := 27) hx hb hts (fun _ h => List.mem_cons_of_mem _ (List.mem_append_right _ h)) hown hK hP 0 rfl rfl 4 (by decide) (hts _ (List.mem_of_getElem? (i := 1) rfl)) (fun _ h9 => h9) rfl dX8_flush_13 ?_
  refine lv_iconst (v := 5) hx hb dX8_flush_16 (by decide) ?_
  obtain ⟨z5, e6, hJ⟩ := bnd hJ
  refine rd_int (n := 1726) (f := v_world) hx hb hK hP 2 0 rfl rfl e6 dX8_flush_17 ?_
  refine lv_if_le (tgt := 25) hx hb dX8_flush_18 (by decide) (fun c7 => ?_) (fun c7 => ?_)
  · have hJ := ite_t c7 hJ
    exact L25 v_thrown v_world z1 v_undone v_undos z3 H locs ls hP hD hS (lv_sub hl [1, 0] rfl) hJ
  · have hJ := ite_f c7 hJ
    refine lv_aload_n hx hb dX8_flush_21 rfl (lv_at hl 1 rfl) ?_
    obtain ⟨z8, e9, hJ⟩ := bnd hJ
    refine rwVvW (As := []) (rest := []) (ci := 8) (q0 := 0) hx hb hml hown hts (c_X8_endsAll fu l dC dI kI kB kZ a v_tape v_taped v_errorAt v_thrown v_world z1 v_undone v_slots v_isKept v_undos v_seenPrefix v_seenLast v_seen v_previous v_gained v_gains v_decoded v_decodes v_readAt v_start v_kind v_word v_letters v_number v_fine v_text v_texted H.size z8 e9) gX8_flush_X8_endsAll qX8_endsAll rfl ⟨Nat.le_of_ble_eq_true rfl, Nat.le_of_ble_eq_true rfl⟩ ⟨rfl, rfl⟩ hNW hK hP hD hS hA hK rfl rfl rfl hl.1 rfl rfl (Nat.le_of_ble_eq_true rfl) dX8_flush_22 z0 (fun H locs hP hD hS => ?_)
    exact L25 v_thrown z8 z1 v_undone v_undos z3 H locs ls hP hD hS (lv_sub hl [1, 0] rfl) hJ
theorem qX8_starts : (yX8_starts.cls = RX8) ∧ yX8_starts.cls ≠ "java/lang/invoke/MethodHandle" ∧ yX8_starts.cls ≠ "java/lang/invoke/VarHandle" ∧ (parseMethodDescriptor yX8_starts.desc).map (fun d => d.parameters.length) = some 0 := by decide +kernel
set_option maxHeartbeats 4000000 in
set_option maxRecDepth 100000 in
theorem c_X8_starts (l : Launch) (dC : Nat → ClassId) (dI : Nat → Nat → Nat) (kI kB kZ : ClassId) (a : Nat → Nat) (v_tape : Nat → Int32) (v_taped : Int32) (v_errorAt : Int32) (v_thrown : Int32) (v_world : Nat → Int32) (v_aside : Nat → Int32) (v_undone : Nat → Int32) (v_slots : Nat → Int32) (v_isKept : Nat → Int32) (v_undos : Int32) (v_seenPrefix : Nat → Int32) (v_seenLast : Nat → Int32) (v_seen : Int32) (v_previous : Int32) (v_gained : Nat → Int32) (v_gains : Int32) (v_decoded : Nat → Int32) (v_decodes : Int32) (v_readAt : Int32) (v_start : Int32) (v_kind : Int32) (v_word : Int64) (v_letters : Int32) (v_number : Int32) (v_fine : Int32) (v_text : Nat → Int32) (v_texted : Int32) (sz : Nat) (z : (Nat → Int32)) (hJ : J_X8_starts v_world = some z) : Met l yX8_starts wsX8_starts ({ frames := 1, cells := 0, slots := 0, locals := 20 }) (va_Pc [.ref (a 0)] (RWp dC dI sz (MWc a kI kB kZ v_tape v_taped v_errorAt v_thrown v_world v_aside v_undone v_slots v_isKept v_undos v_seenPrefix v_seenLast v_seen v_previous v_gained v_gains v_decoded v_decodes v_readAt v_start v_kind v_word v_letters v_number v_fine v_text v_texted) [(kI, .int), (kB, .byte), (kZ, .boolean)])) (rwQv dC dI (va_A (MWc a kI kB kZ v_tape v_taped v_errorAt v_thrown v_world v_aside v_undone v_slots v_isKept v_undos v_seenPrefix v_seenLast v_seen v_previous v_gained v_gains v_decoded v_decodes v_readAt v_start v_kind v_word v_letters v_number v_fine v_text v_texted) sz) (MWc a kI kB kZ v_tape v_taped v_errorAt v_thrown z v_aside v_undone v_slots v_isKept v_undos v_seenPrefix v_seenLast v_seen v_previous v_gained v_gains v_decoded v_decodes v_readAt v_start v_kind v_word v_letters v_number v_fine v_text v_texted)) 0 0 (va_A (MWc a kI kB kZ v_tape v_taped v_errorAt v_thrown v_world v_aside v_undone v_slots v_isKept v_undos v_seenPrefix v_seenLast v_seen v_previous v_gained v_gains v_decoded v_decodes v_readAt v_start v_kind v_word v_letters v_number v_fine v_text v_texted) sz) := by
  refine rw_start (Qc := fun A => rwQv dC dI A (MWc a kI kB kZ v_tape v_taped v_errorAt v_thrown z v_aside v_undone v_slots v_isKept v_undos v_seenPrefix v_seenLast v_seen v_previous v_gained v_gains v_decoded v_decodes v_readAt v_start v_kind v_word v_letters v_number v_fine v_text v_texted)) (cc := cX8_starts) (maxL := 1) (ret := none) (by decide) rfl (Nat.le_of_ble_eq_true rfl) ?_
  intro p e s m args below meth c hx hb hr hml hown hts hlocks hNW hK A hA H locs ls hP hD hS hl
  have hown : s.vm.findClass RX8 = some m.cls := hown
  have hl : lv_has ls 1 [(0, .ref (a 0))] := hl
  unfold J_X8_starts at hJ
  refine lv_aload_n hx hb dX8_starts_0 rfl (lv_at hl 0 rfl) ?_
  obtain ⟨z1, e2, hJ⟩ := bnd hJ
  refine rwVvW (As := []) (rest := []) (ci := 8) (q0 := 0) hx hb hml hown hts (c_X8_clearsAll l dC dI kI kB kZ a v_tape v_taped v_errorAt v_thrown v_world v_aside v_undone v_slots v_isKept v_undos v_seenPrefix v_seenLast v_seen v_previous v_gained v_gains v_decoded v_decodes v_readAt v_start v_kind v_word v_letters v_number v_fine v_text v_texted H.size z1 e2) gX8_starts_X8_clearsAll qX8_clearsAll rfl ⟨Nat.le_of_ble_eq_true rfl, Nat.le_of_ble_eq_true rfl⟩ ⟨rfl, rfl⟩ hNW hK hP hD hS hA hK rfl rfl rfl hl.1 rfl rfl (Nat.le_of_ble_eq_true rfl) dX8_starts_1 z0 (fun H locs hP hD hS => ?_)
  refine lv_aload_n hx hb dX8_starts_4 rfl (lv_at hl 0 rfl) ?_
  refine va_get (D := (dC, dI)) (ci := 8) (v := .ref (a 2)) (C := RX8) (T := TX8) (N := 27) hx hb hts (fun _ h => List.mem_cons_of_mem _ (List.mem_append_right _ h)) hown hK hP 0 rfl rfl 4 (by decide) (hts _ (List.mem_of_getElem? (i := 1) rfl)) (fun _ h9 => h9) rfl dX8_starts_5 ?_
  refine lv_iconst (v := 5) hx hb dX8_starts_8 (by decide) ?_
  refine lv_iconst (v := 0) hx hb dX8_starts_9 (by decide) ?_
  obtain ⟨g3, e4, hJ⟩ := bnd hJ
  refine wr_int (n := 1726) (f := z1) (x := (0 : Int32)) hx hb hK hP hD hS 2 0 rfl rfl e4 dX8_starts_10 (fun H locs hP hD hS => ?_)
  have hP : va_P (dC, dI) vwCl (MWc a kI kB kZ v_tape v_taped v_errorAt v_thrown g3 v_aside v_undone v_slots v_isKept v_undos v_seenPrefix v_seenLast v_seen v_previous v_gained v_gains v_decoded v_decodes v_readAt v_start v_kind v_word v_letters v_number v_fine v_text v_texted) H := hP
  have hD : va_D A (MWc a kI kB kZ v_tape v_taped v_errorAt v_thrown g3 v_aside v_undone v_slots v_isKept v_undos v_seenPrefix v_seenLast v_seen v_previous v_gained v_gains v_decoded v_decodes v_readAt v_start v_kind v_word v_letters v_number v_fine v_text v_texted) := hD
  refine lv_aload_n hx hb dX8_starts_11 rfl (lv_at hl 0 rfl) ?_
  refine va_get (D := (dC, dI)) (ci := 8) (v := .ref (a 2)) (C := RX8) (T := TX8) (N := 27) hx hb hts (fun _ h => List.mem_cons_of_mem _ (List.mem_append_right _ h)) hown hK hP 0 rfl rfl 4 (by decide) (hts _ (List.mem_of_getElem? (i := 1) rfl)) (fun _ h9 => h9) rfl dX8_starts_12 ?_
  refine lv_bipush (v := 6) hx hb dX8_starts_15 (by decide) ?_
  refine lv_iconst (v := 0) hx hb dX8_starts_17 (by decide) ?_
  obtain ⟨g5, e6, hJ⟩ := bnd hJ
  refine wr_int (n := 1726) (f := g3) (x := (0 : Int32)) hx hb hK hP hD hS 2 0 rfl rfl e6 dX8_starts_18 (fun H locs hP hD hS => ?_)
  have hP : va_P (dC, dI) vwCl (MWc a kI kB kZ v_tape v_taped v_errorAt v_thrown g5 v_aside v_undone v_slots v_isKept v_undos v_seenPrefix v_seenLast v_seen v_previous v_gained v_gains v_decoded v_decodes v_readAt v_start v_kind v_word v_letters v_number v_fine v_text v_texted) H := hP
  have hD : va_D A (MWc a kI kB kZ v_tape v_taped v_errorAt v_thrown g5 v_aside v_undone v_slots v_isKept v_undos v_seenPrefix v_seenLast v_seen v_previous v_gained v_gains v_decoded v_decodes v_readAt v_start v_kind v_word v_letters v_number v_fine v_text v_texted) := hD
  refine lv_aload_n hx hb dX8_starts_19 rfl (lv_at hl 0 rfl) ?_
  refine va_get (D := (dC, dI)) (ci := 8) (v := .ref (a 2)) (C := RX8) (T := TX8) (N := 27) hx hb hts (fun _ h => List.mem_cons_of_mem _ (List.mem_append_right _ h)) hown hK hP 0 rfl rfl 4 (by decide) (hts _ (List.mem_of_getElem? (i := 1) rfl)) (fun _ h9 => h9) rfl dX8_starts_20 ?_
  refine lv_bipush (v := 7) hx hb dX8_starts_23 (by decide) ?_
  refine lv_iconst (v := 0) hx hb dX8_starts_25 (by decide) ?_
  obtain ⟨g7, e8, hJ⟩ := bnd hJ
  refine wr_int (n := 1726) (f := g5) (x := (0 : Int32)) hx hb hK hP hD hS 2 0 rfl rfl e8 dX8_starts_26 (fun H locs hP hD hS => ?_)
  have hP : va_P (dC, dI) vwCl (MWc a kI kB kZ v_tape v_taped v_errorAt v_thrown g7 v_aside v_undone v_slots v_isKept v_undos v_seenPrefix v_seenLast v_seen v_previous v_gained v_gains v_decoded v_decodes v_readAt v_start v_kind v_word v_letters v_number v_fine v_text v_texted) H := hP
  have hD : va_D A (MWc a kI kB kZ v_tape v_taped v_errorAt v_thrown g7 v_aside v_undone v_slots v_isKept v_undos v_seenPrefix v_seenLast v_seen v_previous v_gained v_gains v_decoded v_decodes v_readAt v_start v_kind v_word v_letters v_number v_fine v_text v_texted) := hD
  refine lv_aload_n hx hb dX8_starts_27 rfl (lv_at hl 0 rfl) ?_
  refine va_get (D := (dC, dI)) (ci := 8) (v := .ref (a 2)) (C := RX8) (T := TX8) (N := 27) hx hb hts (fun _ h => List.mem_cons_of_mem _ (List.mem_append_right _ h)) hown hK hP 0 rfl rfl 4 (by decide) (hts _ (List.mem_of_getElem? (i := 1) rfl)) (fun _ h9 => h9) rfl dX8_starts_28 ?_
  refine lv_bipush (v := 8) hx hb dX8_starts_31 (by decide) ?_
  refine lv_iconst (v := 0) hx hb dX8_starts_33 (by decide) ?_
  obtain ⟨g9, e10, hJ⟩ := bnd hJ
  refine wr_int (n := 1726) (f := g7) (x := (0 : Int32)) hx hb hK hP hD hS 2 0 rfl rfl e10 dX8_starts_34 (fun H locs hP hD hS => ?_)
  have hP : va_P (dC, dI) vwCl (MWc a kI kB kZ v_tape v_taped v_errorAt v_thrown g9 v_aside v_undone v_slots v_isKept v_undos v_seenPrefix v_seenLast v_seen v_previous v_gained v_gains v_decoded v_decodes v_readAt v_start v_kind v_word v_letters v_number v_fine v_text v_texted) H := hP
  have hD : va_D A (MWc a kI kB kZ v_tape v_taped v_errorAt v_thrown g9 v_aside v_undone v_slots v_isKept v_undos v_seenPrefix v_seenLast v_seen v_previous v_gained v_gains v_decoded v_decodes v_readAt v_start v_kind v_word v_letters v_number v_fine v_text v_texted) := hD
  refine lv_aload_n hx hb dX8_starts_35 rfl (lv_at hl 0 rfl) ?_
  refine va_get (D := (dC, dI)) (ci := 8) (v := .ref (a 2)) (C := RX8) (T := TX8) (N := 27) hx hb hts (fun _ h => List.mem_cons_of_mem _ (List.mem_append_right _ h)) hown hK hP 0 rfl rfl 4 (by decide) (hts _ (List.mem_of_getElem? (i := 1) rfl)) (fun _ h9 => h9) rfl dX8_starts_36 ?_
  refine lv_bipush (v := 9) hx hb dX8_starts_39 (by decide) ?_
  refine lv_iconst (v := 0) hx hb dX8_starts_41 (by decide) ?_
  obtain ⟨g11, e12, hJ⟩ := bnd hJ
  refine wr_int (n := 1726) (f := g9) (x := (0 : Int32)) hx hb hK hP hD hS 2 0 rfl rfl e12 dX8_starts_42 (fun H locs hP hD hS => ?_)
  have hP : va_P (dC, dI) vwCl (MWc a kI kB kZ v_tape v_taped v_errorAt v_thrown g11 v_aside v_undone v_slots v_isKept v_undos v_seenPrefix v_seenLast v_seen v_previous v_gained v_gains v_decoded v_decodes v_readAt v_start v_kind v_word v_letters v_number v_fine v_text v_texted) H := hP
  have hD : va_D A (MWc a kI kB kZ v_tape v_taped v_errorAt v_thrown g11 v_aside v_undone v_slots v_isKept v_undos v_seenPrefix v_seenLast v_seen v_previous v_gained v_gains v_decoded v_decodes v_readAt v_start v_kind v_word v_letters v_number v_fine v_text v_texted) := hD
  refine lv_aload_n hx hb dX8_starts_43 rfl (lv_at hl 0 rfl) ?_
  refine va_get (D := (dC, dI)) (ci := 8) (v := .ref (a 2)) (C := RX8) (T := TX8) (N := 27) hx hb hts (fun _ h => List.mem_cons_of_mem _ (List.mem_append_right _ h)) hown hK hP 0 rfl rfl 4 (by decide) (hts _ (List.mem_of_getElem? (i := 1) rfl)) (fun _ h9 => h9) rfl dX8_starts_44 ?_
  refine lv_bipush (v := 13) hx hb dX8_starts_47 (by decide) ?_
  refine lv_iconst (v := 0) hx hb dX8_starts_49 (by decide) ?_
  obtain ⟨g13, e14, hJ⟩ := bnd hJ
  refine wr_int (n := 1726) (f := g11) (x := (0 : Int32)) hx hb hK hP hD hS 2 0 rfl rfl e14 dX8_starts_50 (fun H locs hP hD hS => ?_)
  have hP : va_P (dC, dI) vwCl (MWc a kI kB kZ v_tape v_taped v_errorAt v_thrown g13 v_aside v_undone v_slots v_isKept v_undos v_seenPrefix v_seenLast v_seen v_previous v_gained v_gains v_decoded v_decodes v_readAt v_start v_kind v_word v_letters v_number v_fine v_text v_texted) H := hP
  have hD : va_D A (MWc a kI kB kZ v_tape v_taped v_errorAt v_thrown g13 v_aside v_undone v_slots v_isKept v_undos v_seenPrefix v_seenLast v_seen v_previous v_gained v_gains v_decoded v_decodes v_readAt v_start v_kind v_word v_letters v_number v_fine v_text v_texted) := hD
  obtain rfl := Option.some.inj hJ
  exact rw_vret hx hb hr hlocks hP hD hS dX8_starts_51
theorem qX8_restart : (yX8_restart.cls = RX8) ∧ yX8_restart.cls ≠ "java/lang/invoke/MethodHandle" ∧ yX8_restart.cls ≠ "java/lang/invoke/VarHandle" ∧ (parseMethodDescriptor yX8_restart.desc).map (fun d => d.parameters.length) = some 0 := by decide +kernel
set_option maxHeartbeats 4000000 in
set_option maxRecDepth 100000 in
theorem c_X8_restart (fu : Nat) (l : Launch) (dC : Nat → ClassId) (dI : Nat → Nat → Nat) (kI kB kZ : ClassId) (a : Nat → Nat) (v_tape : Nat → Int32) (v_taped : Int32) (v_errorAt : Int32) (v_thrown : Int32) (v_world : Nat → Int32) (v_aside : Nat → Int32) (v_undone : Nat → Int32) (v_slots : Nat → Int32) (v_isKept : Nat → Int32) (v_undos : Int32) (v_seenPrefix : Nat → Int32) (v_seenLast : Nat → Int32) (v_seen : Int32) (v_previous : Int32) (v_gained : Nat → Int32) (v_gains : Int32) (v_decoded : Nat → Int32) (v_decodes : Int32) (v_readAt : Int32) (v_start : Int32) (v_kind : Int32) (v_word : Int64) (v_letters : Int32) (v_number : Int32) (v_fine : Int32) (v_text : Nat → Int32) (v_texted : Int32) (sz : Nat) (z : Int32 × Int32 × (Nat → Int32) × (Nat → Int32) × (Nat → Int32) × Int32) (hJ : J_X8_restart fu v_thrown v_world v_aside v_undone v_undos = some z) : Met l yX8_restart wsX8_restart ({ frames := 2, cells := 0, slots := 0, locals := 43 }) (va_Pc [.ref (a 0)] (RWp dC dI sz (MWc a kI kB kZ v_tape v_taped v_errorAt v_thrown v_world v_aside v_undone v_slots v_isKept v_undos v_seenPrefix v_seenLast v_seen v_previous v_gained v_gains v_decoded v_decodes v_readAt v_start v_kind v_word v_letters v_number v_fine v_text v_texted) [(kI, .int), (kB, .byte), (kZ, .boolean)])) (rwQi dC dI (va_A (MWc a kI kB kZ v_tape v_taped v_errorAt v_thrown v_world v_aside v_undone v_slots v_isKept v_undos v_seenPrefix v_seenLast v_seen v_previous v_gained v_gains v_decoded v_decodes v_readAt v_start v_kind v_word v_letters v_number v_fine v_text v_texted) sz) (MWc a kI kB kZ v_tape v_taped v_errorAt z.2.1 z.2.2.1 z.2.2.2.1 z.2.2.2.2.1 v_slots v_isKept z.2.2.2.2.2 v_seenPrefix v_seenLast v_seen v_previous v_gained v_gains v_decoded v_decodes v_readAt v_start v_kind v_word v_letters v_number v_fine v_text v_texted) z.1) 0 0 (va_A (MWc a kI kB kZ v_tape v_taped v_errorAt v_thrown v_world v_aside v_undone v_slots v_isKept v_undos v_seenPrefix v_seenLast v_seen v_previous v_gained v_gains v_decoded v_decodes v_readAt v_start v_kind v_word v_letters v_number v_fine v_text v_texted) sz) := by
  refine rw_start (Qc := fun A => rwQi dC dI A (MWc a kI kB kZ v_tape v_taped v_errorAt z.2.1 z.2.2.1 z.2.2.2.1 z.2.2.2.2.1 v_slots v_isKept z.2.2.2.2.2 v_seenPrefix v_seenLast v_seen v_previous v_gained v_gains v_decoded v_decodes v_readAt v_start v_kind v_word v_letters v_number v_fine v_text v_texted) z.1) (cc := cX8_restart) (maxL := 2) (ret := (some .int)) (by decide) rfl (Nat.le_of_ble_eq_true rfl) ?_
  intro p e s m args below meth c hx hb hr hml hown hts hlocks hNW hK A hA H locs ls hP hD hS hl
  have hown : s.vm.findClass RX8 = some m.cls := hown
  have hl : lv_has ls 2 [(0, .ref (a 0))] := hl
  unfold J_X8_restart at hJ
  refine lv_aload_n hx hb dX8_restart_0 rfl (lv_at hl 0 rfl) ?_
  obtain ⟨z1, e2, hJ⟩ := bnd hJ
  refine rwVvW (As := []) (rest := []) (ci := 8) (q0 := 0) hx hb hml hown hts (c_X8_keepsAside fu l dC dI kI kB kZ a v_tape v_taped v_errorAt v_thrown v_world v_aside v_undone v_slots v_isKept v_undos v_seenPrefix v_seenLast v_seen v_previous v_gained v_gains v_decoded v_decodes v_readAt v_start v_kind v_word v_letters v_number v_fine v_text v_texted H.size z1 e2) gX8_restart_X8_keepsAside qX8_keepsAside rfl ⟨Nat.le_of_ble_eq_true rfl, Nat.le_of_ble_eq_true rfl⟩ ⟨rfl, rfl⟩ hNW hK hP hD hS hA hK rfl rfl rfl hl.1 rfl rfl (Nat.le_of_ble_eq_true rfl) dX8_restart_1 z0 (fun H locs hP hD hS => ?_)
  refine lv_aload_n hx hb dX8_restart_4 rfl (lv_at hl 0 rfl) ?_
  refine va_get (D := (dC, dI)) (ci := 8) (v := .ref (a 2)) (C := RX8) (T := TX8) (N := 27) hx hb hts (fun _ h => List.mem_cons_of_mem _ (List.mem_append_right _ h)) hown hK hP 0 rfl rfl 4 (by decide) (hts _ (List.mem_of_getElem? (i := 1) rfl)) (fun _ h9 => h9) rfl dX8_restart_5 ?_
  refine lv_bipush (v := 7) hx hb dX8_restart_8 (by decide) ?_
  obtain ⟨z3, e4, hJ⟩ := bnd hJ
  refine rd_int (n := 1726) (f := v_world) hx hb hK hP 2 0 rfl rfl e4 dX8_restart_10 ?_
  refine lv_istore_n (lv' := [(1, .int z3), (0, .ref (a 0))]) hx hb dX8_restart_11 rfl hl (by decide) rfl (fun ls hl => ?_)
  refine lv_aload_n hx hb dX8_restart_12 rfl (lv_at hl 1 rfl) ?_
  obtain ⟨z5, e6, hJ⟩ := bnd hJ
  refine rwVvW (As := []) (rest := []) (ci := 8) (q0 := 0) hx hb hml hown hts (c_X8_starts l dC dI kI kB kZ a v_tape v_taped v_errorAt v_thrown v_world z1 v_undone v_slots v_isKept v_undos v_seenPrefix v_seenLast v_seen v_previous v_gained v_gains v_decoded v_decodes v_readAt v_start v_kind v_word v_letters v_number v_fine v_text v_texted H.size z5 e6) gX8_restart_X8_starts qX8_starts rfl ⟨Nat.le_of_ble_eq_true rfl, Nat.le_of_ble_eq_true rfl⟩ ⟨rfl, rfl⟩ hNW hK hP hD hS hA hK rfl rfl rfl hl.1 rfl rfl (Nat.le_of_ble_eq_true rfl) dX8_restart_13 z0 (fun H locs hP hD hS => ?_)
  refine lv_aload_n hx hb dX8_restart_16 rfl (lv_at hl 1 rfl) ?_
  refine lv_iload_n hx hb dX8_restart_17 rfl (lv_at hl 0 rfl) ?_
  obtain ⟨z7, e8, hJ⟩ := bnd hJ
  refine rwViW (As := [.int z3]) (rest := []) (ci := 8) (q0 := 0) hx hb hml hown hts (c_X8_changed fu l dC dI kI kB kZ a v_tape v_taped v_errorAt v_thrown z5 z1 v_undone v_slots v_isKept v_undos v_seenPrefix v_seenLast v_seen v_previous v_gained v_gains v_decoded v_decodes v_readAt v_start v_kind v_word v_letters v_number v_fine v_text v_texted z3 H.size z7 e8) gX8_restart_X8_changed qX8_changed rfl ⟨Nat.le_of_ble_eq_true rfl, Nat.le_of_ble_eq_true rfl⟩ ⟨rfl, rfl⟩ hNW hK hP hD hS hA hK rfl rfl rfl hl.1 rfl rfl (Nat.le_of_ble_eq_true rfl) dX8_restart_18 z0 (fun H locs hP hD hS => ?_)
  obtain rfl := Option.some.inj hJ
  exact rw_iret hx hb hr hlocks rfl hP hD hS dX8_restart_21
theorem qX8_setPolicy : (yX8_setPolicy.cls = RX8) ∧ yX8_setPolicy.cls ≠ "java/lang/invoke/MethodHandle" ∧ yX8_setPolicy.cls ≠ "java/lang/invoke/VarHandle" ∧ (parseMethodDescriptor yX8_setPolicy.desc).map (fun d => d.parameters.length) = some 1 := by decide +kernel
set_option maxHeartbeats 4000000 in
set_option maxRecDepth 100000 in
theorem c_X8_setPolicy (fu : Nat) (l : Launch) (dC : Nat → ClassId) (dI : Nat → Nat → Nat) (kI kB kZ : ClassId) (a : Nat → Nat) (v_tape : Nat → Int32) (v_taped : Int32) (v_errorAt : Int32) (v_thrown : Int32) (v_world : Nat → Int32) (v_aside : Nat → Int32) (v_undone : Nat → Int32) (v_slots : Nat → Int32) (v_isKept : Nat → Int32) (v_undos : Int32) (v_seenPrefix : Nat → Int32) (v_seenLast : Nat → Int32) (v_seen : Int32) (v_previous : Int32) (v_gained : Nat → Int32) (v_gains : Int32) (v_decoded : Nat → Int32) (v_decodes : Int32) (v_readAt : Int32) (v_start : Int32) (v_kind : Int32) (v_word : Int64) (v_letters : Int32) (v_number : Int32) (v_fine : Int32) (v_text : Nat → Int32) (v_texted : Int32) (p0 : Int32) (sz : Nat) (z : Int32 × Int32 × (Nat → Int32) × (Nat → Int32) × (Nat → Int32) × Int32) (hJ : J_X8_setPolicy fu v_thrown v_world v_aside v_undone v_undos p0 = some z) : Met l yX8_setPolicy wsX8_setPolicy ({ frames := 2, cells := 0, slots := 0, locals := 43 }) (va_Pc [.ref (a 0), .int p0] (RWp dC dI sz (MWc a kI kB kZ v_tape v_taped v_errorAt v_thrown v_world v_aside v_undone v_slots v_isKept v_undos v_seenPrefix v_seenLast v_seen v_previous v_gained v_gains v_decoded v_decodes v_readAt v_start v_kind v_word v_letters v_number v_fine v_text v_texted) [(kI, .int), (kB, .byte), (kZ, .boolean)])) (rwQi dC dI (va_A (MWc a kI kB kZ v_tape v_taped v_errorAt v_thrown v_world v_aside v_undone v_slots v_isKept v_undos v_seenPrefix v_seenLast v_seen v_previous v_gained v_gains v_decoded v_decodes v_readAt v_start v_kind v_word v_letters v_number v_fine v_text v_texted) sz) (MWc a kI kB kZ v_tape v_taped v_errorAt z.2.1 z.2.2.1 z.2.2.2.1 z.2.2.2.2.1 v_slots v_isKept z.2.2.2.2.2 v_seenPrefix v_seenLast v_seen v_previous v_gained v_gains v_decoded v_decodes v_readAt v_start v_kind v_word v_letters v_number v_fine v_text v_texted) z.1) 0 0 (va_A (MWc a kI kB kZ v_tape v_taped v_errorAt v_thrown v_world v_aside v_undone v_slots v_isKept v_undos v_seenPrefix v_seenLast v_seen v_previous v_gained v_gains v_decoded v_decodes v_readAt v_start v_kind v_word v_letters v_number v_fine v_text v_texted) sz) := by
  refine rw_start (Qc := fun A => rwQi dC dI A (MWc a kI kB kZ v_tape v_taped v_errorAt z.2.1 z.2.2.1 z.2.2.2.1 z.2.2.2.2.1 v_slots v_isKept z.2.2.2.2.2 v_seenPrefix v_seenLast v_seen v_previous v_gained v_gains v_decoded v_decodes v_readAt v_start v_kind v_word v_letters v_number v_fine v_text v_texted) z.1) (cc := cX8_setPolicy) (maxL := 3) (ret := (some .int)) (by decide) rfl (Nat.le_of_ble_eq_true rfl) ?_
  intro p e s m args below meth c hx hb hr hml hown hts hlocks hNW hK A hA H locs ls hP hD hS hl
  have hown : s.vm.findClass RX8 = some m.cls := hown
  have hl : lv_has ls 3 [(0, .ref (a 0)), (1, .int p0)] := hl
  unfold J_X8_setPolicy at hJ
  refine lv_iload_n hx hb dX8_setPolicy_0 rfl (lv_at hl 1 rfl) ?_
  refine lv_iconst (v := 0) hx hb dX8_setPolicy_1 (by decide) ?_
  refine lv_iconst (v := 2) hx hb dX8_setPolicy_2 (by decide) ?_
  obtain ⟨z1, e2, hJ⟩ := bnd hJ
  refine roSi (As := [.int p0, .int (0 : Int32), .int (2 : Int32)]) (rest := []) hx hb hml hown hts (c_X8_in l dC dI p0 (0 : Int32) (2 : Int32) z1 e2) gX8_setPolicy_X8_in qX8_in rfl ⟨Nat.le_of_ble_eq_true rfl, Nat.le_of_ble_eq_true rfl⟩ ⟨rfl, rfl⟩ hNW hK hP hS (hP.sub (ws' := []) [] rfl) (hK.sub (tys' := []) [] rfl) hl.1 rfl rfl (Nat.le_of_ble_eq_true rfl) dX8_setPolicy_3 z0 (fun H locs hP hS => ?_)
  refine lv_if_ne (tgt := 15) hx hb dX8_setPolicy_6 (by decide) (fun c3 => ?_) (fun c3 => ?_)
  · have hJ := ite_f c3 hJ
    refine lv_aload_n hx hb dX8_setPolicy_15 rfl (lv_at hl 0 rfl) ?_
    obtain ⟨z4, e5, hJ⟩ := bnd hJ
    refine rwVvW (As := []) (rest := []) (ci := 8) (q0 := 0) hx hb hml hown hts (c_X8_keepsAside fu l dC dI kI kB kZ a v_tape v_taped v_errorAt v_thrown v_world v_aside v_undone v_slots v_isKept v_undos v_seenPrefix v_seenLast v_seen v_previous v_gained v_gains v_decoded v_decodes v_readAt v_start v_kind v_word v_letters v_number v_fine v_text v_texted H.size z4 e5) gX8_setPolicy_X8_keepsAside qX8_keepsAside rfl ⟨Nat.le_of_ble_eq_true rfl, Nat.le_of_ble_eq_true rfl⟩ ⟨rfl, rfl⟩ hNW hK hP hD hS hA hK rfl rfl rfl hl.1 rfl rfl (Nat.le_of_ble_eq_true rfl) dX8_setPolicy_16 z0 (fun H locs hP hD hS => ?_)
    refine lv_aload_n hx hb dX8_setPolicy_19 rfl (lv_at hl 0 rfl) ?_
    refine va_get (D := (dC, dI)) (ci := 8) (v := .ref (a 2)) (C := RX8) (T := TX8) (N := 27) hx hb hts (fun _ h => List.mem_cons_of_mem _ (List.mem_append_right _ h)) hown hK hP 0 rfl rfl 4 (by decide) (hts _ (List.mem_of_getElem? (i := 1) rfl)) (fun _ h9 => h9) rfl dX8_setPolicy_20 ?_
    refine lv_iconst (v := 2) hx hb dX8_setPolicy_23 (by decide) ?_
    obtain ⟨z6, e7, hJ⟩ := bnd hJ
    refine rd_int (n := 1726) (f := v_world) hx hb hK hP 2 0 rfl rfl e7 dX8_setPolicy_24 ?_
    refine lv_istore_n (lv' := [(2, .int z6), (0, .ref (a 0)), (1, .int p0)]) hx hb dX8_setPolicy_25 rfl hl (by decide) rfl (fun ls hl => ?_)
    refine lv_aload_n hx hb dX8_setPolicy_26 rfl (lv_at hl 1 rfl) ?_
    refine va_get (D := (dC, dI)) (ci := 8) (v := .ref (a 2)) (C := RX8) (T := TX8) (N := 27) hx hb hts (fun _ h => List.mem_cons_of_mem _ (List.mem_append_right _ h)) hown hK hP 0 rfl rfl 4 (by decide) (hts _ (List.mem_of_getElem? (i := 1) rfl)) (fun _ h9 => h9) rfl dX8_setPolicy_27 ?_
    refine lv_iconst (v := 2) hx hb dX8_setPolicy_30 (by decide) ?_
    refine lv_iload_n hx hb dX8_setPolicy_31 rfl (lv_at hl 2 rfl) ?_
    obtain ⟨g8, e9, hJ⟩ := bnd hJ
    refine wr_int (n := 1726) (f := v_world) (x := p0) hx hb hK hP hD hS 2 0 rfl rfl e9 dX8_setPolicy_32 (fun H locs hP hD hS => ?_)
    have hP : va_P (dC, dI) vwCl (MWc a kI kB kZ v_tape v_taped v_errorAt v_thrown g8 z4 v_undone v_slots v_isKept v_undos v_seenPrefix v_seenLast v_seen v_previous v_gained v_gains v_decoded v_decodes v_readAt v_start v_kind v_word v_letters v_number v_fine v_text v_texted) H := hP
    have hD : va_D A (MWc a kI kB kZ v_tape v_taped v_errorAt v_thrown g8 z4 v_undone v_slots v_isKept v_undos v_seenPrefix v_seenLast v_seen v_previous v_gained v_gains v_decoded v_decodes v_readAt v_start v_kind v_word v_letters v_number v_fine v_text v_texted) := hD
    refine lv_aload_n hx hb dX8_setPolicy_33 rfl (lv_at hl 1 rfl) ?_
    refine lv_iload_n hx hb dX8_setPolicy_34 rfl (lv_at hl 0 rfl) ?_
    obtain ⟨z10, e11, hJ⟩ := bnd hJ
    refine rwViW (As := [.int z6]) (rest := []) (ci := 8) (q0 := 0) hx hb hml hown hts (c_X8_changed fu l dC dI kI kB kZ a v_tape v_taped v_errorAt v_thrown g8 z4 v_undone v_slots v_isKept v_undos v_seenPrefix v_seenLast v_seen v_previous v_gained v_gains v_decoded v_decodes v_readAt v_start v_kind v_word v_letters v_number v_fine v_text v_texted z6 H.size z10 e11) gX8_setPolicy_X8_changed qX8_changed rfl ⟨Nat.le_of_ble_eq_true rfl, Nat.le_of_ble_eq_true rfl⟩ ⟨rfl, rfl⟩ hNW hK hP hD hS hA hK rfl rfl rfl hl.1 rfl rfl (Nat.le_of_ble_eq_true rfl) dX8_setPolicy_35 z0 (fun H locs hP hD hS => ?_)
    obtain rfl := Option.some.inj hJ
    exact rw_iret hx hb hr hlocks rfl hP hD hS dX8_setPolicy_38
  · have hJ := ite_t c3 hJ
    refine lv_aload_n hx hb dX8_setPolicy_9 rfl (lv_at hl 0 rfl) ?_
    refine lv_iconst (v := 1) hx hb dX8_setPolicy_10 (by decide) ?_
    obtain ⟨z12, e13, hJ⟩ := bnd hJ
    refine rwViW (As := [.int (1 : Int32)]) (rest := []) (ci := 8) (q0 := 0) hx hb hml hown hts (c_X8_throwing l dC dI kI kB kZ a v_tape v_taped v_errorAt v_thrown v_world v_aside v_undone v_slots v_isKept v_undos v_seenPrefix v_seenLast v_seen v_previous v_gained v_gains v_decoded v_decodes v_readAt v_start v_kind v_word v_letters v_number v_fine v_text v_texted (1 : Int32) H.size z12 e13) gX8_setPolicy_X8_throwing qX8_throwing rfl ⟨Nat.le_of_ble_eq_true rfl, Nat.le_of_ble_eq_true rfl⟩ ⟨rfl, rfl⟩ hNW hK hP hD hS hA hK rfl rfl rfl hl.1 rfl rfl (Nat.le_of_ble_eq_true rfl) dX8_setPolicy_11 z0 (fun H locs hP hD hS => ?_)
    obtain rfl := Option.some.inj hJ
    exact rw_iret hx hb hr hlocks rfl hP hD hS dX8_setPolicy_14
theorem qX8_isPercent : (yX8_isPercent.cls = RX8) ∧ yX8_isPercent.cls ≠ "java/lang/invoke/MethodHandle" ∧ yX8_isPercent.cls ≠ "java/lang/invoke/VarHandle" ∧ (parseMethodDescriptor yX8_isPercent.desc).map (fun d => d.parameters.length) = some 1 := by decide +kernel
set_option maxHeartbeats 4000000 in
set_option maxRecDepth 100000 in
theorem c_X8_isPercent (l : Launch) (dC : Nat → ClassId) (dI : Nat → Nat → Nat) (p0 : Int32) (z : Int32) (hJ : J_X8_isPercent p0 = some z) : Met l yX8_isPercent wsX8_isPercent ({ frames := 1, cells := 0, slots := 0, locals := 22 }) (va_Pc [.int p0] (ROp dC dI ([]) [])) (roQi z) 0 0 (fun _ => False) := by
  refine ro_start (cc := cX8_isPercent) (maxL := 1) (ret := (some .boolean)) (by decide) rfl (Nat.le_of_ble_eq_true rfl) ?_
  intro p e s m args below meth c hx hb hr hml hown hts hlocks hNW hK H locs ls hP hS hl
  have hown : s.vm.findClass RX8 = some m.cls := hown
  have hl : lv_has ls 1 [(0, .int p0)] := hl
  unfold J_X8_isPercent at hJ
  refine lv_iload_n hx hb dX8_isPercent_0 rfl (lv_at hl 0 rfl) ?_
  refine lv_iconst (v := 1) hx hb dX8_isPercent_1 (by decide) ?_
  refine lv_sipush (v := 200) hx hb dX8_isPercent_2 (by decide) ?_
  obtain ⟨z1, e2, hJ⟩ := bnd hJ
  refine roSi (As := [.int p0, .int (1 : Int32), .int (200 : Int32)]) (rest := []) hx hb hml hown hts (c_X8_in l dC dI p0 (1 : Int32) (200 : Int32) z1 e2) gX8_isPercent_X8_in qX8_in rfl ⟨Nat.le_of_ble_eq_true rfl, Nat.le_of_ble_eq_true rfl⟩ ⟨rfl, rfl⟩ hNW hK hP hS hP hK hl.1 rfl rfl (Nat.le_of_ble_eq_true rfl) dX8_isPercent_5 z0 (fun H locs hP hS => ?_)
  obtain ⟨h3, hJ⟩ := ite_some hJ
  exact ro_zret hx hb hr hlocks (nar_z h3) hS hJ dX8_isPercent_8
theorem qX8_setLimit : (yX8_setLimit.cls = RX8) ∧ yX8_setLimit.cls ≠ "java/lang/invoke/MethodHandle" ∧ yX8_setLimit.cls ≠ "java/lang/invoke/VarHandle" ∧ (parseMethodDescriptor yX8_setLimit.desc).map (fun d => d.parameters.length) = some 1 := by decide +kernel
set_option maxHeartbeats 4000000 in
set_option maxRecDepth 100000 in
theorem c_X8_setLimit (fu : Nat) (l : Launch) (dC : Nat → ClassId) (dI : Nat → Nat → Nat) (kI kB kZ : ClassId) (a : Nat → Nat) (v_tape : Nat → Int32) (v_taped : Int32) (v_errorAt : Int32) (v_thrown : Int32) (v_world : Nat → Int32) (v_aside : Nat → Int32) (v_undone : Nat → Int32) (v_slots : Nat → Int32) (v_isKept : Nat → Int32) (v_undos : Int32) (v_seenPrefix : Nat → Int32) (v_seenLast : Nat → Int32) (v_seen : Int32) (v_previous : Int32) (v_gained : Nat → Int32) (v_gains : Int32) (v_decoded : Nat → Int32) (v_decodes : Int32) (v_readAt : Int32) (v_start : Int32) (v_kind : Int32) (v_word : Int64) (v_letters : Int32) (v_number : Int32) (v_fine : Int32) (v_text : Nat → Int32) (v_texted : Int32) (p0 : Int32) (sz : Nat) (z : Int32 × Int32 × (Nat → Int32) × (Nat → Int32) × (Nat → Int32) × Int32) (hJ : J_X8_setLimit fu v_thrown v_world v_aside v_undone v_undos p0 = some z) : Met l yX8_setLimit wsX8_setLimit ({ frames := 2, cells := 0, slots := 0, locals := 43 }) (va_Pc [.ref (a 0), .int p0] (RWp dC dI sz (MWc a kI kB kZ v_tape v_taped v_errorAt v_thrown v_world v_aside v_undone v_slots v_isKept v_undos v_seenPrefix v_seenLast v_seen v_previous v_gained v_gains v_decoded v_decodes v_readAt v_start v_kind v_word v_letters v_number v_fine v_text v_texted) [(kI, .int), (kB, .byte), (kZ, .boolean)])) (rwQi dC dI (va_A (MWc a kI kB kZ v_tape v_taped v_errorAt v_thrown v_world v_aside v_undone v_slots v_isKept v_undos v_seenPrefix v_seenLast v_seen v_previous v_gained v_gains v_decoded v_decodes v_readAt v_start v_kind v_word v_letters v_number v_fine v_text v_texted) sz) (MWc a kI kB kZ v_tape v_taped v_errorAt z.2.1 z.2.2.1 z.2.2.2.1 z.2.2.2.2.1 v_slots v_isKept z.2.2.2.2.2 v_seenPrefix v_seenLast v_seen v_previous v_gained v_gains v_decoded v_decodes v_readAt v_start v_kind v_word v_letters v_number v_fine v_text v_texted) z.1) 0 0 (va_A (MWc a kI kB kZ v_tape v_taped v_errorAt v_thrown v_world v_aside v_undone v_slots v_isKept v_undos v_seenPrefix v_seenLast v_seen v_previous v_gained v_gains v_decoded v_decodes v_readAt v_start v_kind v_word v_letters v_number v_fine v_text v_texted) sz) := by
  refine rw_start (Qc := fun A => rwQi dC dI A (MWc a kI kB kZ v_tape v_taped v_errorAt z.2.1 z.2.2.1 z.2.2.2.1 z.2.2.2.2.1 v_slots v_isKept z.2.2.2.2.2 v_seenPrefix v_seenLast v_seen v_previous v_gained v_gains v_decoded v_decodes v_readAt v_start v_kind v_word v_letters v_number v_fine v_text v_texted) z.1) (cc := cX8_setLimit) (maxL := 3) (ret := (some .int)) (by decide) rfl (Nat.le_of_ble_eq_true rfl) ?_
  intro p e s m args below meth c hx hb hr hml hown hts hlocks hNW hK A hA H locs ls hP hD hS hl
  have hown : s.vm.findClass RX8 = some m.cls := hown
  have hl : lv_has ls 3 [(0, .ref (a 0)), (1, .int p0)] := hl
  unfold J_X8_setLimit at hJ
  refine lv_iload_n hx hb dX8_setLimit_0 rfl (lv_at hl 1 rfl) ?_
  obtain ⟨z1, e2, hJ⟩ := bnd hJ
  refine roSi (As := [.int p0]) (rest := []) hx hb hml hown hts (c_X8_isPercent l dC dI p0 z1 e2) gX8_setLimit_X8_isPercent qX8_isPercent rfl ⟨Nat.le_of_ble_eq_true rfl, Nat.le_of_ble_eq_true rfl⟩ ⟨rfl, rfl⟩ hNW hK hP hS (hP.sub (ws' := []) [] rfl) (hK.sub (tys' := []) [] rfl) hl.1 rfl rfl (Nat.le_of_ble_eq_true rfl) dX8_setLimit_1 z0 (fun H locs hP hS => ?_)
  refine lv_if_ne (tgt := 13) hx hb dX8_setLimit_4 (by decide) (fun c3 => ?_) (fun c3 => ?_)
  · have hJ := ite_f c3 hJ
    refine lv_aload_n hx hb dX8_setLimit_13 rfl (lv_at hl 0 rfl) ?_
    obtain ⟨z4, e5, hJ⟩ := bnd hJ
    refine rwVvW (As := []) (rest := []) (ci := 8) (q0 := 0) hx hb hml hown hts (c_X8_keepsAside fu l dC dI kI kB kZ a v_tape v_taped v_errorAt v_thrown v_world v_aside v_undone v_slots v_isKept v_undos v_seenPrefix v_seenLast v_seen v_previous v_gained v_gains v_decoded v_decodes v_readAt v_start v_kind v_word v_letters v_number v_fine v_text v_texted H.size z4 e5) gX8_setLimit_X8_keepsAside qX8_keepsAside rfl ⟨Nat.le_of_ble_eq_true rfl, Nat.le_of_ble_eq_true rfl⟩ ⟨rfl, rfl⟩ hNW hK hP hD hS hA hK rfl rfl rfl hl.1 rfl rfl (Nat.le_of_ble_eq_true rfl) dX8_setLimit_14 z0 (fun H locs hP hD hS => ?_)
    refine lv_aload_n hx hb dX8_setLimit_17 rfl (lv_at hl 0 rfl) ?_
    refine va_get (D := (dC, dI)) (ci := 8) (v := .ref (a 2)) (C := RX8) (T := TX8) (N := 27) hx hb hts (fun _ h => List.mem_cons_of_mem _ (List.mem_append_right _ h)) hown hK hP 0 rfl rfl 4 (by decide) (hts _ (List.mem_of_getElem? (i := 1) rfl)) (fun _ h9 => h9) rfl dX8_setLimit_18 ?_
    refine lv_iconst (v := 3) hx hb dX8_setLimit_21 (by decide) ?_
    obtain ⟨z6, e7, hJ⟩ := bnd hJ
    refine rd_int (n := 1726) (f := v_world) hx hb hK hP 2 0 rfl rfl e7 dX8_setLimit_22 ?_
    refine lv_istore_n (lv' := [(2, .int z6), (0, .ref (a 0)), (1, .int p0)]) hx hb dX8_setLimit_23 rfl hl (by decide) rfl (fun ls hl => ?_)
    refine lv_aload_n hx hb dX8_setLimit_24 rfl (lv_at hl 1 rfl) ?_
    refine va_get (D := (dC, dI)) (ci := 8) (v := .ref (a 2)) (C := RX8) (T := TX8) (N := 27) hx hb hts (fun _ h => List.mem_cons_of_mem _ (List.mem_append_right _ h)) hown hK hP 0 rfl rfl 4 (by decide) (hts _ (List.mem_of_getElem? (i := 1) rfl)) (fun _ h9 => h9) rfl dX8_setLimit_25 ?_
    refine lv_iconst (v := 3) hx hb dX8_setLimit_28 (by decide) ?_
    refine lv_iload_n hx hb dX8_setLimit_29 rfl (lv_at hl 2 rfl) ?_
    obtain ⟨g8, e9, hJ⟩ := bnd hJ
    refine wr_int (n := 1726) (f := v_world) (x := p0) hx hb hK hP hD hS 2 0 rfl rfl e9 dX8_setLimit_30 (fun H locs hP hD hS => ?_)
    have hP : va_P (dC, dI) vwCl (MWc a kI kB kZ v_tape v_taped v_errorAt v_thrown g8 z4 v_undone v_slots v_isKept v_undos v_seenPrefix v_seenLast v_seen v_previous v_gained v_gains v_decoded v_decodes v_readAt v_start v_kind v_word v_letters v_number v_fine v_text v_texted) H := hP
    have hD : va_D A (MWc a kI kB kZ v_tape v_taped v_errorAt v_thrown g8 z4 v_undone v_slots v_isKept v_undos v_seenPrefix v_seenLast v_seen v_previous v_gained v_gains v_decoded v_decodes v_readAt v_start v_kind v_word v_letters v_number v_fine v_text v_texted) := hD
    refine lv_aload_n hx hb dX8_setLimit_31 rfl (lv_at hl 1 rfl) ?_
    refine lv_iload_n hx hb dX8_setLimit_32 rfl (lv_at hl 0 rfl) ?_
    obtain ⟨z10, e11, hJ⟩ := bnd hJ
    refine rwViW (As := [.int z6]) (rest := []) (ci := 8) (q0 := 0) hx hb hml hown hts (c_X8_changed fu l dC dI kI kB kZ a v_tape v_taped v_errorAt v_thrown g8 z4 v_undone v_slots v_isKept v_undos v_seenPrefix v_seenLast v_seen v_previous v_gained v_gains v_decoded v_decodes v_readAt v_start v_kind v_word v_letters v_number v_fine v_text v_texted z6 H.size z10 e11) gX8_setLimit_X8_changed qX8_changed rfl ⟨Nat.le_of_ble_eq_true rfl, Nat.le_of_ble_eq_true rfl⟩ ⟨rfl, rfl⟩ hNW hK hP hD hS hA hK rfl rfl rfl hl.1 rfl rfl (Nat.le_of_ble_eq_true rfl) dX8_setLimit_33 z0 (fun H locs hP hD hS => ?_)
    obtain rfl := Option.some.inj hJ
    exact rw_iret hx hb hr hlocks rfl hP hD hS dX8_setLimit_36
  · have hJ := ite_t c3 hJ
    refine lv_aload_n hx hb dX8_setLimit_7 rfl (lv_at hl 0 rfl) ?_
    refine lv_iconst (v := 1) hx hb dX8_setLimit_8 (by decide) ?_
    obtain ⟨z12, e13, hJ⟩ := bnd hJ
    refine rwViW (As := [.int (1 : Int32)]) (rest := []) (ci := 8) (q0 := 0) hx hb hml hown hts (c_X8_throwing l dC dI kI kB kZ a v_tape v_taped v_errorAt v_thrown v_world v_aside v_undone v_slots v_isKept v_undos v_seenPrefix v_seenLast v_seen v_previous v_gained v_gains v_decoded v_decodes v_readAt v_start v_kind v_word v_letters v_number v_fine v_text v_texted (1 : Int32) H.size z12 e13) gX8_setLimit_X8_throwing qX8_throwing rfl ⟨Nat.le_of_ble_eq_true rfl, Nat.le_of_ble_eq_true rfl⟩ ⟨rfl, rfl⟩ hNW hK hP hD hS hA hK rfl rfl rfl hl.1 rfl rfl (Nat.le_of_ble_eq_true rfl) dX8_setLimit_9 z0 (fun H locs hP hD hS => ?_)
    obtain rfl := Option.some.inj hJ
    exact rw_iret hx hb hr hlocks rfl hP hD hS dX8_setLimit_12
theorem qX8_startsDecoder : (yX8_startsDecoder.cls = RX8) ∧ yX8_startsDecoder.cls ≠ "java/lang/invoke/MethodHandle" ∧ yX8_startsDecoder.cls ≠ "java/lang/invoke/VarHandle" ∧ (parseMethodDescriptor yX8_startsDecoder.desc).map (fun d => d.parameters.length) = some 0 := by decide +kernel
set_option maxHeartbeats 4000000 in
set_option maxRecDepth 100000 in
theorem c_X8_startsDecoder (l : Launch) (dC : Nat → ClassId) (dI : Nat → Nat → Nat) (kI kB kZ : ClassId) (a : Nat → Nat) (v_tape : Nat → Int32) (v_taped : Int32) (v_errorAt : Int32) (v_thrown : Int32) (v_world : Nat → Int32) (v_aside : Nat → Int32) (v_undone : Nat → Int32) (v_slots : Nat → Int32) (v_isKept : Nat → Int32) (v_undos : Int32) (v_seenPrefix : Nat → Int32) (v_seenLast : Nat → Int32) (v_seen : Int32) (v_previous : Int32) (v_gained : Nat → Int32) (v_gains : Int32) (v_decoded : Nat → Int32) (v_decodes : Int32) (v_readAt : Int32) (v_start : Int32) (v_kind : Int32) (v_word : Int64) (v_letters : Int32) (v_number : Int32) (v_fine : Int32) (v_text : Nat → Int32) (v_texted : Int32) (sz : Nat) (z : Int32 × Int32 × Int32) (hJ : J_X8_startsDecoder v_world v_seen v_previous v_gains = some z) : Met l yX8_startsDecoder wsX8_startsDecoder ({ frames := 0, cells := 0, slots := 0, locals := 0 }) (va_Pc [.ref (a 0)] (RWp dC dI sz (MWc a kI kB kZ v_tape v_taped v_errorAt v_thrown v_world v_aside v_undone v_slots v_isKept v_undos v_seenPrefix v_seenLast v_seen v_previous v_gained v_gains v_decoded v_decodes v_readAt v_start v_kind v_word v_letters v_number v_fine v_text v_texted) [(kI, .int), (kB, .byte), (kZ, .boolean)])) (rwQv dC dI (va_A (MWc a kI kB kZ v_tape v_taped v_errorAt v_thrown v_world v_aside v_undone v_slots v_isKept v_undos v_seenPrefix v_seenLast v_seen v_previous v_gained v_gains v_decoded v_decodes v_readAt v_start v_kind v_word v_letters v_number v_fine v_text v_texted) sz) (MWc a kI kB kZ v_tape v_taped v_errorAt v_thrown v_world v_aside v_undone v_slots v_isKept v_undos v_seenPrefix v_seenLast z.1 z.2.1 v_gained z.2.2 v_decoded v_decodes v_readAt v_start v_kind v_word v_letters v_number v_fine v_text v_texted)) 0 0 (va_A (MWc a kI kB kZ v_tape v_taped v_errorAt v_thrown v_world v_aside v_undone v_slots v_isKept v_undos v_seenPrefix v_seenLast v_seen v_previous v_gained v_gains v_decoded v_decodes v_readAt v_start v_kind v_word v_letters v_number v_fine v_text v_texted) sz) := by
  refine rw_start (Qc := fun A => rwQv dC dI A (MWc a kI kB kZ v_tape v_taped v_errorAt v_thrown v_world v_aside v_undone v_slots v_isKept v_undos v_seenPrefix v_seenLast z.1 z.2.1 v_gained z.2.2 v_decoded v_decodes v_readAt v_start v_kind v_word v_letters v_number v_fine v_text v_texted)) (cc := cX8_startsDecoder) (maxL := 1) (ret := none) (by decide) rfl (Nat.le_of_ble_eq_true rfl) ?_
  intro p e s m args below meth c hx hb hr hml hown hts hlocks hNW hK A hA H locs ls hP hD hS hl
  have hown : s.vm.findClass RX8 = some m.cls := hown
  have hl : lv_has ls 1 [(0, .ref (a 0))] := hl
  unfold J_X8_startsDecoder at hJ
  refine lv_aload_n hx hb dX8_startsDecoder_0 rfl (lv_at hl 0 rfl) ?_
  refine lv_aload_n hx hb dX8_startsDecoder_1 rfl (lv_at hl 0 rfl) ?_
  refine va_get (D := (dC, dI)) (ci := 8) (v := .ref (a 2)) (C := RX8) (T := TX8) (N := 27) hx hb hts (fun _ h => List.mem_cons_of_mem _ (List.mem_append_right _ h)) hown hK hP 0 rfl rfl 4 (by decide) (hts _ (List.mem_of_getElem? (i := 1) rfl)) (fun _ h9 => h9) rfl dX8_startsDecoder_2 ?_
  refine lv_iconst (v := 0) hx hb dX8_startsDecoder_5 (by decide) ?_
  obtain ⟨z1, e2, hJ⟩ := bnd hJ
  refine rd_int (n := 1726) (f := v_world) hx hb hK hP 2 0 rfl rfl e2 dX8_startsDecoder_6 ?_
  refine lv_iconst (v := 1) hx hb dX8_startsDecoder_7 (by decide) ?_
  refine lv_iadd hx hb dX8_startsDecoder_8 ?_
  refine va_put (D := (dC, dI)) (ci := 8) (v := .int (z1 + (1 : Int32))) (ty := .int) (C := RX8) (T := TX8) (N := 27) hx hb hts (fun _ h => List.mem_cons_of_mem _ (List.mem_append_right _ h)) tyX8 tyX8_ok nmX8 hown hK hP hD hS 0 rfl rfl 12 (by decide) (hts _ (List.mem_of_getElem? (i := 2) rfl)) (fun _ h9 => h9) rfl (by decide +kernel) rfl rfl (Nat.le_of_ble_eq_true rfl) dX8_startsDecoder_9 (fun H locs hP hD hS => ?_)
  have hP : va_P (dC, dI) vwCl (MWc a kI kB kZ v_tape v_taped v_errorAt v_thrown v_world v_aside v_undone v_slots v_isKept v_undos v_seenPrefix v_seenLast (z1 + (1 : Int32)) v_previous v_gained v_gains v_decoded v_decodes v_readAt v_start v_kind v_word v_letters v_number v_fine v_text v_texted) H := hP
  have hD : va_D A (MWc a kI kB kZ v_tape v_taped v_errorAt v_thrown v_world v_aside v_undone v_slots v_isKept v_undos v_seenPrefix v_seenLast (z1 + (1 : Int32)) v_previous v_gained v_gains v_decoded v_decodes v_readAt v_start v_kind v_word v_letters v_number v_fine v_text v_texted) := hD
  refine lv_aload_n hx hb dX8_startsDecoder_12 rfl (lv_at hl 0 rfl) ?_
  refine lv_iconst (v := -1) hx hb dX8_startsDecoder_13 (by decide) ?_
  refine va_put (D := (dC, dI)) (ci := 8) (v := .int (-1 : Int32)) (ty := .int) (C := RX8) (T := TX8) (N := 27) hx hb hts (fun _ h => List.mem_cons_of_mem _ (List.mem_append_right _ h)) tyX8 tyX8_ok nmX8 hown hK hP hD hS 0 rfl rfl 13 (by decide) (hts _ (List.mem_of_getElem? (i := 3) rfl)) (fun _ h9 => h9) rfl (by decide +kernel) rfl rfl (Nat.le_of_ble_eq_true rfl) dX8_startsDecoder_14 (fun H locs hP hD hS => ?_)
  have hP : va_P (dC, dI) vwCl (MWc a kI kB kZ v_tape v_taped v_errorAt v_thrown v_world v_aside v_undone v_slots v_isKept v_undos v_seenPrefix v_seenLast (z1 + (1 : Int32)) (-1 : Int32) v_gained v_gains v_decoded v_decodes v_readAt v_start v_kind v_word v_letters v_number v_fine v_text v_texted) H := hP
  have hD : va_D A (MWc a kI kB kZ v_tape v_taped v_errorAt v_thrown v_world v_aside v_undone v_slots v_isKept v_undos v_seenPrefix v_seenLast (z1 + (1 : Int32)) (-1 : Int32) v_gained v_gains v_decoded v_decodes v_readAt v_start v_kind v_word v_letters v_number v_fine v_text v_texted) := hD
  refine lv_aload_n hx hb dX8_startsDecoder_17 rfl (lv_at hl 0 rfl) ?_
  refine lv_iconst (v := 0) hx hb dX8_startsDecoder_18 (by decide) ?_
  refine va_put (D := (dC, dI)) (ci := 8) (v := .int (0 : Int32)) (ty := .int) (C := RX8) (T := TX8) (N := 27) hx hb hts (fun _ h => List.mem_cons_of_mem _ (List.mem_append_right _ h)) tyX8 tyX8_ok nmX8 hown hK hP hD hS 0 rfl rfl 15 (by decide) (hts _ (List.mem_of_getElem? (i := 4) rfl)) (fun _ h9 => h9) rfl (by decide +kernel) rfl rfl (Nat.le_of_ble_eq_true rfl) dX8_startsDecoder_19 (fun H locs hP hD hS => ?_)
  have hP : va_P (dC, dI) vwCl (MWc a kI kB kZ v_tape v_taped v_errorAt v_thrown v_world v_aside v_undone v_slots v_isKept v_undos v_seenPrefix v_seenLast (z1 + (1 : Int32)) (-1 : Int32) v_gained (0 : Int32) v_decoded v_decodes v_readAt v_start v_kind v_word v_letters v_number v_fine v_text v_texted) H := hP
  have hD : va_D A (MWc a kI kB kZ v_tape v_taped v_errorAt v_thrown v_world v_aside v_undone v_slots v_isKept v_undos v_seenPrefix v_seenLast (z1 + (1 : Int32)) (-1 : Int32) v_gained (0 : Int32) v_decoded v_decodes v_readAt v_start v_kind v_word v_letters v_number v_fine v_text v_texted) := hD
  obtain rfl := Option.some.inj hJ
  exact rw_vret hx hb hr hlocks hP hD hS dX8_startsDecoder_22
theorem qX8_seenLength : (yX8_seenLength.cls = RX8) ∧ yX8_seenLength.cls ≠ "java/lang/invoke/MethodHandle" ∧ yX8_seenLength.cls ≠ "java/lang/invoke/VarHandle" ∧ (parseMethodDescriptor yX8_seenLength.desc).map (fun d => d.parameters.length) = some 1 := by decide +kernel
set_option maxHeartbeats 4000000 in
set_option maxRecDepth 100000 in
theorem c_X8_seenLength (fu : Nat) (l : Launch) (dC : Nat → ClassId) (dI : Nat → Nat → Nat) (kI kB kZ : ClassId) (a : Nat → Nat) (v_tape : Nat → Int32) (v_taped : Int32) (v_errorAt : Int32) (v_thrown : Int32) (v_world : Nat → Int32) (v_aside : Nat → Int32) (v_undone : Nat → Int32) (v_slots : Nat → Int32) (v_isKept : Nat → Int32) (v_undos : Int32) (v_seenPrefix : Nat → Int32) (v_seenLast : Nat → Int32) (v_seen : Int32) (v_previous : Int32) (v_gained : Nat → Int32) (v_gains : Int32) (v_decoded : Nat → Int32) (v_decodes : Int32) (v_readAt : Int32) (v_start : Int32) (v_kind : Int32) (v_word : Int64) (v_letters : Int32) (v_number : Int32) (v_fine : Int32) (v_text : Nat → Int32) (v_texted : Int32) (p0 : Int32) (z : Int32) (hJ : J_X8_seenLength fu v_world v_seenPrefix p0 = some z) : Met l yX8_seenLength wsX8_seenLength ({ frames := 2, cells := 0, slots := 0, locals := 41 }) (va_Pc [.ref (a 0), .int p0] (ROp dC dI (MWc a kI kB kZ v_tape v_taped v_errorAt v_thrown v_world v_aside v_undone v_slots v_isKept v_undos v_seenPrefix v_seenLast v_seen v_previous v_gained v_gains v_decoded v_decodes v_readAt v_start v_kind v_word v_letters v_number v_fine v_text v_texted) [(kI, .int), (kB, .byte), (kZ, .boolean)])) (roQi z) 0 0 (fun _ => False) := by
  refine ro_start (cc := cX8_seenLength) (maxL := 4) (ret := (some .int)) (by decide) rfl (Nat.le_of_ble_eq_true rfl) ?_
  intro p e s m args below meth c hx hb hr hml hown hts hlocks hNW hK H locs ls hP hS hl
  have hown : s.vm.findClass RX8 = some m.cls := hown
  have hl : lv_has ls 4 [(0, .ref (a 0)), (1, .int p0)] := hl
  unfold J_X8_seenLength at hJ
  have L4 : ∀ (n : Nat) (y2 : Int32) (y3 : Int32) (H : Heap) (locs : List Loc) (ls : Array Slot), va_P (dC, dI) vwCl (MWc a kI kB kZ v_tape v_taped v_errorAt v_thrown v_world v_aside v_undone v_slots v_isKept v_undos v_seenPrefix v_seenLast v_seen v_previous v_gained v_gains v_decoded v_decodes v_readAt v_start v_kind v_word v_letters v_number v_fine v_text v_texted) H → va_S (fun _ => False) s.heap H locs → lv_has ls 4 [(0, .ref (a 0)), (2, .int y2), (3, .int y3)] → J_X8_seenLength_b4 fu v_world v_seenPrefix n y2 y3 = some z → W p l e ({ frames := 2, cells := 0, slots := 0, locals := 41 }) s m args below meth c H locs 0 0 (MQ below (roQi z) args s 0 0 (fun _ => False)) (F0 m 4 ls []) := by
    intro n
    induction n with
    | zero =>
      intro y2 y3 H locs ls hP hS hl hJ
      rw [J_X8_seenLength_b4] at hJ; cases hJ
    | succ n ih =>
      intro y2 y3 H locs ls hP hS hl hJ
      rw [J_X8_seenLength_b4] at hJ
      refine lv_aload_n hx hb dX8_seenLength_4 rfl (lv_at hl 0 rfl) ?_
      refine lv_iload_n hx hb dX8_seenLength_5 rfl (lv_at hl 2 rfl) ?_
      obtain ⟨z1, e2, hJ⟩ := bnd hJ
      refine roVi (As := [.int y3]) (rest := []) (ci := 8) (q0 := 0) hx hb hml hown hts (c_X8_isFirst l dC dI kI kB kZ a v_tape v_taped v_errorAt v_thrown v_world v_aside v_undone v_slots v_isKept v_undos v_seenPrefix v_seenLast v_seen v_previous v_gained v_gains v_decoded v_decodes v_readAt v_start v_kind v_word v_letters v_number v_fine v_text v_texted y3 z1 e2) gX8_seenLength_X8_isFirst qX8_isFirst rfl ⟨Nat.le_of_ble_eq_true rfl, Nat.le_of_ble_eq_true rfl⟩ ⟨rfl, rfl⟩ hNW hK hP hS hP hK rfl rfl rfl hl.1 rfl rfl (Nat.le_of_ble_eq_true rfl) dX8_seenLength_6 z0 (fun H locs hP hS => ?_)
      refine lv_if_ne (tgt := 25) hx hb dX8_seenLength_9 (by decide) (fun c3 => ?_) (fun c3 => ?_)
      · have hJ := ite_f c3 hJ
        refine lv_iload_n hx hb dX8_seenLength_25 rfl (lv_at hl 1 rfl) ?_
        exact ro_iret hx hb hr hlocks hS hJ dX8_seenLength_26
      · have hJ := ite_t c3 hJ
        refine lv_iinc (v := y2 + 1) (lv' := [(2, .int (y2 + 1)), (0, .ref (a 0)), (3, .int y3)]) hx hb dX8_seenLength_12 hl (k := 1) rfl rfl (by decide) rfl (fun ls hl => ?_)
        refine lv_aload_n hx hb dX8_seenLength_15 rfl (lv_at hl 1 rfl) ?_
        refine va_get (D := (dC, dI)) (ci := 8) (v := .ref (a 7)) (C := RX8) (T := TX8) (N := 27) hx hb hts (fun _ h => List.mem_cons_of_mem _ (List.mem_append_right _ h)) hown hK hP 0 rfl rfl 10 (by decide) (hts _ (List.mem_of_getElem? (i := 1) rfl)) (fun _ h9 => h9) rfl dX8_seenLength_16 ?_
        refine lv_iload_n hx hb dX8_seenLength_19 rfl (lv_at hl 2 rfl) ?_
        obtain ⟨z4, e5, hJ⟩ := bnd hJ
        refine rd_int (n := 256) (f := v_seenPrefix) hx hb hK hP 7 0 rfl rfl e5 dX8_seenLength_20 ?_
        refine lv_istore_n (lv' := [(3, .int z4), (2, .int (y2 + 1)), (0, .ref (a 0))]) hx hb dX8_seenLength_21 rfl hl (by decide) rfl (fun ls hl => ?_)
        refine lv_goto (tgt := 4) hx hb dX8_seenLength_22 (by decide) ?_
        exact ih (y2 + 1) z4 H locs ls hP hS (lv_sub hl [2, 1, 0] rfl) hJ
  refine lv_iconst (v := 1) hx hb dX8_seenLength_0 (by decide) ?_
  refine lv_istore_n (lv' := [(2, .int (1 : Int32)), (0, .ref (a 0)), (1, .int p0)]) hx hb dX8_seenLength_1 rfl hl (by decide) rfl (fun ls hl => ?_)
  refine lv_iload_n hx hb dX8_seenLength_2 rfl (lv_at hl 2 rfl) ?_
  refine lv_istore_n (lv' := [(3, .int p0), (2, .int (1 : Int32)), (0, .ref (a 0)), (1, .int p0)]) hx hb dX8_seenLength_3 rfl hl (by decide) rfl (fun ls hl => ?_)
  exact L4 fu (1 : Int32) p0 H locs ls hP hS (lv_sub hl [2, 1, 0] rfl) hJ
theorem qX8_seenFirst : (yX8_seenFirst.cls = RX8) ∧ yX8_seenFirst.cls ≠ "java/lang/invoke/MethodHandle" ∧ yX8_seenFirst.cls ≠ "java/lang/invoke/VarHandle" ∧ (parseMethodDescriptor yX8_seenFirst.desc).map (fun d => d.parameters.length) = some 1 := by decide +kernel
set_option maxHeartbeats 4000000 in
set_option maxRecDepth 100000 in
theorem c_X8_seenFirst (fu : Nat) (l : Launch) (dC : Nat → ClassId) (dI : Nat → Nat → Nat) (kI kB kZ : ClassId) (a : Nat → Nat) (v_tape : Nat → Int32) (v_taped : Int32) (v_errorAt : Int32) (v_thrown : Int32) (v_world : Nat → Int32) (v_aside : Nat → Int32) (v_undone : Nat → Int32) (v_slots : Nat → Int32) (v_isKept : Nat → Int32) (v_undos : Int32) (v_seenPrefix : Nat → Int32) (v_seenLast : Nat → Int32) (v_seen : Int32) (v_previous : Int32) (v_gained : Nat → Int32) (v_gains : Int32) (v_decoded : Nat → Int32) (v_decodes : Int32) (v_readAt : Int32) (v_start : Int32) (v_kind : Int32) (v_word : Int64) (v_letters : Int32) (v_number : Int32) (v_fine : Int32) (v_text : Nat → Int32) (v_texted : Int32) (p0 : Int32) (z : Int32) (hJ : J_X8_seenFirst fu v_world v_seenPrefix p0 = some z) : Met l yX8_seenFirst wsX8_seenFirst ({ frames := 2, cells := 0, slots := 0, locals := 41 }) (va_Pc [.ref (a 0), .int p0] (ROp dC dI (MWc a kI kB kZ v_tape v_taped v_errorAt v_thrown v_world v_aside v_undone v_slots v_isKept v_undos v_seenPrefix v_seenLast v_seen v_previous v_gained v_gains v_decoded v_decodes v_readAt v_start v_kind v_word v_letters v_number v_fine v_text v_texted) [(kI, .int), (kB, .byte), (kZ, .boolean)])) (roQi z) 0 0 (fun _ => False) := by
  refine ro_start (cc := cX8_seenFirst) (maxL := 3) (ret := (some .int)) (by decide) rfl (Nat.le_of_ble_eq_true rfl) ?_
  intro p e s m args below meth c hx hb hr hml hown hts hlocks hNW hK H locs ls hP hS hl
  have hown : s.vm.findClass RX8 = some m.cls := hown
  have hl : lv_has ls 3 [(0, .ref (a 0)), (1, .int p0)] := hl
  unfold J_X8_seenFirst at hJ
  have L2 : ∀ (n : Nat) (y2 : Int32) (H : Heap) (locs : List Loc) (ls : Array Slot), va_P (dC, dI) vwCl (MWc a kI kB kZ v_tape v_taped v_errorAt v_thrown v_world v_aside v_undone v_slots v_isKept v_undos v_seenPrefix v_seenLast v_seen v_previous v_gained v_gains v_decoded v_decodes v_readAt v_start v_kind v_word v_letters v_number v_fine v_text v_texted) H → va_S (fun _ => False) s.heap H locs → lv_has ls 3 [(0, .ref (a 0)), (2, .int y2)] → J_X8_seenFirst_b2 fu v_world v_seenPrefix n y2 = some z → W p l e ({ frames := 2, cells := 0, slots := 0, locals := 41 }) s m args below meth c H locs 0 0 (MQ below (roQi z) args s 0 0 (fun _ => False)) (F0 m 2 ls []) := by
    intro n
    induction n with
    | zero =>
      intro y2 H locs ls hP hS hl hJ
      rw [J_X8_seenFirst_b2] at hJ; cases hJ
    | succ n ih =>
      intro y2 H locs ls hP hS hl hJ
      rw [J_X8_seenFirst_b2] at hJ
      refine lv_aload_n hx hb dX8_seenFirst_2 rfl (lv_at hl 0 rfl) ?_
      refine lv_iload_n hx hb dX8_seenFirst_3 rfl (lv_at hl 1 rfl) ?_
      obtain ⟨z1, e2, hJ⟩ := bnd hJ
      refine roVi (As := [.int y2]) (rest := []) (ci := 8) (q0 := 0) hx hb hml hown hts (c_X8_isFirst l dC dI kI kB kZ a v_tape v_taped v_errorAt v_thrown v_world v_aside v_undone v_slots v_isKept v_undos v_seenPrefix v_seenLast v_seen v_previous v_gained v_gains v_decoded v_decodes v_readAt v_start v_kind v_word v_letters v_number v_fine v_text v_texted y2 z1 e2) gX8_seenFirst_X8_isFirst qX8_isFirst rfl ⟨Nat.le_of_ble_eq_true rfl, Nat.le_of_ble_eq_true rfl⟩ ⟨rfl, rfl⟩ hNW hK hP hS hP hK rfl rfl rfl hl.1 rfl rfl (Nat.le_of_ble_eq_true rfl) dX8_seenFirst_4 z0 (fun H locs hP hS => ?_)
      refine lv_if_ne (tgt := 20) hx hb dX8_seenFirst_7 (by decide) (fun c3 => ?_) (fun c3 => ?_)
      · have hJ := ite_f c3 hJ
        refine lv_iload_n hx hb dX8_seenFirst_20 rfl (lv_at hl 1 rfl) ?_
        exact ro_iret hx hb hr hlocks hS hJ dX8_seenFirst_21
      · have hJ := ite_t c3 hJ
        refine lv_aload_n hx hb dX8_seenFirst_10 rfl (lv_at hl 0 rfl) ?_
        refine va_get (D := (dC, dI)) (ci := 8) (v := .ref (a 7)) (C := RX8) (T := TX8) (N := 27) hx hb hts (fun _ h => List.mem_cons_of_mem _ (List.mem_append_right _ h)) hown hK hP 0 rfl rfl 10 (by decide) (hts _ (List.mem_of_getElem? (i := 1) rfl)) (fun _ h9 => h9) rfl dX8_seenFirst_11 ?_
        refine lv_iload_n hx hb dX8_seenFirst_14 rfl (lv_at hl 1 rfl) ?_
        obtain ⟨z4, e5, hJ⟩ := bnd hJ
        refine rd_int (n := 256) (f := v_seenPrefix) hx hb hK hP 7 0 rfl rfl e5 dX8_seenFirst_15 ?_
        refine lv_istore_n (lv' := [(2, .int z4), (0, .ref (a 0))]) hx hb dX8_seenFirst_16 rfl hl (by decide) rfl (fun ls hl => ?_)
        refine lv_goto (tgt := 2) hx hb dX8_seenFirst_17 (by decide) ?_
        exact ih z4 H locs ls hP hS (lv_sub hl [1, 0] rfl) hJ
  refine lv_iload_n hx hb dX8_seenFirst_0 rfl (lv_at hl 1 rfl) ?_
  refine lv_istore_n (lv' := [(2, .int p0), (0, .ref (a 0)), (1, .int p0)]) hx hb dX8_seenFirst_1 rfl hl (by decide) rfl (fun ls hl => ?_)
  exact L2 fu p0 H locs ls hP hS (lv_sub hl [1, 0] rfl) hJ
theorem qX8_seenLonger : (yX8_seenLonger.cls = RX8) ∧ yX8_seenLonger.cls ≠ "java/lang/invoke/MethodHandle" ∧ yX8_seenLonger.cls ≠ "java/lang/invoke/VarHandle" ∧ (parseMethodDescriptor yX8_seenLonger.desc).map (fun d => d.parameters.length) = some 2 := by decide +kernel
set_option maxHeartbeats 4000000 in
set_option maxRecDepth 100000 in
theorem c_X8_seenLonger (fu : Nat) (l : Launch) (dC : Nat → ClassId) (dI : Nat → Nat → Nat) (kI kB kZ : ClassId) (a : Nat → Nat) (v_tape : Nat → Int32) (v_taped : Int32) (v_errorAt : Int32) (v_thrown : Int32) (v_world : Nat → Int32) (v_aside : Nat → Int32) (v_undone : Nat → Int32) (v_slots : Nat → Int32) (v_isKept : Nat → Int32) (v_undos : Int32) (v_seenPrefix : Nat → Int32) (v_seenLast : Nat → Int32) (v_seen : Int32) (v_previous : Int32) (v_gained : Nat → Int32) (v_gains : Int32) (v_decoded : Nat → Int32) (v_decodes : Int32) (v_readAt : Int32) (v_start : Int32) (v_kind : Int32) (v_word : Int64) (v_letters : Int32) (v_number : Int32) (v_fine : Int32) (v_text : Nat → Int32) (v_texted : Int32) (p0 : Int32) (p1 : Int32) (z : Int32) (hJ : J_X8_seenLonger fu v_world v_seenPrefix v_seenLast v_seen p0 p1 = some z) : Met l yX8_seenLonger wsX8_seenLonger ({ frames := 1, cells := 0, slots := 0, locals := 20 }) (va_Pc [.ref (a 0), .int p0, .int p1] (ROp dC dI (MWc a kI kB kZ v_tape v_taped v_errorAt v_thrown v_world v_aside v_undone v_slots v_isKept v_undos v_seenPrefix v_seenLast v_seen v_previous v_gained v_gains v_decoded v_decodes v_readAt v_start v_kind v_word v_letters v_number v_fine v_text v_texted) [(kI, .int), (kB, .byte), (kZ, .boolean)])) (roQi z) 0 0 (fun _ => False) := by
  refine ro_start (cc := cX8_seenLonger) (maxL := 4) (ret := (some .int)) (by decide) rfl (Nat.le_of_ble_eq_true rfl) ?_
  intro p e s m args below meth c hx hb hr hml hown hts hlocks hNW hK H locs ls hP hS hl
  have hown : s.vm.findClass RX8 = some m.cls := hown
  have hl : lv_has ls 4 [(0, .ref (a 0)), (1, .int p0), (2, .int p1)] := hl
  unfold J_X8_seenLonger at hJ
  have L7 : ∀ (n : Nat) (y1 : Int32) (y2 : Int32) (y3 : Int32) (H : Heap) (locs : List Loc) (ls : Array Slot), va_P (dC, dI) vwCl (MWc a kI kB kZ v_tape v_taped v_errorAt v_thrown v_world v_aside v_undone v_slots v_isKept v_undos v_seenPrefix v_seenLast v_seen v_previous v_gained v_gains v_decoded v_decodes v_readAt v_start v_kind v_word v_letters v_number v_fine v_text v_texted) H → va_S (fun _ => False) s.heap H locs → lv_has ls 4 [(0, .ref (a 0)), (1, .int y1), (2, .int y2), (3, .int y3)] → J_X8_seenLonger_b7 fu v_world v_seenPrefix v_seenLast v_seen n y1 y2 y3 = some z → W p l e ({ frames := 1, cells := 0, slots := 0, locals := 20 }) s m args below meth c H locs 0 0 (MQ below (roQi z) args s 0 0 (fun _ => False)) (F0 m 7 ls []) := by
    intro n
    induction n with
    | zero =>
      intro y1 y2 y3 H locs ls hP hS hl hJ
      rw [J_X8_seenLonger_b7] at hJ; cases hJ
    | succ n ih =>
      intro y1 y2 y3 H locs ls hP hS hl hJ
      rw [J_X8_seenLonger_b7] at hJ
      refine lv_iload_n hx hb dX8_seenLonger_7 rfl (lv_at hl 3 rfl) ?_
      refine lv_aload_n hx hb dX8_seenLonger_8 rfl (lv_at hl 0 rfl) ?_
      refine va_get (D := (dC, dI)) (ci := 8) (v := .int v_seen) (C := RX8) (T := TX8) (N := 27) hx hb hts (fun _ h => List.mem_cons_of_mem _ (List.mem_append_right _ h)) hown hK hP 0 rfl rfl 12 (by decide) (hts _ (List.mem_of_getElem? (i := 1) rfl)) (fun _ h9 => h9) rfl dX8_seenLonger_9 ?_
      refine lv_icmp_ge (tgt := 43) hx hb dX8_seenLonger_12 (by decide) (fun c3 => ?_) (fun c3 => ?_)
      · have hJ := ite_t c3 hJ
        refine lv_iconst (v := -1) hx hb dX8_seenLonger_43 (by decide) ?_
        exact ro_iret hx hb hr hlocks hS hJ dX8_seenLonger_44
      · have hJ := ite_f c3 hJ
        refine lv_aload_n hx hb dX8_seenLonger_15 rfl (lv_at hl 0 rfl) ?_
        refine va_get (D := (dC, dI)) (ci := 8) (v := .ref (a 7)) (C := RX8) (T := TX8) (N := 27) hx hb hts (fun _ h => List.mem_cons_of_mem _ (List.mem_append_right _ h)) hown hK hP 0 rfl rfl 10 (by decide) (hts _ (List.mem_of_getElem? (i := 2) rfl)) (fun _ h9 => h9) rfl dX8_seenLonger_16 ?_
        refine lv_iload_n hx hb dX8_seenLonger_19 rfl (lv_at hl 3 rfl) ?_
        obtain ⟨z4, e5, hJ⟩ := bnd hJ
        refine rd_int (n := 256) (f := v_seenPrefix) hx hb hK hP 7 0 rfl rfl e5 dX8_seenLonger_20 ?_
        refine lv_iload_n hx hb dX8_seenLonger_21 rfl (lv_at hl 1 rfl) ?_
        refine lv_icmp_ne (tgt := 37) hx hb dX8_seenLonger_22 (by decide) (fun c6 => ?_) (fun c6 => ?_)
        · have hJ := ite_f c6 hJ
          refine lv_iinc (v := y3 + 1) (lv' := [(3, .int (y3 + 1)), (0, .ref (a 0)), (1, .int y1), (2, .int y2)]) hx hb dX8_seenLonger_37 hl (k := 3) rfl rfl (by decide) rfl (fun ls hl => ?_)
          refine lv_goto (tgt := 7) hx hb dX8_seenLonger_40 (by decide) ?_
          exact ih y1 y2 (y3 + 1) H locs ls hP hS (lv_sub hl [1, 2, 3, 0] rfl) hJ
        · have hJ := ite_t c6 hJ
          refine lv_aload_n hx hb dX8_seenLonger_25 rfl (lv_at hl 0 rfl) ?_
          refine va_get (D := (dC, dI)) (ci := 8) (v := .ref (a 8)) (C := RX8) (T := TX8) (N := 27) hx hb hts (fun _ h => List.mem_cons_of_mem _ (List.mem_append_right _ h)) hown hK hP 0 rfl rfl 11 (by decide) (hts _ (List.mem_of_getElem? (i := 3) rfl)) (fun _ h9 => h9) rfl dX8_seenLonger_26 ?_
          refine lv_iload_n hx hb dX8_seenLonger_29 rfl (lv_at hl 3 rfl) ?_
          obtain ⟨z7, e8, hJ⟩ := bnd hJ
          refine rd_int (n := 256) (f := v_seenLast) hx hb hK hP 8 0 rfl rfl e8 dX8_seenLonger_30 ?_
          refine lv_iload_n hx hb dX8_seenLonger_31 rfl (lv_at hl 2 rfl) ?_
          refine lv_icmp_ne (tgt := 37) hx hb dX8_seenLonger_32 (by decide) (fun c9 => ?_) (fun c9 => ?_)
          · have hJ := ite_f c9 hJ
            refine lv_iinc (v := y3 + 1) (lv' := [(3, .int (y3 + 1)), (0, .ref (a 0)), (1, .int y1), (2, .int y2)]) hx hb dX8_seenLonger_37 hl (k := 3) rfl rfl (by decide) rfl (fun ls hl => ?_)
            refine lv_goto (tgt := 7) hx hb dX8_seenLonger_40 (by decide) ?_
            exact ih y1 y2 (y3 + 1) H locs ls hP hS (lv_sub hl [1, 2, 3, 0] rfl) hJ
          · have hJ := ite_t c9 hJ
            refine lv_iload_n hx hb dX8_seenLonger_35 rfl (lv_at hl 3 rfl) ?_
            exact ro_iret hx hb hr hlocks hS hJ dX8_seenLonger_36
  refine lv_aload_n hx hb dX8_seenLonger_0 rfl (lv_at hl 0 rfl) ?_
  obtain ⟨z1, e2, hJ⟩ := bnd hJ
  refine roVi (As := []) (rest := []) (ci := 8) (q0 := 0) hx hb hml hown hts (c_X8_clear l dC dI kI kB kZ a v_tape v_taped v_errorAt v_thrown v_world v_aside v_undone v_slots v_isKept v_undos v_seenPrefix v_seenLast v_seen v_previous v_gained v_gains v_decoded v_decodes v_readAt v_start v_kind v_word v_letters v_number v_fine v_text v_texted z1 e2) gX8_seenLonger_X8_clear qX8_clear rfl ⟨Nat.le_of_ble_eq_true rfl, Nat.le_of_ble_eq_true rfl⟩ ⟨rfl, rfl⟩ hNW hK hP hS hP hK rfl rfl rfl hl.1 rfl rfl (Nat.le_of_ble_eq_true rfl) dX8_seenLonger_1 z0 (fun H locs hP hS => ?_)
  refine lv_iconst (v := 1) hx hb dX8_seenLonger_4 (by decide) ?_
  refine lv_iadd hx hb dX8_seenLonger_5 ?_
  refine lv_istore_n (lv' := [(3, .int (z1 + (1 : Int32))), (0, .ref (a 0)), (1, .int p0), (2, .int p1)]) hx hb dX8_seenLonger_6 rfl hl (by decide) rfl (fun ls hl => ?_)
  exact L7 fu p0 p1 (z1 + (1 : Int32)) H locs ls hP hS (lv_sub hl [1, 2, 3, 0] rfl) hJ
theorem qX8_seesLonger : (yX8_seesLonger.cls = RX8) ∧ yX8_seesLonger.cls ≠ "java/lang/invoke/MethodHandle" ∧ yX8_seesLonger.cls ≠ "java/lang/invoke/VarHandle" ∧ (parseMethodDescriptor yX8_seesLonger.desc).map (fun d => d.parameters.length) = some 1 := by decide +kernel
set_option maxHeartbeats 4000000 in
set_option maxRecDepth 100000 in
theorem c_X8_seesLonger (fu : Nat) (l : Launch) (dC : Nat → ClassId) (dI : Nat → Nat → Nat) (kI kB kZ : ClassId) (a : Nat → Nat) (v_tape : Nat → Int32) (v_taped : Int32) (v_errorAt : Int32) (v_thrown : Int32) (v_world : Nat → Int32) (v_aside : Nat → Int32) (v_undone : Nat → Int32) (v_slots : Nat → Int32) (v_isKept : Nat → Int32) (v_undos : Int32) (v_seenPrefix : Nat → Int32) (v_seenLast : Nat → Int32) (v_seen : Int32) (v_previous : Int32) (v_gained : Nat → Int32) (v_gains : Int32) (v_decoded : Nat → Int32) (v_decodes : Int32) (v_readAt : Int32) (v_start : Int32) (v_kind : Int32) (v_word : Int64) (v_letters : Int32) (v_number : Int32) (v_fine : Int32) (v_text : Nat → Int32) (v_texted : Int32) (p0 : Int32) (sz : Nat) (z : Int32 × (Nat → Int32) × (Nat → Int32) × Int32) (hJ : J_X8_seesLonger fu v_world v_seenPrefix v_seenLast v_seen v_previous p0 = some z) : Met l yX8_seesLonger wsX8_seesLonger ({ frames := 2, cells := 0, slots := 0, locals := 43 }) (va_Pc [.ref (a 0), .int p0] (RWp dC dI sz (MWc a kI kB kZ v_tape v_taped v_errorAt v_thrown v_world v_aside v_undone v_slots v_isKept v_undos v_seenPrefix v_seenLast v_seen v_previous v_gained v_gains v_decoded v_decodes v_readAt v_start v_kind v_word v_letters v_number v_fine v_text v_texted) [(kI, .int), (kB, .byte), (kZ, .boolean)])) (rwQi dC dI (va_A (MWc a kI kB kZ v_tape v_taped v_errorAt v_thrown v_world v_aside v_undone v_slots v_isKept v_undos v_seenPrefix v_seenLast v_seen v_previous v_gained v_gains v_decoded v_decodes v_readAt v_start v_kind v_word v_letters v_number v_fine v_text v_texted) sz) (MWc a kI kB kZ v_tape v_taped v_errorAt v_thrown v_world v_aside v_undone v_slots v_isKept v_undos z.2.1 z.2.2.1 z.2.2.2 v_previous v_gained v_gains v_decoded v_decodes v_readAt v_start v_kind v_word v_letters v_number v_fine v_text v_texted) z.1) 0 0 (va_A (MWc a kI kB kZ v_tape v_taped v_errorAt v_thrown v_world v_aside v_undone v_slots v_isKept v_undos v_seenPrefix v_seenLast v_seen v_previous v_gained v_gains v_decoded v_decodes v_readAt v_start v_kind v_word v_letters v_number v_fine v_text v_texted) sz) := by
  refine rw_start (Qc := fun A => rwQi dC dI A (MWc a kI kB kZ v_tape v_taped v_errorAt v_thrown v_world v_aside v_undone v_slots v_isKept v_undos z.2.1 z.2.2.1 z.2.2.2 v_previous v_gained v_gains v_decoded v_decodes v_readAt v_start v_kind v_word v_letters v_number v_fine v_text v_texted) z.1) (cc := cX8_seesLonger) (maxL := 3) (ret := (some .int)) (by decide) rfl (Nat.le_of_ble_eq_true rfl) ?_
  intro p e s m args below meth c hx hb hr hml hown hts hlocks hNW hK A hA H locs ls hP hD hS hl
  have hown : s.vm.findClass RX8 = some m.cls := hown
  have hl : lv_has ls 3 [(0, .ref (a 0)), (1, .int p0)] := hl
  unfold J_X8_seesLonger at hJ
  refine lv_aload_n hx hb dX8_seesLonger_0 rfl (lv_at hl 0 rfl) ?_
  refine lv_aload_n hx hb dX8_seesLonger_1 rfl (lv_at hl 0 rfl) ?_
  refine va_get (D := (dC, dI)) (ci := 8) (v := .int v_previous) (C := RX8) (T := TX8) (N := 27) hx hb hts (fun _ h => List.mem_cons_of_mem _ (List.mem_append_right _ h)) hown hK hP 0 rfl rfl 13 (by decide) (hts _ (List.mem_of_getElem? (i := 1) rfl)) (fun _ h9 => h9) rfl dX8_seesLonger_2 ?_
  refine lv_iload_n hx hb dX8_seesLonger_5 rfl (lv_at hl 1 rfl) ?_
  obtain ⟨z1, e2, hJ⟩ := bnd hJ
  refine roVi (As := [.int v_previous, .int p0]) (rest := []) (ci := 8) (q0 := 0) hx hb hml hown hts (c_X8_seenLonger fu l dC dI kI kB kZ a v_tape v_taped v_errorAt v_thrown v_world v_aside v_undone v_slots v_isKept v_undos v_seenPrefix v_seenLast v_seen v_previous v_gained v_gains v_decoded v_decodes v_readAt v_start v_kind v_word v_letters v_number v_fine v_text v_texted v_previous p0 z1 e2) gX8_seesLonger_X8_seenLonger qX8_seenLonger rfl ⟨Nat.le_of_ble_eq_true rfl, Nat.le_of_ble_eq_true rfl⟩ ⟨rfl, rfl⟩ hNW hK hP hS hP hK rfl rfl rfl hl.1 rfl rfl (Nat.le_of_ble_eq_true rfl) dX8_seesLonger_6 z0 (fun H locs hP hS => ?_)
  refine lv_istore_n (lv' := [(2, .int z1), (0, .ref (a 0)), (1, .int p0)]) hx hb dX8_seesLonger_9 rfl hl (by decide) rfl (fun ls hl => ?_)
  refine lv_iload_n hx hb dX8_seesLonger_10 rfl (lv_at hl 0 rfl) ?_
  refine lv_if_lt (tgt := 16) hx hb dX8_seesLonger_11 (by decide) (fun c3 => ?_) (fun c3 => ?_)
  · have hJ := ite_t c3 hJ
    refine lv_aload_n hx hb dX8_seesLonger_16 rfl (lv_at hl 1 rfl) ?_
    refine va_get (D := (dC, dI)) (ci := 8) (v := .ref (a 7)) (C := RX8) (T := TX8) (N := 27) hx hb hts (fun _ h => List.mem_cons_of_mem _ (List.mem_append_right _ h)) hown hK hP 0 rfl rfl 10 (by decide) (hts _ (List.mem_of_getElem? (i := 2) rfl)) (fun _ h9 => h9) rfl dX8_seesLonger_17 ?_
    refine lv_aload_n hx hb dX8_seesLonger_20 rfl (lv_at hl 1 rfl) ?_
    refine va_get (D := (dC, dI)) (ci := 8) (v := .int v_seen) (C := RX8) (T := TX8) (N := 27) hx hb hts (fun _ h => List.mem_cons_of_mem _ (List.mem_append_right _ h)) hown hK hP 0 rfl rfl 12 (by decide) (hts _ (List.mem_of_getElem? (i := 3) rfl)) (fun _ h9 => h9) rfl dX8_seesLonger_21 ?_
    refine lv_aload_n hx hb dX8_seesLonger_24 rfl (lv_at hl 1 rfl) ?_
    refine va_get (D := (dC, dI)) (ci := 8) (v := .int v_previous) (C := RX8) (T := TX8) (N := 27) hx hb hts (fun _ h => List.mem_cons_of_mem _ (List.mem_append_right _ h)) hown hK hP 0 rfl rfl 13 (by decide) (hts _ (List.mem_of_getElem? (i := 1) rfl)) (fun _ h9 => h9) rfl dX8_seesLonger_25 ?_
    obtain ⟨g4, e5, hJ⟩ := bnd hJ
    refine wr_int (n := 256) (f := v_seenPrefix) (x := v_previous) hx hb hK hP hD hS 7 0 rfl rfl e5 dX8_seesLonger_28 (fun H locs hP hD hS => ?_)
    have hP : va_P (dC, dI) vwCl (MWc a kI kB kZ v_tape v_taped v_errorAt v_thrown v_world v_aside v_undone v_slots v_isKept v_undos g4 v_seenLast v_seen v_previous v_gained v_gains v_decoded v_decodes v_readAt v_start v_kind v_word v_letters v_number v_fine v_text v_texted) H := hP
    have hD : va_D A (MWc a kI kB kZ v_tape v_taped v_errorAt v_thrown v_world v_aside v_undone v_slots v_isKept v_undos g4 v_seenLast v_seen v_previous v_gained v_gains v_decoded v_decodes v_readAt v_start v_kind v_word v_letters v_number v_fine v_text v_texted) := hD
    refine lv_aload_n hx hb dX8_seesLonger_29 rfl (lv_at hl 1 rfl) ?_
    refine va_get (D := (dC, dI)) (ci := 8) (v := .ref (a 8)) (C := RX8) (T := TX8) (N := 27) hx hb hts (fun _ h => List.mem_cons_of_mem _ (List.mem_append_right _ h)) hown hK hP 0 rfl rfl 11 (by decide) (hts _ (List.mem_of_getElem? (i := 4) rfl)) (fun _ h9 => h9) rfl dX8_seesLonger_30 ?_
    refine lv_aload_n hx hb dX8_seesLonger_33 rfl (lv_at hl 1 rfl) ?_
    refine va_get (D := (dC, dI)) (ci := 8) (v := .int v_seen) (C := RX8) (T := TX8) (N := 27) hx hb hts (fun _ h => List.mem_cons_of_mem _ (List.mem_append_right _ h)) hown hK hP 0 rfl rfl 12 (by decide) (hts _ (List.mem_of_getElem? (i := 3) rfl)) (fun _ h9 => h9) rfl dX8_seesLonger_34 ?_
    refine lv_iload_n hx hb dX8_seesLonger_37 rfl (lv_at hl 2 rfl) ?_
    obtain ⟨g6, e7, hJ⟩ := bnd hJ
    refine wr_int (n := 256) (f := v_seenLast) (x := p0) hx hb hK hP hD hS 8 0 rfl rfl e7 dX8_seesLonger_38 (fun H locs hP hD hS => ?_)
    have hP : va_P (dC, dI) vwCl (MWc a kI kB kZ v_tape v_taped v_errorAt v_thrown v_world v_aside v_undone v_slots v_isKept v_undos g4 g6 v_seen v_previous v_gained v_gains v_decoded v_decodes v_readAt v_start v_kind v_word v_letters v_number v_fine v_text v_texted) H := hP
    have hD : va_D A (MWc a kI kB kZ v_tape v_taped v_errorAt v_thrown v_world v_aside v_undone v_slots v_isKept v_undos g4 g6 v_seen v_previous v_gained v_gains v_decoded v_decodes v_readAt v_start v_kind v_word v_letters v_number v_fine v_text v_texted) := hD
    refine lv_aload_n hx hb dX8_seesLonger_39 rfl (lv_at hl 1 rfl) ?_
    refine lv_dup hx hb dX8_seesLonger_40 rfl ?_
    refine va_get (D := (dC, dI)) (ci := 8) (v := .int v_seen) (C := RX8) (T := TX8) (N := 27) hx hb hts (fun _ h => List.mem_cons_of_mem _ (List.mem_append_right _ h)) hown hK hP 0 rfl rfl 12 (by decide) (hts _ (List.mem_of_getElem? (i := 3) rfl)) (fun _ h9 => h9) rfl dX8_seesLonger_41 ?_
    refine lv_iconst (v := 1) hx hb dX8_seesLonger_44 (by decide) ?_
    refine lv_iadd hx hb dX8_seesLonger_45 ?_
    refine va_put (D := (dC, dI)) (ci := 8) (v := .int (v_seen + (1 : Int32))) (ty := .int) (C := RX8) (T := TX8) (N := 27) hx hb hts (fun _ h => List.mem_cons_of_mem _ (List.mem_append_right _ h)) tyX8 tyX8_ok nmX8 hown hK hP hD hS 0 rfl rfl 12 (by decide) (hts _ (List.mem_of_getElem? (i := 3) rfl)) (fun _ h9 => h9) rfl (by decide +kernel) rfl rfl (Nat.le_of_ble_eq_true rfl) dX8_seesLonger_46 (fun H locs hP hD hS => ?_)
    have hP : va_P (dC, dI) vwCl (MWc a kI kB kZ v_tape v_taped v_errorAt v_thrown v_world v_aside v_undone v_slots v_isKept v_undos g4 g6 (v_seen + (1 : Int32)) v_previous v_gained v_gains v_decoded v_decodes v_readAt v_start v_kind v_word v_letters v_number v_fine v_text v_texted) H := hP
    have hD : va_D A (MWc a kI kB kZ v_tape v_taped v_errorAt v_thrown v_world v_aside v_undone v_slots v_isKept v_undos g4 g6 (v_seen + (1 : Int32)) v_previous v_gained v_gains v_decoded v_decodes v_readAt v_start v_kind v_word v_letters v_number v_fine v_text v_texted) := hD
    refine lv_aload_n hx hb dX8_seesLonger_49 rfl (lv_at hl 1 rfl) ?_
    refine va_get (D := (dC, dI)) (ci := 8) (v := .int (v_seen + (1 : Int32))) (C := RX8) (T := TX8) (N := 27) hx hb hts (fun _ h => List.mem_cons_of_mem _ (List.mem_append_right _ h)) hown hK hP 0 rfl rfl 12 (by decide) (hts _ (List.mem_of_getElem? (i := 3) rfl)) (fun _ h9 => h9) rfl dX8_seesLonger_50 ?_
    refine lv_iconst (v := 1) hx hb dX8_seesLonger_53 (by decide) ?_
    refine lv_isub hx hb dX8_seesLonger_54 ?_
    obtain rfl := Option.some.inj hJ
    exact rw_iret hx hb hr hlocks rfl hP hD hS dX8_seesLonger_55
  · have hJ := ite_f c3 hJ
    refine lv_iload_n hx hb dX8_seesLonger_14 rfl (lv_at hl 0 rfl) ?_
    obtain rfl := Option.some.inj hJ
    exact rw_iret hx hb hr hlocks rfl hP hD hS dX8_seesLonger_15
theorem qX8_gains : (yX8_gains.cls = RX8) ∧ yX8_gains.cls ≠ "java/lang/invoke/MethodHandle" ∧ yX8_gains.cls ≠ "java/lang/invoke/VarHandle" ∧ (parseMethodDescriptor yX8_gains.desc).map (fun d => d.parameters.length) = some 1 := by decide +kernel
set_option maxHeartbeats 4000000 in
set_option maxRecDepth 100000 in
theorem c_X8_gains (fu : Nat) (l : Launch) (dC : Nat → ClassId) (dI : Nat → Nat → Nat) (kI kB kZ : ClassId) (a : Nat → Nat) (v_tape : Nat → Int32) (v_taped : Int32) (v_errorAt : Int32) (v_thrown : Int32) (v_world : Nat → Int32) (v_aside : Nat → Int32) (v_undone : Nat → Int32) (v_slots : Nat → Int32) (v_isKept : Nat → Int32) (v_undos : Int32) (v_seenPrefix : Nat → Int32) (v_seenLast : Nat → Int32) (v_seen : Int32) (v_previous : Int32) (v_gained : Nat → Int32) (v_gains : Int32) (v_decoded : Nat → Int32) (v_decodes : Int32) (v_readAt : Int32) (v_start : Int32) (v_kind : Int32) (v_word : Int64) (v_letters : Int32) (v_number : Int32) (v_fine : Int32) (v_text : Nat → Int32) (v_texted : Int32) (p0 : Int32) (sz : Nat) (z : (Nat → Int32) × Int32) (hJ : J_X8_gains fu v_world v_seenPrefix v_seenLast v_gained v_gains p0 = some z) : Met l yX8_gains wsX8_gains ({ frames := 3, cells := 0, slots := 0, locals := 64 }) (va_Pc [.ref (a 0), .int p0] (RWp dC dI sz (MWc a kI kB kZ v_tape v_taped v_errorAt v_thrown v_world v_aside v_undone v_slots v_isKept v_undos v_seenPrefix v_seenLast v_seen v_previous v_gained v_gains v_decoded v_decodes v_readAt v_start v_kind v_word v_letters v_number v_fine v_text v_texted) [(kI, .int), (kB, .byte), (kZ, .boolean)])) (rwQv dC dI (va_A (MWc a kI kB kZ v_tape v_taped v_errorAt v_thrown v_world v_aside v_undone v_slots v_isKept v_undos v_seenPrefix v_seenLast v_seen v_previous v_gained v_gains v_decoded v_decodes v_readAt v_start v_kind v_word v_letters v_number v_fine v_text v_texted) sz) (MWc a kI kB kZ v_tape v_taped v_errorAt v_thrown v_world v_aside v_undone v_slots v_isKept v_undos v_seenPrefix v_seenLast v_seen v_previous z.1 z.2 v_decoded v_decodes v_readAt v_start v_kind v_word v_letters v_number v_fine v_text v_texted)) 0 0 (va_A (MWc a kI kB kZ v_tape v_taped v_errorAt v_thrown v_world v_aside v_undone v_slots v_isKept v_undos v_seenPrefix v_seenLast v_seen v_previous v_gained v_gains v_decoded v_decodes v_readAt v_start v_kind v_word v_letters v_number v_fine v_text v_texted) sz) := by
  refine rw_start (Qc := fun A => rwQv dC dI A (MWc a kI kB kZ v_tape v_taped v_errorAt v_thrown v_world v_aside v_undone v_slots v_isKept v_undos v_seenPrefix v_seenLast v_seen v_previous z.1 z.2 v_decoded v_decodes v_readAt v_start v_kind v_word v_letters v_number v_fine v_text v_texted)) (cc := cX8_gains) (maxL := 5) (ret := none) (by decide) rfl (Nat.le_of_ble_eq_true rfl) ?_
  intro p e s m args below meth c hx hb hr hml hown hts hlocks hNW hK A hA H locs ls hP hD hS hl
  have hown : s.vm.findClass RX8 = some m.cls := hown
  have hl : lv_has ls 5 [(0, .ref (a 0)), (1, .int p0)] := hl
  unfold J_X8_gains at hJ
  have L13 : ∀ (n : Nat) (v_gained : Nat → Int32) (v_gains : Int32) (y2 : Int32) (y3 : Int32) (y4 : Int32) (H : Heap) (locs : List Loc) (ls : Array Slot), va_P (dC, dI) vwCl (MWc a kI kB kZ v_tape v_taped v_errorAt v_thrown v_world v_aside v_undone v_slots v_isKept v_undos v_seenPrefix v_seenLast v_seen v_previous v_gained v_gains v_decoded v_decodes v_readAt v_start v_kind v_word v_letters v_number v_fine v_text v_texted) H → va_D A (MWc a kI kB kZ v_tape v_taped v_errorAt v_thrown v_world v_aside v_undone v_slots v_isKept v_undos v_seenPrefix v_seenLast v_seen v_previous v_gained v_gains v_decoded v_decodes v_readAt v_start v_kind v_word v_letters v_number v_fine v_text v_texted) → va_S A s.heap H locs → lv_has ls 5 [(0, .ref (a 0)), (2, .int y2), (3, .int y3), (4, .int y4)] → J_X8_gains_b13 fu v_world v_seenPrefix v_seenLast n v_gained v_gains y2 y3 y4 = some z → W p l e ({ frames := 3, cells := 0, slots := 0, locals := 64 }) s m args below meth c H locs 0 0 (MQ below (rwQv dC dI A (MWc a kI kB kZ v_tape v_taped v_errorAt v_thrown v_world v_aside v_undone v_slots v_isKept v_undos v_seenPrefix v_seenLast v_seen v_previous z.1 z.2 v_decoded v_decodes v_readAt v_start v_kind v_word v_letters v_number v_fine v_text v_texted)) args s 0 0 (A)) (F0 m 13 ls []) := by
    intro n
    induction n with
    | zero =>
      intro v_gained v_gains y2 y3 y4 H locs ls hP hD hS hl hJ
      rw [J_X8_gains_b13] at hJ; cases hJ
    | succ n ih =>
      intro v_gained v_gains y2 y3 y4 H locs ls hP hD hS hl hJ
      rw [J_X8_gains_b13] at hJ
      refine lv_iload hx hb dX8_gains_13 (lv_at hl 3 rfl) ?_
      refine lv_if_le (tgt := 49) hx hb dX8_gains_15 (by decide) (fun c3 => ?_) (fun c3 => ?_)
      · have hJ := ite_t c3 hJ
        refine lv_aload_n hx hb dX8_gains_49 rfl (lv_at hl 0 rfl) ?_
        refine va_get (D := (dC, dI)) (ci := 8) (v := .ref (a 9)) (C := RX8) (T := TX8) (N := 27) hx hb hts (fun _ h => List.mem_cons_of_mem _ (List.mem_append_right _ h)) hown hK hP 0 rfl rfl 14 (by decide) (hts _ (List.mem_of_getElem? (i := 1) rfl)) (fun _ h9 => h9) rfl dX8_gains_50 ?_
        refine lv_aload_n hx hb dX8_gains_53 rfl (lv_at hl 0 rfl) ?_
        refine va_get (D := (dC, dI)) (ci := 8) (v := .int v_gains) (C := RX8) (T := TX8) (N := 27) hx hb hts (fun _ h => List.mem_cons_of_mem _ (List.mem_append_right _ h)) hown hK hP 0 rfl rfl 15 (by decide) (hts _ (List.mem_of_getElem? (i := 2) rfl)) (fun _ h9 => h9) rfl dX8_gains_54 ?_
        refine lv_iload_n hx hb dX8_gains_57 rfl (lv_at hl 2 rfl) ?_
        obtain ⟨g4, e5, hJ⟩ := bnd hJ
        refine wr_int (n := 400) (f := v_gained) (x := y3) hx hb hK hP hD hS 9 0 rfl rfl e5 dX8_gains_58 (fun H locs hP hD hS => ?_)
        have hP : va_P (dC, dI) vwCl (MWc a kI kB kZ v_tape v_taped v_errorAt v_thrown v_world v_aside v_undone v_slots v_isKept v_undos v_seenPrefix v_seenLast v_seen v_previous g4 v_gains v_decoded v_decodes v_readAt v_start v_kind v_word v_letters v_number v_fine v_text v_texted) H := hP
        have hD : va_D A (MWc a kI kB kZ v_tape v_taped v_errorAt v_thrown v_world v_aside v_undone v_slots v_isKept v_undos v_seenPrefix v_seenLast v_seen v_previous g4 v_gains v_decoded v_decodes v_readAt v_start v_kind v_word v_letters v_number v_fine v_text v_texted) := hD
        refine lv_aload_n hx hb dX8_gains_59 rfl (lv_at hl 0 rfl) ?_
        refine lv_dup hx hb dX8_gains_60 rfl ?_
        refine va_get (D := (dC, dI)) (ci := 8) (v := .int v_gains) (C := RX8) (T := TX8) (N := 27) hx hb hts (fun _ h => List.mem_cons_of_mem _ (List.mem_append_right _ h)) hown hK hP 0 rfl rfl 15 (by decide) (hts _ (List.mem_of_getElem? (i := 2) rfl)) (fun _ h9 => h9) rfl dX8_gains_61 ?_
        refine lv_iload_n hx hb dX8_gains_64 rfl (lv_at hl 1 rfl) ?_
        refine lv_iadd hx hb dX8_gains_65 ?_
        refine va_put (D := (dC, dI)) (ci := 8) (v := .int (v_gains + y2)) (ty := .int) (C := RX8) (T := TX8) (N := 27) hx hb hts (fun _ h => List.mem_cons_of_mem _ (List.mem_append_right _ h)) tyX8 tyX8_ok nmX8 hown hK hP hD hS 0 rfl rfl 15 (by decide) (hts _ (List.mem_of_getElem? (i := 2) rfl)) (fun _ h9 => h9) rfl (by decide +kernel) rfl rfl (Nat.le_of_ble_eq_true rfl) dX8_gains_66 (fun H locs hP hD hS => ?_)
        have hP : va_P (dC, dI) vwCl (MWc a kI kB kZ v_tape v_taped v_errorAt v_thrown v_world v_aside v_undone v_slots v_isKept v_undos v_seenPrefix v_seenLast v_seen v_previous g4 (v_gains + y2) v_decoded v_decodes v_readAt v_start v_kind v_word v_letters v_number v_fine v_text v_texted) H := hP
        have hD : va_D A (MWc a kI kB kZ v_tape v_taped v_errorAt v_thrown v_world v_aside v_undone v_slots v_isKept v_undos v_seenPrefix v_seenLast v_seen v_previous g4 (v_gains + y2) v_decoded v_decodes v_readAt v_start v_kind v_word v_letters v_number v_fine v_text v_texted) := hD
        obtain rfl := Option.some.inj hJ
        exact rw_vret hx hb hr hlocks hP hD hS dX8_gains_69
      · have hJ := ite_f c3 hJ
        refine lv_aload_n hx hb dX8_gains_18 rfl (lv_at hl 0 rfl) ?_
        refine va_get (D := (dC, dI)) (ci := 8) (v := .ref (a 9)) (C := RX8) (T := TX8) (N := 27) hx hb hts (fun _ h => List.mem_cons_of_mem _ (List.mem_append_right _ h)) hown hK hP 0 rfl rfl 14 (by decide) (hts _ (List.mem_of_getElem? (i := 1) rfl)) (fun _ h9 => h9) rfl dX8_gains_19 ?_
        refine lv_aload_n hx hb dX8_gains_22 rfl (lv_at hl 0 rfl) ?_
        refine va_get (D := (dC, dI)) (ci := 8) (v := .int v_gains) (C := RX8) (T := TX8) (N := 27) hx hb hts (fun _ h => List.mem_cons_of_mem _ (List.mem_append_right _ h)) hown hK hP 0 rfl rfl 15 (by decide) (hts _ (List.mem_of_getElem? (i := 2) rfl)) (fun _ h9 => h9) rfl dX8_gains_23 ?_
        refine lv_iload hx hb dX8_gains_26 (lv_at hl 3 rfl) ?_
        refine lv_iadd hx hb dX8_gains_28 ?_
        refine lv_aload_n hx hb dX8_gains_29 rfl (lv_at hl 0 rfl) ?_
        refine va_get (D := (dC, dI)) (ci := 8) (v := .ref (a 8)) (C := RX8) (T := TX8) (N := 27) hx hb hts (fun _ h => List.mem_cons_of_mem _ (List.mem_append_right _ h)) hown hK hP 0 rfl rfl 11 (by decide) (hts _ (List.mem_of_getElem? (i := 3) rfl)) (fun _ h9 => h9) rfl dX8_gains_30 ?_
        refine lv_iload_n hx hb dX8_gains_33 rfl (lv_at hl 2 rfl) ?_
        obtain ⟨z6, e7, hJ⟩ := bnd hJ
        refine rd_int (n := 256) (f := v_seenLast) hx hb hK hP 8 0 rfl rfl e7 dX8_gains_34 ?_
        obtain ⟨g8, e9, hJ⟩ := bnd hJ
        refine wr_int (n := 400) (f := v_gained) (x := z6) hx hb hK hP hD hS 9 0 rfl rfl e9 dX8_gains_35 (fun H locs hP hD hS => ?_)
        have hP : va_P (dC, dI) vwCl (MWc a kI kB kZ v_tape v_taped v_errorAt v_thrown v_world v_aside v_undone v_slots v_isKept v_undos v_seenPrefix v_seenLast v_seen v_previous g8 v_gains v_decoded v_decodes v_readAt v_start v_kind v_word v_letters v_number v_fine v_text v_texted) H := hP
        have hD : va_D A (MWc a kI kB kZ v_tape v_taped v_errorAt v_thrown v_world v_aside v_undone v_slots v_isKept v_undos v_seenPrefix v_seenLast v_seen v_previous g8 v_gains v_decoded v_decodes v_readAt v_start v_kind v_word v_letters v_number v_fine v_text v_texted) := hD
        refine lv_aload_n hx hb dX8_gains_36 rfl (lv_at hl 0 rfl) ?_
        refine va_get (D := (dC, dI)) (ci := 8) (v := .ref (a 7)) (C := RX8) (T := TX8) (N := 27) hx hb hts (fun _ h => List.mem_cons_of_mem _ (List.mem_append_right _ h)) hown hK hP 0 rfl rfl 10 (by decide) (hts _ (List.mem_of_getElem? (i := 4) rfl)) (fun _ h9 => h9) rfl dX8_gains_37 ?_
        refine lv_iload_n hx hb dX8_gains_40 rfl (lv_at hl 2 rfl) ?_
        obtain ⟨z10, e11, hJ⟩ := bnd hJ
        refine rd_int (n := 256) (f := v_seenPrefix) hx hb hK hP 7 0 rfl rfl e11 dX8_gains_41 ?_
        refine lv_istore_n (lv' := [(3, .int z10), (0, .ref (a 0)), (2, .int y2), (4, .int y4)]) hx hb dX8_gains_42 rfl hl (by decide) rfl (fun ls hl => ?_)
        refine lv_iinc (v := y4 + (-1)) (lv' := [(4, .int (y4 + (-1))), (3, .int z10), (0, .ref (a 0)), (2, .int y2)]) hx hb dX8_gains_43 hl (k := 3) rfl rfl (by decide) rfl (fun ls hl => ?_)
        refine lv_goto (tgt := 13) hx hb dX8_gains_46 (by decide) ?_
        exact ih g8 v_gains y2 z10 (y4 + (-1)) H locs ls hP hD hS (lv_sub hl [2, 3, 1, 0] rfl) hJ
  refine lv_aload_n hx hb dX8_gains_0 rfl (lv_at hl 0 rfl) ?_
  refine lv_iload_n hx hb dX8_gains_1 rfl (lv_at hl 1 rfl) ?_
  obtain ⟨z1, e2, hJ⟩ := bnd hJ
  refine roVi (As := [.int p0]) (rest := []) (ci := 8) (q0 := 0) hx hb hml hown hts (c_X8_seenLength fu l dC dI kI kB kZ a v_tape v_taped v_errorAt v_thrown v_world v_aside v_undone v_slots v_isKept v_undos v_seenPrefix v_seenLast v_seen v_previous v_gained v_gains v_decoded v_decodes v_readAt v_start v_kind v_word v_letters v_number v_fine v_text v_texted p0 z1 e2) gX8_gains_X8_seenLength qX8_seenLength rfl ⟨Nat.le_of_ble_eq_true rfl, Nat.le_of_ble_eq_true rfl⟩ ⟨rfl, rfl⟩ hNW hK hP hS hP hK rfl rfl rfl hl.1 rfl rfl (Nat.le_of_ble_eq_true rfl) dX8_gains_2 z0 (fun H locs hP hS => ?_)
  refine lv_istore_n (lv' := [(2, .int z1), (0, .ref (a 0)), (1, .int p0)]) hx hb dX8_gains_5 rfl hl (by decide) rfl (fun ls hl => ?_)
  refine lv_iload_n hx hb dX8_gains_6 rfl (lv_at hl 2 rfl) ?_
  refine lv_istore_n (lv' := [(3, .int p0), (2, .int z1), (0, .ref (a 0)), (1, .int p0)]) hx hb dX8_gains_7 rfl hl (by decide) rfl (fun ls hl => ?_)
  refine lv_iload_n hx hb dX8_gains_8 rfl (lv_at hl 1 rfl) ?_
  refine lv_iconst (v := 1) hx hb dX8_gains_9 (by decide) ?_
  refine lv_isub hx hb dX8_gains_10 ?_
  refine lv_istore (lv' := [(4, .int (z1 - (1 : Int32))), (3, .int p0), (2, .int z1), (0, .ref (a 0)), (1, .int p0)]) hx hb dX8_gains_11 hl (by decide) rfl (fun ls hl => ?_)
  exact L13 fu v_gained v_gains z1 p0 (z1 - (1 : Int32)) H locs ls hP hD hS (lv_sub hl [3, 2, 1, 0] rfl) hJ
theorem qX8_hasPlace : (yX8_hasPlace.cls = RX8) ∧ yX8_hasPlace.cls ≠ "java/lang/invoke/MethodHandle" ∧ yX8_hasPlace.cls ≠ "java/lang/invoke/VarHandle" ∧ (parseMethodDescriptor yX8_hasPlace.desc).map (fun d => d.parameters.length) = some 0 := by decide +kernel
set_option maxHeartbeats 4000000 in
set_option maxRecDepth 100000 in
theorem c_X8_hasPlace (l : Launch) (dC : Nat → ClassId) (dI : Nat → Nat → Nat) (kI kB kZ : ClassId) (a : Nat → Nat) (v_tape : Nat → Int32) (v_taped : Int32) (v_errorAt : Int32) (v_thrown : Int32) (v_world : Nat → Int32) (v_aside : Nat → Int32) (v_undone : Nat → Int32) (v_slots : Nat → Int32) (v_isKept : Nat → Int32) (v_undos : Int32) (v_seenPrefix : Nat → Int32) (v_seenLast : Nat → Int32) (v_seen : Int32) (v_previous : Int32) (v_gained : Nat → Int32) (v_gains : Int32) (v_decoded : Nat → Int32) (v_decodes : Int32) (v_readAt : Int32) (v_start : Int32) (v_kind : Int32) (v_word : Int64) (v_letters : Int32) (v_number : Int32) (v_fine : Int32) (v_text : Nat → Int32) (v_texted : Int32) (z : Int32) (hJ : J_X8_hasPlace v_world v_seen v_previous = some z) : Met l yX8_hasPlace wsX8_hasPlace ({ frames := 1, cells := 0, slots := 0, locals := 20 }) (va_Pc [.ref (a 0)] (ROp dC dI (MWc a kI kB kZ v_tape v_taped v_errorAt v_thrown v_world v_aside v_undone v_slots v_isKept v_undos v_seenPrefix v_seenLast v_seen v_previous v_gained v_gains v_decoded v_decodes v_readAt v_start v_kind v_word v_letters v_number v_fine v_text v_texted) [(kI, .int), (kB, .byte), (kZ, .boolean)])) (roQi z) 0 0 (fun _ => False) := by
  refine ro_start (cc := cX8_hasPlace) (maxL := 1) (ret := (some .boolean)) (by decide) rfl (Nat.le_of_ble_eq_true rfl) ?_
  intro p e s m args below meth c hx hb hr hml hown hts hlocks hNW hK H locs ls hP hS hl
  have hown : s.vm.findClass RX8 = some m.cls := hown
  have hl : lv_has ls 1 [(0, .ref (a 0))] := hl
  unfold J_X8_hasPlace at hJ
  refine lv_aload_n hx hb dX8_hasPlace_0 rfl (lv_at hl 0 rfl) ?_
  refine va_get (D := (dC, dI)) (ci := 8) (v := .int v_previous) (C := RX8) (T := TX8) (N := 27) hx hb hts (fun _ h => List.mem_cons_of_mem _ (List.mem_append_right _ h)) hown hK hP 0 rfl rfl 13 (by decide) (hts _ (List.mem_of_getElem? (i := 1) rfl)) (fun _ h9 => h9) rfl dX8_hasPlace_1 ?_
  refine lv_if_lt (tgt := 22) hx hb dX8_hasPlace_4 (by decide) (fun c1 => ?_) (fun c1 => ?_)
  · have hJ := ite_t c1 hJ
    refine lv_iconst (v := 0) hx hb dX8_hasPlace_22 (by decide) ?_
    exact ro_zret hx hb hr hlocks rfl hS hJ dX8_hasPlace_23
  · have hJ := ite_f c1 hJ
    refine lv_aload_n hx hb dX8_hasPlace_7 rfl (lv_at hl 0 rfl) ?_
    refine va_get (D := (dC, dI)) (ci := 8) (v := .int v_seen) (C := RX8) (T := TX8) (N := 27) hx hb hts (fun _ h => List.mem_cons_of_mem _ (List.mem_append_right _ h)) hown hK hP 0 rfl rfl 12 (by decide) (hts _ (List.mem_of_getElem? (i := 2) rfl)) (fun _ h9 => h9) rfl dX8_hasPlace_8 ?_
    refine lv_aload_n hx hb dX8_hasPlace_11 rfl (lv_at hl 0 rfl) ?_
    obtain ⟨z2, e3, hJ⟩ := bnd hJ
    refine roVi (As := []) (rest := [.int v_seen]) (ci := 8) (q0 := 0) hx hb hml hown hts (c_X8_mostCodes l dC dI kI kB kZ a v_tape v_taped v_errorAt v_thrown v_world v_aside v_undone v_slots v_isKept v_undos v_seenPrefix v_seenLast v_seen v_previous v_gained v_gains v_decoded v_decodes v_readAt v_start v_kind v_word v_letters v_number v_fine v_text v_texted z2 e3) gX8_hasPlace_X8_mostCodes qX8_mostCodes rfl ⟨Nat.le_of_ble_eq_true rfl, Nat.le_of_ble_eq_true rfl⟩ ⟨rfl, rfl⟩ hNW hK hP hS hP hK rfl rfl rfl hl.1 rfl rfl (Nat.le_of_ble_eq_true rfl) dX8_hasPlace_12 z0 (fun H locs hP hS => ?_)
    refine lv_icmp_ge (tgt := 22) hx hb dX8_hasPlace_15 (by decide) (fun c4 => ?_) (fun c4 => ?_)
    · have hJ := ite_t c4 hJ
      refine lv_iconst (v := 0) hx hb dX8_hasPlace_22 (by decide) ?_
      exact ro_zret hx hb hr hlocks rfl hS hJ dX8_hasPlace_23
    · have hJ := ite_f c4 hJ
      refine lv_iconst (v := 1) hx hb dX8_hasPlace_18 (by decide) ?_
      refine lv_goto (tgt := 23) hx hb dX8_hasPlace_19 (by decide) ?_
      exact ro_zret hx hb hr hlocks rfl hS hJ dX8_hasPlace_23
theorem qX8_isNext : (yX8_isNext.cls = RX8) ∧ yX8_isNext.cls ≠ "java/lang/invoke/MethodHandle" ∧ yX8_isNext.cls ≠ "java/lang/invoke/VarHandle" ∧ (parseMethodDescriptor yX8_isNext.desc).map (fun d => d.parameters.length) = some 1 := by decide +kernel
set_option maxHeartbeats 4000000 in
set_option maxRecDepth 100000 in
theorem c_X8_isNext (l : Launch) (dC : Nat → ClassId) (dI : Nat → Nat → Nat) (kI kB kZ : ClassId) (a : Nat → Nat) (v_tape : Nat → Int32) (v_taped : Int32) (v_errorAt : Int32) (v_thrown : Int32) (v_world : Nat → Int32) (v_aside : Nat → Int32) (v_undone : Nat → Int32) (v_slots : Nat → Int32) (v_isKept : Nat → Int32) (v_undos : Int32) (v_seenPrefix : Nat → Int32) (v_seenLast : Nat → Int32) (v_seen : Int32) (v_previous : Int32) (v_gained : Nat → Int32) (v_gains : Int32) (v_decoded : Nat → Int32) (v_decodes : Int32) (v_readAt : Int32) (v_start : Int32) (v_kind : Int32) (v_word : Int64) (v_letters : Int32) (v_number : Int32) (v_fine : Int32) (v_text : Nat → Int32) (v_texted : Int32) (p0 : Int32) (z : Int32) (hJ : J_X8_isNext v_world v_seen v_previous p0 = some z) : Met l yX8_isNext wsX8_isNext ({ frames := 2, cells := 0, slots := 0, locals := 40 }) (va_Pc [.ref (a 0), .int p0] (ROp dC dI (MWc a kI kB kZ v_tape v_taped v_errorAt v_thrown v_world v_aside v_undone v_slots v_isKept v_undos v_seenPrefix v_seenLast v_seen v_previous v_gained v_gains v_decoded v_decodes v_readAt v_start v_kind v_word v_letters v_number v_fine v_text v_texted) [(kI, .int), (kB, .byte), (kZ, .boolean)])) (roQi z) 0 0 (fun _ => False) := by
  refine ro_start (cc := cX8_isNext) (maxL := 2) (ret := (some .boolean)) (by decide) rfl (Nat.le_of_ble_eq_true rfl) ?_
  intro p e s m args below meth c hx hb hr hml hown hts hlocks hNW hK H locs ls hP hS hl
  have hown : s.vm.findClass RX8 = some m.cls := hown
  have hl : lv_has ls 2 [(0, .ref (a 0)), (1, .int p0)] := hl
  unfold J_X8_isNext at hJ
  refine lv_iload_n hx hb dX8_isNext_0 rfl (lv_at hl 1 rfl) ?_
  refine lv_aload_n hx hb dX8_isNext_1 rfl (lv_at hl 0 rfl) ?_
  refine va_get (D := (dC, dI)) (ci := 8) (v := .int v_seen) (C := RX8) (T := TX8) (N := 27) hx hb hts (fun _ h => List.mem_cons_of_mem _ (List.mem_append_right _ h)) hown hK hP 0 rfl rfl 12 (by decide) (hts _ (List.mem_of_getElem? (i := 1) rfl)) (fun _ h9 => h9) rfl dX8_isNext_2 ?_
  refine lv_icmp_ne (tgt := 19) hx hb dX8_isNext_5 (by decide) (fun c1 => ?_) (fun c1 => ?_)
  · have hJ := ite_f c1 hJ
    refine lv_iconst (v := 0) hx hb dX8_isNext_19 (by decide) ?_
    exact ro_zret hx hb hr hlocks rfl hS hJ dX8_isNext_20
  · have hJ := ite_t c1 hJ
    refine lv_aload_n hx hb dX8_isNext_8 rfl (lv_at hl 0 rfl) ?_
    obtain ⟨z2, e3, hJ⟩ := bnd hJ
    refine roVi (As := []) (rest := []) (ci := 8) (q0 := 0) hx hb hml hown hts (c_X8_hasPlace l dC dI kI kB kZ a v_tape v_taped v_errorAt v_thrown v_world v_aside v_undone v_slots v_isKept v_undos v_seenPrefix v_seenLast v_seen v_previous v_gained v_gains v_decoded v_decodes v_readAt v_start v_kind v_word v_letters v_number v_fine v_text v_texted z2 e3) gX8_isNext_X8_hasPlace qX8_hasPlace rfl ⟨Nat.le_of_ble_eq_true rfl, Nat.le_of_ble_eq_true rfl⟩ ⟨rfl, rfl⟩ hNW hK hP hS hP hK rfl rfl rfl hl.1 rfl rfl (Nat.le_of_ble_eq_true rfl) dX8_isNext_9 z0 (fun H locs hP hS => ?_)
    refine lv_if_eq (tgt := 19) hx hb dX8_isNext_12 (by decide) (fun c4 => ?_) (fun c4 => ?_)
    · have hJ := ite_t c4 hJ
      refine lv_iconst (v := 0) hx hb dX8_isNext_19 (by decide) ?_
      exact ro_zret hx hb hr hlocks rfl hS hJ dX8_isNext_20
    · have hJ := ite_f c4 hJ
      refine lv_iconst (v := 1) hx hb dX8_isNext_15 (by decide) ?_
      refine lv_goto (tgt := 20) hx hb dX8_isNext_16 (by decide) ?_
      exact ro_zret hx hb hr hlocks rfl hS hJ dX8_isNext_20
theorem qX8_isValid : (yX8_isValid.cls = RX8) ∧ yX8_isValid.cls ≠ "java/lang/invoke/MethodHandle" ∧ yX8_isValid.cls ≠ "java/lang/invoke/VarHandle" ∧ (parseMethodDescriptor yX8_isValid.desc).map (fun d => d.parameters.length) = some 1 := by decide +kernel
set_option maxHeartbeats 4000000 in
set_option maxRecDepth 100000 in
theorem c_X8_isValid (l : Launch) (dC : Nat → ClassId) (dI : Nat → Nat → Nat) (kI kB kZ : ClassId) (a : Nat → Nat) (v_tape : Nat → Int32) (v_taped : Int32) (v_errorAt : Int32) (v_thrown : Int32) (v_world : Nat → Int32) (v_aside : Nat → Int32) (v_undone : Nat → Int32) (v_slots : Nat → Int32) (v_isKept : Nat → Int32) (v_undos : Int32) (v_seenPrefix : Nat → Int32) (v_seenLast : Nat → Int32) (v_seen : Int32) (v_previous : Int32) (v_gained : Nat → Int32) (v_gains : Int32) (v_decoded : Nat → Int32) (v_decodes : Int32) (v_readAt : Int32) (v_start : Int32) (v_kind : Int32) (v_word : Int64) (v_letters : Int32) (v_number : Int32) (v_fine : Int32) (v_text : Nat → Int32) (v_texted : Int32) (p0 : Int32) (z : Int32) (hJ : J_X8_isValid v_world v_seen v_previous p0 = some z) : Met l yX8_isValid wsX8_isValid ({ frames := 3, cells := 0, slots := 0, locals := 61 }) (va_Pc [.ref (a 0), .int p0] (ROp dC dI (MWc a kI kB kZ v_tape v_taped v_errorAt v_thrown v_world v_aside v_undone v_slots v_isKept v_undos v_seenPrefix v_seenLast v_seen v_previous v_gained v_gains v_decoded v_decodes v_readAt v_start v_kind v_word v_letters v_number v_fine v_text v_texted) [(kI, .int), (kB, .byte), (kZ, .boolean)])) (roQi z) 0 0 (fun _ => False) := by
  refine ro_start (cc := cX8_isValid) (maxL := 2) (ret := (some .boolean)) (by decide) rfl (Nat.le_of_ble_eq_true rfl) ?_
  intro p e s m args below meth c hx hb hr hml hown hts hlocks hNW hK H locs ls hP hS hl
  have hown : s.vm.findClass RX8 = some m.cls := hown
  have hl : lv_has ls 2 [(0, .ref (a 0)), (1, .int p0)] := hl
  unfold J_X8_isValid at hJ
  refine lv_iload_n hx hb dX8_isValid_0 rfl (lv_at hl 1 rfl) ?_
  refine lv_iconst (v := 0) hx hb dX8_isValid_1 (by decide) ?_
  refine lv_aload_n hx hb dX8_isValid_2 rfl (lv_at hl 0 rfl) ?_
  refine va_get (D := (dC, dI)) (ci := 8) (v := .int v_seen) (C := RX8) (T := TX8) (N := 27) hx hb hts (fun _ h => List.mem_cons_of_mem _ (List.mem_append_right _ h)) hown hK hP 0 rfl rfl 12 (by decide) (hts _ (List.mem_of_getElem? (i := 1) rfl)) (fun _ h9 => h9) rfl dX8_isValid_3 ?_
  refine lv_iconst (v := 1) hx hb dX8_isValid_6 (by decide) ?_
  refine lv_isub hx hb dX8_isValid_7 ?_
  obtain ⟨z1, e2, hJ⟩ := bnd hJ
  refine roSi (As := [.int p0, .int (0 : Int32), .int (v_seen - (1 : Int32))]) (rest := []) hx hb hml hown hts (c_X8_in l dC dI p0 (0 : Int32) (v_seen - (1 : Int32)) z1 e2) gX8_isValid_X8_in qX8_in rfl ⟨Nat.le_of_ble_eq_true rfl, Nat.le_of_ble_eq_true rfl⟩ ⟨rfl, rfl⟩ hNW hK hP hS (hP.sub (ws' := []) [] rfl) (hK.sub (tys' := []) [] rfl) hl.1 rfl rfl (Nat.le_of_ble_eq_true rfl) dX8_isValid_8 z0 (fun H locs hP hS => ?_)
  refine lv_if_eq (tgt := 16) hx hb dX8_isValid_11 (by decide) (fun c3 => ?_) (fun c3 => ?_)
  · have hJ := ite_t c3 hJ
    refine lv_aload_n hx hb dX8_isValid_16 rfl (lv_at hl 0 rfl) ?_
    refine lv_iload_n hx hb dX8_isValid_17 rfl (lv_at hl 1 rfl) ?_
    obtain ⟨z4, e5, hJ⟩ := bnd hJ
    refine roVi (As := [.int p0]) (rest := []) (ci := 8) (q0 := 0) hx hb hml hown hts (c_X8_isNext l dC dI kI kB kZ a v_tape v_taped v_errorAt v_thrown v_world v_aside v_undone v_slots v_isKept v_undos v_seenPrefix v_seenLast v_seen v_previous v_gained v_gains v_decoded v_decodes v_readAt v_start v_kind v_word v_letters v_number v_fine v_text v_texted p0 z4 e5) gX8_isValid_X8_isNext qX8_isNext rfl ⟨Nat.le_of_ble_eq_true rfl, Nat.le_of_ble_eq_true rfl⟩ ⟨rfl, rfl⟩ hNW hK hP hS hP hK rfl rfl rfl hl.1 rfl rfl (Nat.le_of_ble_eq_true rfl) dX8_isValid_18 z0 (fun H locs hP hS => ?_)
    obtain ⟨h6, hJ⟩ := ite_some hJ
    exact ro_zret hx hb hr hlocks (nar_z h6) hS hJ dX8_isValid_21
  · have hJ := ite_f c3 hJ
    refine lv_iconst (v := 1) hx hb dX8_isValid_14 (by decide) ?_
    exact ro_zret hx hb hr hlocks rfl hS hJ dX8_isValid_15
theorem qX8_lengthTaken : (yX8_lengthTaken.cls = RX8) ∧ yX8_lengthTaken.cls ≠ "java/lang/invoke/MethodHandle" ∧ yX8_lengthTaken.cls ≠ "java/lang/invoke/VarHandle" ∧ (parseMethodDescriptor yX8_lengthTaken.desc).map (fun d => d.parameters.length) = some 1 := by decide +kernel
set_option maxHeartbeats 4000000 in
set_option maxRecDepth 100000 in
theorem c_X8_lengthTaken (fu : Nat) (l : Launch) (dC : Nat → ClassId) (dI : Nat → Nat → Nat) (kI kB kZ : ClassId) (a : Nat → Nat) (v_tape : Nat → Int32) (v_taped : Int32) (v_errorAt : Int32) (v_thrown : Int32) (v_world : Nat → Int32) (v_aside : Nat → Int32) (v_undone : Nat → Int32) (v_slots : Nat → Int32) (v_isKept : Nat → Int32) (v_undos : Int32) (v_seenPrefix : Nat → Int32) (v_seenLast : Nat → Int32) (v_seen : Int32) (v_previous : Int32) (v_gained : Nat → Int32) (v_gains : Int32) (v_decoded : Nat → Int32) (v_decodes : Int32) (v_readAt : Int32) (v_start : Int32) (v_kind : Int32) (v_word : Int64) (v_letters : Int32) (v_number : Int32) (v_fine : Int32) (v_text : Nat → Int32) (v_texted : Int32) (p0 : Int32) (z : Int32) (hJ : J_X8_lengthTaken fu v_world v_seenPrefix v_seen v_previous p0 = some z) : Met l yX8_lengthTaken wsX8_lengthTaken ({ frames := 3, cells := 0, slots := 0, locals := 64 }) (va_Pc [.ref (a 0), .int p0] (ROp dC dI (MWc a kI kB kZ v_tape v_taped v_errorAt v_thrown v_world v_aside v_undone v_slots v_isKept v_undos v_seenPrefix v_seenLast v_seen v_previous v_gained v_gains v_decoded v_decodes v_readAt v_start v_kind v_word v_letters v_number v_fine v_text v_texted) [(kI, .int), (kB, .byte), (kZ, .boolean)])) (roQi z) 0 0 (fun _ => False) := by
  refine ro_start (cc := cX8_lengthTaken) (maxL := 2) (ret := (some .int)) (by decide) rfl (Nat.le_of_ble_eq_true rfl) ?_
  intro p e s m args below meth c hx hb hr hml hown hts hlocks hNW hK H locs ls hP hS hl
  have hown : s.vm.findClass RX8 = some m.cls := hown
  have hl : lv_has ls 2 [(0, .ref (a 0)), (1, .int p0)] := hl
  unfold J_X8_lengthTaken at hJ
  refine lv_aload_n hx hb dX8_lengthTaken_0 rfl (lv_at hl 0 rfl) ?_
  refine lv_iload_n hx hb dX8_lengthTaken_1 rfl (lv_at hl 1 rfl) ?_
  obtain ⟨z1, e2, hJ⟩ := bnd hJ
  refine roVi (As := [.int p0]) (rest := []) (ci := 8) (q0 := 0) hx hb hml hown hts (c_X8_isNext l dC dI kI kB kZ a v_tape v_taped v_errorAt v_thrown v_world v_aside v_undone v_slots v_isKept v_undos v_seenPrefix v_seenLast v_seen v_previous v_gained v_gains v_decoded v_decodes v_readAt v_start v_kind v_word v_letters v_number v_fine v_text v_texted p0 z1 e2) gX8_lengthTaken_X8_isNext qX8_isNext rfl ⟨Nat.le_of_ble_eq_true rfl, Nat.le_of_ble_eq_true rfl⟩ ⟨rfl, rfl⟩ hNW hK hP hS hP hK rfl rfl rfl hl.1 rfl rfl (Nat.le_of_ble_eq_true rfl) dX8_lengthTaken_2 z0 (fun H locs hP hS => ?_)
  refine lv_if_eq (tgt := 19) hx hb dX8_lengthTaken_5 (by decide) (fun c3 => ?_) (fun c3 => ?_)
  · have hJ := ite_t c3 hJ
    refine lv_aload_n hx hb dX8_lengthTaken_19 rfl (lv_at hl 0 rfl) ?_
    refine lv_iload_n hx hb dX8_lengthTaken_20 rfl (lv_at hl 1 rfl) ?_
    obtain ⟨z4, e5, hJ⟩ := bnd hJ
    refine roVi (As := [.int p0]) (rest := []) (ci := 8) (q0 := 0) hx hb hml hown hts (c_X8_seenLength fu l dC dI kI kB kZ a v_tape v_taped v_errorAt v_thrown v_world v_aside v_undone v_slots v_isKept v_undos v_seenPrefix v_seenLast v_seen v_previous v_gained v_gains v_decoded v_decodes v_readAt v_start v_kind v_word v_letters v_number v_fine v_text v_texted p0 z4 e5) gX8_lengthTaken_X8_seenLength qX8_seenLength rfl ⟨Nat.le_of_ble_eq_true rfl, Nat.le_of_ble_eq_true rfl⟩ ⟨rfl, rfl⟩ hNW hK hP hS hP hK rfl rfl rfl hl.1 rfl rfl (Nat.le_of_ble_eq_true rfl) dX8_lengthTaken_21 z0 (fun H locs hP hS => ?_)
    exact ro_iret hx hb hr hlocks hS hJ dX8_lengthTaken_24
  · have hJ := ite_f c3 hJ
    refine lv_aload_n hx hb dX8_lengthTaken_8 rfl (lv_at hl 0 rfl) ?_
    refine lv_aload_n hx hb dX8_lengthTaken_9 rfl (lv_at hl 0 rfl) ?_
    refine va_get (D := (dC, dI)) (ci := 8) (v := .int v_previous) (C := RX8) (T := TX8) (N := 27) hx hb hts (fun _ h => List.mem_cons_of_mem _ (List.mem_append_right _ h)) hown hK hP 0 rfl rfl 13 (by decide) (hts _ (List.mem_of_getElem? (i := 1) rfl)) (fun _ h9 => h9) rfl dX8_lengthTaken_10 ?_
    obtain ⟨z6, e7, hJ⟩ := bnd hJ
    refine roVi (As := [.int v_previous]) (rest := []) (ci := 8) (q0 := 0) hx hb hml hown hts (c_X8_seenLength fu l dC dI kI kB kZ a v_tape v_taped v_errorAt v_thrown v_world v_aside v_undone v_slots v_isKept v_undos v_seenPrefix v_seenLast v_seen v_previous v_gained v_gains v_decoded v_decodes v_readAt v_start v_kind v_word v_letters v_number v_fine v_text v_texted v_previous z6 e7) gX8_lengthTaken_X8_seenLength qX8_seenLength rfl ⟨Nat.le_of_ble_eq_true rfl, Nat.le_of_ble_eq_true rfl⟩ ⟨rfl, rfl⟩ hNW hK hP hS hP hK rfl rfl rfl hl.1 rfl rfl (Nat.le_of_ble_eq_true rfl) dX8_lengthTaken_13 z0 (fun H locs hP hS => ?_)
    refine lv_iconst (v := 1) hx hb dX8_lengthTaken_16 (by decide) ?_
    refine lv_iadd hx hb dX8_lengthTaken_17 ?_
    exact ro_iret hx hb hr hlocks hS hJ dX8_lengthTaken_18
theorem qX8_sees : (yX8_sees.cls = RX8) ∧ yX8_sees.cls ≠ "java/lang/invoke/MethodHandle" ∧ yX8_sees.cls ≠ "java/lang/invoke/VarHandle" ∧ (parseMethodDescriptor yX8_sees.desc).map (fun d => d.parameters.length) = some 1 := by decide +kernel
set_option maxHeartbeats 4000000 in
set_option maxRecDepth 100000 in
theorem c_X8_sees (fu : Nat) (l : Launch) (dC : Nat → ClassId) (dI : Nat → Nat → Nat) (kI kB kZ : ClassId) (a : Nat → Nat) (v_tape : Nat → Int32) (v_taped : Int32) (v_errorAt : Int32) (v_thrown : Int32) (v_world : Nat → Int32) (v_aside : Nat → Int32) (v_undone : Nat → Int32) (v_slots : Nat → Int32) (v_isKept : Nat → Int32) (v_undos : Int32) (v_seenPrefix : Nat → Int32) (v_seenLast : Nat → Int32) (v_seen : Int32) (v_previous : Int32) (v_gained : Nat → Int32) (v_gains : Int32) (v_decoded : Nat → Int32) (v_decodes : Int32) (v_readAt : Int32) (v_start : Int32) (v_kind : Int32) (v_word : Int64) (v_letters : Int32) (v_number : Int32) (v_fine : Int32) (v_text : Nat → Int32) (v_texted : Int32) (p0 : Int32) (sz : Nat) (z : Int32 × (Nat → Int32) × (Nat → Int32) × Int32) (hJ : J_X8_sees fu v_world v_seenPrefix v_seenLast v_seen v_previous p0 = some z) : Met l yX8_sees wsX8_sees ({ frames := 3, cells := 0, slots := 0, locals := 65 }) (va_Pc [.ref (a 0), .int p0] (RWp dC dI sz (MWc a kI kB kZ v_tape v_taped v_errorAt v_thrown v_world v_aside v_undone v_slots v_isKept v_undos v_seenPrefix v_seenLast v_seen v_previous v_gained v_gains v_decoded v_decodes v_readAt v_start v_kind v_word v_letters v_number v_fine v_text v_texted) [(kI, .int), (kB, .byte), (kZ, .boolean)])) (rwQi dC dI (va_A (MWc a kI kB kZ v_tape v_taped v_errorAt v_thrown v_world v_aside v_undone v_slots v_isKept v_undos v_seenPrefix v_seenLast v_seen v_previous v_gained v_gains v_decoded v_decodes v_readAt v_start v_kind v_word v_letters v_number v_fine v_text v_texted) sz) (MWc a kI kB kZ v_tape v_taped v_errorAt v_thrown v_world v_aside v_undone v_slots v_isKept v_undos z.2.1 z.2.2.1 z.2.2.2 v_previous v_gained v_gains v_decoded v_decodes v_readAt v_start v_kind v_word v_letters v_number v_fine v_text v_texted) z.1) 0 0 (va_A (MWc a kI kB kZ v_tape v_taped v_errorAt v_thrown v_world v_aside v_undone v_slots v_isKept v_undos v_seenPrefix v_seenLast v_seen v_previous v_gained v_gains v_decoded v_decodes v_readAt v_start v_kind v_word v_letters v_number v_fine v_text v_texted) sz) := by
  refine rw_start (Qc := fun A => rwQi dC dI A (MWc a kI kB kZ v_tape v_taped v_errorAt v_thrown v_world v_aside v_undone v_slots v_isKept v_undos z.2.1 z.2.2.1 z.2.2.2 v_previous v_gained v_gains v_decoded v_decodes v_readAt v_start v_kind v_word v_letters v_number v_fine v_text v_texted) z.1) (cc := cX8_sees) (maxL := 3) (ret := (some .int)) (by decide) rfl (Nat.le_of_ble_eq_true rfl) ?_
  intro p e s m args below meth c hx hb hr hml hown hts hlocks hNW hK A hA H locs ls hP hD hS hl
  have hown : s.vm.findClass RX8 = some m.cls := hown
  have hl : lv_has ls 3 [(0, .ref (a 0)), (1, .int p0)] := hl
  unfold J_X8_sees at hJ
  refine lv_aload_n hx hb dX8_sees_0 rfl (lv_at hl 0 rfl) ?_
  obtain ⟨z1, e2, hJ⟩ := bnd hJ
  refine roVi (As := []) (rest := []) (ci := 8) (q0 := 0) hx hb hml hown hts (c_X8_hasPlace l dC dI kI kB kZ a v_tape v_taped v_errorAt v_thrown v_world v_aside v_undone v_slots v_isKept v_undos v_seenPrefix v_seenLast v_seen v_previous v_gained v_gains v_decoded v_decodes v_readAt v_start v_kind v_word v_letters v_number v_fine v_text v_texted z1 e2) gX8_sees_X8_hasPlace qX8_hasPlace rfl ⟨Nat.le_of_ble_eq_true rfl, Nat.le_of_ble_eq_true rfl⟩ ⟨rfl, rfl⟩ hNW hK hP hS hP hK rfl rfl rfl hl.1 rfl rfl (Nat.le_of_ble_eq_true rfl) dX8_sees_1 z0 (fun H locs hP hS => ?_)
  refine lv_if_ne (tgt := 9) hx hb dX8_sees_4 (by decide) (fun c3 => ?_) (fun c3 => ?_)
  · have hJ := ite_f c3 hJ
    refine lv_aload_n hx hb dX8_sees_9 rfl (lv_at hl 0 rfl) ?_
    refine lv_iload_n hx hb dX8_sees_10 rfl (lv_at hl 1 rfl) ?_
    obtain ⟨z4, e5, hJ⟩ := bnd hJ
    refine roVi (As := [.int p0]) (rest := []) (ci := 8) (q0 := 0) hx hb hml hown hts (c_X8_isNext l dC dI kI kB kZ a v_tape v_taped v_errorAt v_thrown v_world v_aside v_undone v_slots v_isKept v_undos v_seenPrefix v_seenLast v_seen v_previous v_gained v_gains v_decoded v_decodes v_readAt v_start v_kind v_word v_letters v_number v_fine v_text v_texted p0 z4 e5) gX8_sees_X8_isNext qX8_isNext rfl ⟨Nat.le_of_ble_eq_true rfl, Nat.le_of_ble_eq_true rfl⟩ ⟨rfl, rfl⟩ hNW hK hP hS hP hK rfl rfl rfl hl.1 rfl rfl (Nat.le_of_ble_eq_true rfl) dX8_sees_11 z0 (fun H locs hP hS => ?_)
    refine lv_if_eq (tgt := 30) hx hb dX8_sees_14 (by decide) (fun c6 => ?_) (fun c6 => ?_)
    · have hJ := ite_t c6 hJ
      refine lv_aload_n hx hb dX8_sees_30 rfl (lv_at hl 0 rfl) ?_
      refine lv_aload_n hx hb dX8_sees_31 rfl (lv_at hl 0 rfl) ?_
      refine lv_iload_n hx hb dX8_sees_32 rfl (lv_at hl 1 rfl) ?_
      obtain ⟨z7, e8, hJ⟩ := bnd hJ
      refine roVi (As := [.int p0]) (rest := [.ref (a 0)]) (ci := 8) (q0 := 0) hx hb hml hown hts (c_X8_seenFirst fu l dC dI kI kB kZ a v_tape v_taped v_errorAt v_thrown v_world v_aside v_undone v_slots v_isKept v_undos v_seenPrefix v_seenLast v_seen v_previous v_gained v_gains v_decoded v_decodes v_readAt v_start v_kind v_word v_letters v_number v_fine v_text v_texted p0 z7 e8) gX8_sees_X8_seenFirst qX8_seenFirst rfl ⟨Nat.le_of_ble_eq_true rfl, Nat.le_of_ble_eq_true rfl⟩ ⟨rfl, rfl⟩ hNW hK hP hS hP hK rfl rfl rfl hl.1 rfl rfl (Nat.le_of_ble_eq_true rfl) dX8_sees_33 z0 (fun H locs hP hS => ?_)
      obtain ⟨z9, e10, hJ⟩ := bnd hJ
      refine rwViW (As := [.int z7]) (rest := []) (ci := 8) (q0 := 0) hx hb hml hown hts (c_X8_seesLonger fu l dC dI kI kB kZ a v_tape v_taped v_errorAt v_thrown v_world v_aside v_undone v_slots v_isKept v_undos v_seenPrefix v_seenLast v_seen v_previous v_gained v_gains v_decoded v_decodes v_readAt v_start v_kind v_word v_letters v_number v_fine v_text v_texted z7 H.size z9 e10) gX8_sees_X8_seesLonger qX8_seesLonger rfl ⟨Nat.le_of_ble_eq_true rfl, Nat.le_of_ble_eq_true rfl⟩ ⟨rfl, rfl⟩ hNW hK hP hD hS hA hK rfl rfl rfl hl.1 rfl rfl (Nat.le_of_ble_eq_true rfl) dX8_sees_36 z0 (fun H locs hP hD hS => ?_)
      refine lv_istore_n (lv' := [(2, .int z9.1), (0, .ref (a 0)), (1, .int p0)]) hx hb dX8_sees_39 rfl hl (by decide) rfl (fun ls hl => ?_)
      refine lv_iload_n hx hb dX8_sees_40 rfl (lv_at hl 2 rfl) ?_
      obtain rfl := Option.some.inj hJ
      exact rw_iret hx hb hr hlocks rfl hP hD hS dX8_sees_41
    · have hJ := ite_f c6 hJ
      refine lv_aload_n hx hb dX8_sees_17 rfl (lv_at hl 0 rfl) ?_
      refine lv_aload_n hx hb dX8_sees_18 rfl (lv_at hl 0 rfl) ?_
      refine lv_aload_n hx hb dX8_sees_19 rfl (lv_at hl 0 rfl) ?_
      refine va_get (D := (dC, dI)) (ci := 8) (v := .int v_previous) (C := RX8) (T := TX8) (N := 27) hx hb hts (fun _ h => List.mem_cons_of_mem _ (List.mem_append_right _ h)) hown hK hP 0 rfl rfl 13 (by decide) (hts _ (List.mem_of_getElem? (i := 1) rfl)) (fun _ h9 => h9) rfl dX8_sees_20 ?_
      obtain ⟨z11, e12, hJ⟩ := bnd hJ
      refine roVi (As := [.int v_previous]) (rest := [.ref (a 0)]) (ci := 8) (q0 := 0) hx hb hml hown hts (c_X8_seenFirst fu l dC dI kI kB kZ a v_tape v_taped v_errorAt v_thrown v_world v_aside v_undone v_slots v_isKept v_undos v_seenPrefix v_seenLast v_seen v_previous v_gained v_gains v_decoded v_decodes v_readAt v_start v_kind v_word v_letters v_number v_fine v_text v_texted v_previous z11 e12) gX8_sees_X8_seenFirst qX8_seenFirst rfl ⟨Nat.le_of_ble_eq_true rfl, Nat.le_of_ble_eq_true rfl⟩ ⟨rfl, rfl⟩ hNW hK hP hS hP hK rfl rfl rfl hl.1 rfl rfl (Nat.le_of_ble_eq_true rfl) dX8_sees_23 z0 (fun H locs hP hS => ?_)
      obtain ⟨z13, e14, hJ⟩ := bnd hJ
      refine rwViW (As := [.int z11]) (rest := []) (ci := 8) (q0 := 0) hx hb hml hown hts (c_X8_seesLonger fu l dC dI kI kB kZ a v_tape v_taped v_errorAt v_thrown v_world v_aside v_undone v_slots v_isKept v_undos v_seenPrefix v_seenLast v_seen v_previous v_gained v_gains v_decoded v_decodes v_readAt v_start v_kind v_word v_letters v_number v_fine v_text v_texted z11 H.size z13 e14) gX8_sees_X8_seesLonger qX8_seesLonger rfl ⟨Nat.le_of_ble_eq_true rfl, Nat.le_of_ble_eq_true rfl⟩ ⟨rfl, rfl⟩ hNW hK hP hD hS hA hK rfl rfl rfl hl.1 rfl rfl (Nat.le_of_ble_eq_true rfl) dX8_sees_26 z0 (fun H locs hP hD hS => ?_)
      obtain rfl := Option.some.inj hJ
      exact rw_iret hx hb hr hlocks rfl hP hD hS dX8_sees_29
  · have hJ := ite_t c3 hJ
    refine lv_iload_n hx hb dX8_sees_7 rfl (lv_at hl 1 rfl) ?_
    obtain rfl := Option.some.inj hJ
    exact rw_iret hx hb hr hlocks rfl hP hD hS dX8_sees_8
theorem qX8_takes : (yX8_takes.cls = RX8) ∧ yX8_takes.cls ≠ "java/lang/invoke/MethodHandle" ∧ yX8_takes.cls ≠ "java/lang/invoke/VarHandle" ∧ (parseMethodDescriptor yX8_takes.desc).map (fun d => d.parameters.length) = some 1 := by decide +kernel
set_option maxHeartbeats 4000000 in
set_option maxRecDepth 100000 in
theorem c_X8_takes (fu : Nat) (l : Launch) (dC : Nat → ClassId) (dI : Nat → Nat → Nat) (kI kB kZ : ClassId) (a : Nat → Nat) (v_tape : Nat → Int32) (v_taped : Int32) (v_errorAt : Int32) (v_thrown : Int32) (v_world : Nat → Int32) (v_aside : Nat → Int32) (v_undone : Nat → Int32) (v_slots : Nat → Int32) (v_isKept : Nat → Int32) (v_undos : Int32) (v_seenPrefix : Nat → Int32) (v_seenLast : Nat → Int32) (v_seen : Int32) (v_previous : Int32) (v_gained : Nat → Int32) (v_gains : Int32) (v_decoded : Nat → Int32) (v_decodes : Int32) (v_readAt : Int32) (v_start : Int32) (v_kind : Int32) (v_word : Int64) (v_letters : Int32) (v_number : Int32) (v_fine : Int32) (v_text : Nat → Int32) (v_texted : Int32) (p0 : Int32) (sz : Nat) (z : Int32 × (Nat → Int32) × (Nat → Int32) × Int32 × Int32 × (Nat → Int32) × Int32) (hJ : J_X8_takes fu v_world v_seenPrefix v_seenLast v_seen v_previous v_gained v_gains p0 = some z) : Met l yX8_takes wsX8_takes ({ frames := 4, cells := 0, slots := 0, locals := 88 }) (va_Pc [.ref (a 0), .int p0] (RWp dC dI sz (MWc a kI kB kZ v_tape v_taped v_errorAt v_thrown v_world v_aside v_undone v_slots v_isKept v_undos v_seenPrefix v_seenLast v_seen v_previous v_gained v_gains v_decoded v_decodes v_readAt v_start v_kind v_word v_letters v_number v_fine v_text v_texted) [(kI, .int), (kB, .byte), (kZ, .boolean)])) (rwQi dC dI (va_A (MWc a kI kB kZ v_tape v_taped v_errorAt v_thrown v_world v_aside v_undone v_slots v_isKept v_undos v_seenPrefix v_seenLast v_seen v_previous v_gained v_gains v_decoded v_decodes v_readAt v_start v_kind v_word v_letters v_number v_fine v_text v_texted) sz) (MWc a kI kB kZ v_tape v_taped v_errorAt v_thrown v_world v_aside v_undone v_slots v_isKept v_undos z.2.1 z.2.2.1 z.2.2.2.1 z.2.2.2.2.1 z.2.2.2.2.2.1 z.2.2.2.2.2.2 v_decoded v_decodes v_readAt v_start v_kind v_word v_letters v_number v_fine v_text v_texted) z.1) 0 0 (va_A (MWc a kI kB kZ v_tape v_taped v_errorAt v_thrown v_world v_aside v_undone v_slots v_isKept v_undos v_seenPrefix v_seenLast v_seen v_previous v_gained v_gains v_decoded v_decodes v_readAt v_start v_kind v_word v_letters v_number v_fine v_text v_texted) sz) := by
  refine rw_start (Qc := fun A => rwQi dC dI A (MWc a kI kB kZ v_tape v_taped v_errorAt v_thrown v_world v_aside v_undone v_slots v_isKept v_undos z.2.1 z.2.2.1 z.2.2.2.1 z.2.2.2.2.1 z.2.2.2.2.2.1 z.2.2.2.2.2.2 v_decoded v_decodes v_readAt v_start v_kind v_word v_letters v_number v_fine v_text v_texted) z.1) (cc := cX8_takes) (maxL := 3) (ret := (some .boolean)) (by decide) rfl (Nat.le_of_ble_eq_true rfl) ?_
  intro p e s m args below meth c hx hb hr hml hown hts hlocks hNW hK A hA H locs ls hP hD hS hl
  have hown : s.vm.findClass RX8 = some m.cls := hown
  have hl : lv_has ls 3 [(0, .ref (a 0)), (1, .int p0)] := hl
  unfold J_X8_takes at hJ
  refine lv_iload_n hx hb dX8_takes_0 rfl (lv_at hl 1 rfl) ?_
  refine lv_aload_n hx hb dX8_takes_1 rfl (lv_at hl 0 rfl) ?_
  obtain ⟨z1, e2, hJ⟩ := bnd hJ
  refine roVi (As := []) (rest := [.int p0]) (ci := 8) (q0 := 0) hx hb hml hown hts (c_X8_clear l dC dI kI kB kZ a v_tape v_taped v_errorAt v_thrown v_world v_aside v_undone v_slots v_isKept v_undos v_seenPrefix v_seenLast v_seen v_previous v_gained v_gains v_decoded v_decodes v_readAt v_start v_kind v_word v_letters v_number v_fine v_text v_texted z1 e2) gX8_takes_X8_clear qX8_clear rfl ⟨Nat.le_of_ble_eq_true rfl, Nat.le_of_ble_eq_true rfl⟩ ⟨rfl, rfl⟩ hNW hK hP hS hP hK rfl rfl rfl hl.1 rfl rfl (Nat.le_of_ble_eq_true rfl) dX8_takes_2 z0 (fun H locs hP hS => ?_)
  refine lv_icmp_ne (tgt := 27) hx hb dX8_takes_5 (by decide) (fun c3 => ?_) (fun c3 => ?_)
  · have hJ := ite_f c3 hJ
    refine lv_aload_n hx hb dX8_takes_27 rfl (lv_at hl 0 rfl) ?_
    refine lv_iload_n hx hb dX8_takes_28 rfl (lv_at hl 1 rfl) ?_
    obtain ⟨z4, e5, hJ⟩ := bnd hJ
    refine roVi (As := [.int p0]) (rest := []) (ci := 8) (q0 := 0) hx hb hml hown hts (c_X8_isValid l dC dI kI kB kZ a v_tape v_taped v_errorAt v_thrown v_world v_aside v_undone v_slots v_isKept v_undos v_seenPrefix v_seenLast v_seen v_previous v_gained v_gains v_decoded v_decodes v_readAt v_start v_kind v_word v_letters v_number v_fine v_text v_texted p0 z4 e5) gX8_takes_X8_isValid qX8_isValid rfl ⟨Nat.le_of_ble_eq_true rfl, Nat.le_of_ble_eq_true rfl⟩ ⟨rfl, rfl⟩ hNW hK hP hS hP hK rfl rfl rfl hl.1 rfl rfl (Nat.le_of_ble_eq_true rfl) dX8_takes_29 z0 (fun H locs hP hS => ?_)
    refine lv_if_eq (tgt := 51) hx hb dX8_takes_32 (by decide) (fun c6 => ?_) (fun c6 => ?_)
    · have hJ := ite_t c6 hJ
      refine lv_iconst (v := 0) hx hb dX8_takes_51 (by decide) ?_
      obtain rfl := Option.some.inj hJ
      exact rw_zret hx hb hr hlocks rfl rfl hP hD hS dX8_takes_52
    · have hJ := ite_f c6 hJ
      refine lv_aload_n hx hb dX8_takes_35 rfl (lv_at hl 0 rfl) ?_
      refine va_get (D := (dC, dI)) (ci := 8) (v := .int v_gains) (C := RX8) (T := TX8) (N := 27) hx hb hts (fun _ h => List.mem_cons_of_mem _ (List.mem_append_right _ h)) hown hK hP 0 rfl rfl 15 (by decide) (hts _ (List.mem_of_getElem? (i := 4) rfl)) (fun _ h9 => h9) rfl dX8_takes_36 ?_
      refine lv_aload_n hx hb dX8_takes_39 rfl (lv_at hl 0 rfl) ?_
      refine lv_iload_n hx hb dX8_takes_40 rfl (lv_at hl 1 rfl) ?_
      obtain ⟨z7, e8, hJ⟩ := bnd hJ
      refine roVi (As := [.int p0]) (rest := [.int v_gains]) (ci := 8) (q0 := 0) hx hb hml hown hts (c_X8_lengthTaken fu l dC dI kI kB kZ a v_tape v_taped v_errorAt v_thrown v_world v_aside v_undone v_slots v_isKept v_undos v_seenPrefix v_seenLast v_seen v_previous v_gained v_gains v_decoded v_decodes v_readAt v_start v_kind v_word v_letters v_number v_fine v_text v_texted p0 z7 e8) gX8_takes_X8_lengthTaken qX8_lengthTaken rfl ⟨Nat.le_of_ble_eq_true rfl, Nat.le_of_ble_eq_true rfl⟩ ⟨rfl, rfl⟩ hNW hK hP hS hP hK rfl rfl rfl hl.1 rfl rfl (Nat.le_of_ble_eq_true rfl) dX8_takes_41 z0 (fun H locs hP hS => ?_)
      refine lv_iadd hx hb dX8_takes_44 ?_
      refine lv_sipush (v := 400) hx hb dX8_takes_45 (by decide) ?_
      refine lv_icmp_le (tgt := 53) hx hb dX8_takes_48 (by decide) (fun c9 => ?_) (fun c9 => ?_)
      · have hJ := ite_t c9 hJ
        refine lv_aload_n hx hb dX8_takes_53 rfl (lv_at hl 0 rfl) ?_
        refine lv_iload_n hx hb dX8_takes_54 rfl (lv_at hl 1 rfl) ?_
        obtain ⟨z10, e11, hJ⟩ := bnd hJ
        refine rwViW (As := [.int p0]) (rest := []) (ci := 8) (q0 := 0) hx hb hml hown hts (c_X8_sees fu l dC dI kI kB kZ a v_tape v_taped v_errorAt v_thrown v_world v_aside v_undone v_slots v_isKept v_undos v_seenPrefix v_seenLast v_seen v_previous v_gained v_gains v_decoded v_decodes v_readAt v_start v_kind v_word v_letters v_number v_fine v_text v_texted p0 H.size z10 e11) gX8_takes_X8_sees qX8_sees rfl ⟨Nat.le_of_ble_eq_true rfl, Nat.le_of_ble_eq_true rfl⟩ ⟨rfl, rfl⟩ hNW hK hP hD hS hA hK rfl rfl rfl hl.1 rfl rfl (Nat.le_of_ble_eq_true rfl) dX8_takes_55 z0 (fun H locs hP hD hS => ?_)
        refine lv_istore_n (lv' := [(2, .int z10.1), (0, .ref (a 0)), (1, .int p0)]) hx hb dX8_takes_58 rfl hl (by decide) rfl (fun ls hl => ?_)
        refine lv_aload_n hx hb dX8_takes_59 rfl (lv_at hl 1 rfl) ?_
        refine lv_iload_n hx hb dX8_takes_60 rfl (lv_at hl 0 rfl) ?_
        obtain ⟨z12, e13, hJ⟩ := bnd hJ
        refine rwVvW (As := [.int z10.1]) (rest := []) (ci := 8) (q0 := 0) hx hb hml hown hts (c_X8_gains fu l dC dI kI kB kZ a v_tape v_taped v_errorAt v_thrown v_world v_aside v_undone v_slots v_isKept v_undos z10.2.1 z10.2.2.1 z10.2.2.2 v_previous v_gained v_gains v_decoded v_decodes v_readAt v_start v_kind v_word v_letters v_number v_fine v_text v_texted z10.1 H.size z12 e13) gX8_takes_X8_gains qX8_gains rfl ⟨Nat.le_of_ble_eq_true rfl, Nat.le_of_ble_eq_true rfl⟩ ⟨rfl, rfl⟩ hNW hK hP hD hS hA hK rfl rfl rfl hl.1 rfl rfl (Nat.le_of_ble_eq_true rfl) dX8_takes_61 z0 (fun H locs hP hD hS => ?_)
        refine lv_aload_n hx hb dX8_takes_64 rfl (lv_at hl 1 rfl) ?_
        refine lv_iload_n hx hb dX8_takes_65 rfl (lv_at hl 0 rfl) ?_
        refine va_put (D := (dC, dI)) (ci := 8) (v := .int z10.1) (ty := .int) (C := RX8) (T := TX8) (N := 27) hx hb hts (fun _ h => List.mem_cons_of_mem _ (List.mem_append_right _ h)) tyX8 tyX8_ok nmX8 hown hK hP hD hS 0 rfl rfl 13 (by decide) (hts _ (List.mem_of_getElem? (i := 3) rfl)) (fun _ h9 => h9) rfl (by decide +kernel) rfl rfl (Nat.le_of_ble_eq_true rfl) dX8_takes_66 (fun H locs hP hD hS => ?_)
        have hP : va_P (dC, dI) vwCl (MWc a kI kB kZ v_tape v_taped v_errorAt v_thrown v_world v_aside v_undone v_slots v_isKept v_undos z10.2.1 z10.2.2.1 z10.2.2.2 z10.1 z12.1 z12.2 v_decoded v_decodes v_readAt v_start v_kind v_word v_letters v_number v_fine v_text v_texted) H := hP
        have hD : va_D A (MWc a kI kB kZ v_tape v_taped v_errorAt v_thrown v_world v_aside v_undone v_slots v_isKept v_undos z10.2.1 z10.2.2.1 z10.2.2.2 z10.1 z12.1 z12.2 v_decoded v_decodes v_readAt v_start v_kind v_word v_letters v_number v_fine v_text v_texted) := hD
        refine lv_iconst (v := 1) hx hb dX8_takes_69 (by decide) ?_
        obtain rfl := Option.some.inj hJ
        exact rw_zret hx hb hr hlocks rfl rfl hP hD hS dX8_takes_70
      · have hJ := ite_f c9 hJ
        refine lv_iconst (v := 0) hx hb dX8_takes_51 (by decide) ?_
        obtain rfl := Option.some.inj hJ
        exact rw_zret hx hb hr hlocks rfl rfl hP hD hS dX8_takes_52
  · have hJ := ite_t c3 hJ
    refine lv_aload_n hx hb dX8_takes_8 rfl (lv_at hl 0 rfl) ?_
    refine lv_aload_n hx hb dX8_takes_9 rfl (lv_at hl 0 rfl) ?_
    refine va_get (D := (dC, dI)) (ci := 8) (v := .ref (a 2)) (C := RX8) (T := TX8) (N := 27) hx hb hts (fun _ h => List.mem_cons_of_mem _ (List.mem_append_right _ h)) hown hK hP 0 rfl rfl 4 (by decide) (hts _ (List.mem_of_getElem? (i := 1) rfl)) (fun _ h9 => h9) rfl dX8_takes_10 ?_
    refine lv_iconst (v := 0) hx hb dX8_takes_13 (by decide) ?_
    obtain ⟨z14, e15, hJ⟩ := bnd hJ
    refine rd_int (n := 1726) (f := v_world) hx hb hK hP 2 0 rfl rfl e15 dX8_takes_14 ?_
    refine lv_iconst (v := 1) hx hb dX8_takes_15 (by decide) ?_
    refine lv_iadd hx hb dX8_takes_16 ?_
    refine va_put (D := (dC, dI)) (ci := 8) (v := .int (z14 + (1 : Int32))) (ty := .int) (C := RX8) (T := TX8) (N := 27) hx hb hts (fun _ h => List.mem_cons_of_mem _ (List.mem_append_right _ h)) tyX8 tyX8_ok nmX8 hown hK hP hD hS 0 rfl rfl 12 (by decide) (hts _ (List.mem_of_getElem? (i := 2) rfl)) (fun _ h9 => h9) rfl (by decide +kernel) rfl rfl (Nat.le_of_ble_eq_true rfl) dX8_takes_17 (fun H locs hP hD hS => ?_)
    have hP : va_P (dC, dI) vwCl (MWc a kI kB kZ v_tape v_taped v_errorAt v_thrown v_world v_aside v_undone v_slots v_isKept v_undos v_seenPrefix v_seenLast (z14 + (1 : Int32)) v_previous v_gained v_gains v_decoded v_decodes v_readAt v_start v_kind v_word v_letters v_number v_fine v_text v_texted) H := hP
    have hD : va_D A (MWc a kI kB kZ v_tape v_taped v_errorAt v_thrown v_world v_aside v_undone v_slots v_isKept v_undos v_seenPrefix v_seenLast (z14 + (1 : Int32)) v_previous v_gained v_gains v_decoded v_decodes v_readAt v_start v_kind v_word v_letters v_number v_fine v_text v_texted) := hD
    refine lv_aload_n hx hb dX8_takes_20 rfl (lv_at hl 0 rfl) ?_
    refine lv_iconst (v := -1) hx hb dX8_takes_21 (by decide) ?_
    refine va_put (D := (dC, dI)) (ci := 8) (v := .int (-1 : Int32)) (ty := .int) (C := RX8) (T := TX8) (N := 27) hx hb hts (fun _ h => List.mem_cons_of_mem _ (List.mem_append_right _ h)) tyX8 tyX8_ok nmX8 hown hK hP hD hS 0 rfl rfl 13 (by decide) (hts _ (List.mem_of_getElem? (i := 3) rfl)) (fun _ h9 => h9) rfl (by decide +kernel) rfl rfl (Nat.le_of_ble_eq_true rfl) dX8_takes_22 (fun H locs hP hD hS => ?_)
    have hP : va_P (dC, dI) vwCl (MWc a kI kB kZ v_tape v_taped v_errorAt v_thrown v_world v_aside v_undone v_slots v_isKept v_undos v_seenPrefix v_seenLast (z14 + (1 : Int32)) (-1 : Int32) v_gained v_gains v_decoded v_decodes v_readAt v_start v_kind v_word v_letters v_number v_fine v_text v_texted) H := hP
    have hD : va_D A (MWc a kI kB kZ v_tape v_taped v_errorAt v_thrown v_world v_aside v_undone v_slots v_isKept v_undos v_seenPrefix v_seenLast (z14 + (1 : Int32)) (-1 : Int32) v_gained v_gains v_decoded v_decodes v_readAt v_start v_kind v_word v_letters v_number v_fine v_text v_texted) := hD
    refine lv_iconst (v := 1) hx hb dX8_takes_25 (by decide) ?_
    obtain rfl := Option.some.inj hJ
    exact rw_zret hx hb hr hlocks rfl rfl hP hD hS dX8_takes_26
theorem qX8_decodesWritten : (yX8_decodesWritten.cls = RX8) ∧ yX8_decodesWritten.cls ≠ "java/lang/invoke/MethodHandle" ∧ yX8_decodesWritten.cls ≠ "java/lang/invoke/VarHandle" ∧ (parseMethodDescriptor yX8_decodesWritten.desc).map (fun d => d.parameters.length) = some 0 := by decide +kernel
set_option maxHeartbeats 4000000 in
set_option maxRecDepth 100000 in
theorem c_X8_decodesWritten (fu : Nat) (l : Launch) (dC : Nat → ClassId) (dI : Nat → Nat → Nat) (kI kB kZ : ClassId) (a : Nat → Nat) (v_tape : Nat → Int32) (v_taped : Int32) (v_errorAt : Int32) (v_thrown : Int32) (v_world : Nat → Int32) (v_aside : Nat → Int32) (v_undone : Nat → Int32) (v_slots : Nat → Int32) (v_isKept : Nat → Int32) (v_undos : Int32) (v_seenPrefix : Nat → Int32) (v_seenLast : Nat → Int32) (v_seen : Int32) (v_previous : Int32) (v_gained : Nat → Int32) (v_gains : Int32) (v_decoded : Nat → Int32) (v_decodes : Int32) (v_readAt : Int32) (v_start : Int32) (v_kind : Int32) (v_word : Int64) (v_letters : Int32) (v_number : Int32) (v_fine : Int32) (v_text : Nat → Int32) (v_texted : Int32) (sz : Nat) (z : (Nat → Int32) × (Nat → Int32) × Int32 × Int32 × (Nat → Int32) × Int32) (hJ : J_X8_decodesWritten fu v_world v_seenPrefix v_seenLast v_seen v_previous v_gained v_gains = some z) : Met l yX8_decodesWritten wsX8_decodesWritten ({ frames := 5, cells := 0, slots := 0, locals := 110 }) (va_Pc [.ref (a 0)] (RWp dC dI sz (MWc a kI kB kZ v_tape v_taped v_errorAt v_thrown v_world v_aside v_undone v_slots v_isKept v_undos v_seenPrefix v_seenLast v_seen v_previous v_gained v_gains v_decoded v_decodes v_readAt v_start v_kind v_word v_letters v_number v_fine v_text v_texted) [(kI, .int), (kB, .byte), (kZ, .boolean)])) (rwQv dC dI (va_A (MWc a kI kB kZ v_tape v_taped v_errorAt v_thrown v_world v_aside v_undone v_slots v_isKept v_undos v_seenPrefix v_seenLast v_seen v_previous v_gained v_gains v_decoded v_decodes v_readAt v_start v_kind v_word v_letters v_number v_fine v_text v_texted) sz) (MWc a kI kB kZ v_tape v_taped v_errorAt v_thrown v_world v_aside v_undone v_slots v_isKept v_undos z.1 z.2.1 z.2.2.1 z.2.2.2.1 z.2.2.2.2.1 z.2.2.2.2.2 v_decoded v_decodes v_readAt v_start v_kind v_word v_letters v_number v_fine v_text v_texted)) 0 0 (va_A (MWc a kI kB kZ v_tape v_taped v_errorAt v_thrown v_world v_aside v_undone v_slots v_isKept v_undos v_seenPrefix v_seenLast v_seen v_previous v_gained v_gains v_decoded v_decodes v_readAt v_start v_kind v_word v_letters v_number v_fine v_text v_texted) sz) := by
  refine rw_start (Qc := fun A => rwQv dC dI A (MWc a kI kB kZ v_tape v_taped v_errorAt v_thrown v_world v_aside v_undone v_slots v_isKept v_undos z.1 z.2.1 z.2.2.1 z.2.2.2.1 z.2.2.2.2.1 z.2.2.2.2.2 v_decoded v_decodes v_readAt v_start v_kind v_word v_letters v_number v_fine v_text v_texted)) (cc := cX8_decodesWritten) (maxL := 3) (ret := none) (by decide) rfl (Nat.le_of_ble_eq_true rfl) ?_
  intro p e s m args below meth c hx hb hr hml hown hts hlocks hNW hK A hA H locs ls hP hD hS hl
  have hown : s.vm.findClass RX8 = some m.cls := hown
  have hl : lv_has ls 3 [(0, .ref (a 0))] := hl
  unfold J_X8_decodesWritten at hJ
  have L8 : ∀ (n : Nat) (v_seenPrefix : Nat → Int32) (v_seenLast : Nat → Int32) (v_seen : Int32) (v_previous : Int32) (v_gained : Nat → Int32) (v_gains : Int32) (y1 : Int32) (y2 : Int32) (H : Heap) (locs : List Loc) (ls : Array Slot), va_P (dC, dI) vwCl (MWc a kI kB kZ v_tape v_taped v_errorAt v_thrown v_world v_aside v_undone v_slots v_isKept v_undos v_seenPrefix v_seenLast v_seen v_previous v_gained v_gains v_decoded v_decodes v_readAt v_start v_kind v_word v_letters v_number v_fine v_text v_texted) H → va_D A (MWc a kI kB kZ v_tape v_taped v_errorAt v_thrown v_world v_aside v_undone v_slots v_isKept v_undos v_seenPrefix v_seenLast v_seen v_previous v_gained v_gains v_decoded v_decodes v_readAt v_start v_kind v_word v_letters v_number v_fine v_text v_texted) → va_S A s.heap H locs → lv_has ls 3 [(0, .ref (a 0)), (1, .int y1), (2, .int y2)] → J_X8_decodesWritten_b8 fu v_world n v_seenPrefix v_seenLast v_seen v_previous v_gained v_gains y1 y2 = some z → W p l e ({ frames := 5, cells := 0, slots := 0, locals := 110 }) s m args below meth c H locs 0 0 (MQ below (rwQv dC dI A (MWc a kI kB kZ v_tape v_taped v_errorAt v_thrown v_world v_aside v_undone v_slots v_isKept v_undos z.1 z.2.1 z.2.2.1 z.2.2.2.1 z.2.2.2.2.1 z.2.2.2.2.2 v_decoded v_decodes v_readAt v_start v_kind v_word v_letters v_number v_fine v_text v_texted)) args s 0 0 (A)) (F0 m 8 ls []) := by
    intro n
    induction n with
    | zero =>
      intro v_seenPrefix v_seenLast v_seen v_previous v_gained v_gains y1 y2 H locs ls hP hD hS hl hJ
      rw [J_X8_decodesWritten_b8] at hJ; cases hJ
    | succ n ih =>
      intro v_seenPrefix v_seenLast v_seen v_previous v_gained v_gains y1 y2 H locs ls hP hD hS hl hJ
      rw [J_X8_decodesWritten_b8] at hJ
      refine lv_iload_n hx hb dX8_decodesWritten_8 rfl (lv_at hl 2 rfl) ?_
      refine lv_aload_n hx hb dX8_decodesWritten_9 rfl (lv_at hl 0 rfl) ?_
      refine va_get (D := (dC, dI)) (ci := 8) (v := .ref (a 2)) (C := RX8) (T := TX8) (N := 27) hx hb hts (fun _ h => List.mem_cons_of_mem _ (List.mem_append_right _ h)) hown hK hP 0 rfl rfl 4 (by decide) (hts _ (List.mem_of_getElem? (i := 1) rfl)) (fun _ h9 => h9) rfl dX8_decodesWritten_10 ?_
      refine lv_bipush (v := 7) hx hb dX8_decodesWritten_13 (by decide) ?_
      obtain ⟨z3, e4, hJ⟩ := bnd hJ
      refine rd_int (n := 1726) (f := v_world) hx hb hK hP 2 0 rfl rfl e4 dX8_decodesWritten_15 ?_
      refine lv_icmp_ge (tgt := 47) hx hb dX8_decodesWritten_16 (by decide) (fun c5 => ?_) (fun c5 => ?_)
      · have hJ := ite_t c5 hJ
        obtain rfl := Option.some.inj hJ
        exact rw_vret hx hb hr hlocks hP hD hS dX8_decodesWritten_47
      · have hJ := ite_f c5 hJ
        refine lv_iload_n hx hb dX8_decodesWritten_19 rfl (lv_at hl 1 rfl) ?_
        refine lv_if_eq (tgt := 47) hx hb dX8_decodesWritten_20 (by decide) (fun c6 => ?_) (fun c6 => ?_)
        · have hJ := ite_t c6 hJ
          obtain rfl := Option.some.inj hJ
          exact rw_vret hx hb hr hlocks hP hD hS dX8_decodesWritten_47
        · have hJ := ite_f c6 hJ
          refine lv_aload_n hx hb dX8_decodesWritten_23 rfl (lv_at hl 0 rfl) ?_
          refine lv_aload_n hx hb dX8_decodesWritten_24 rfl (lv_at hl 0 rfl) ?_
          refine va_get (D := (dC, dI)) (ci := 8) (v := .ref (a 2)) (C := RX8) (T := TX8) (N := 27) hx hb hts (fun _ h => List.mem_cons_of_mem _ (List.mem_append_right _ h)) hown hK hP 0 rfl rfl 4 (by decide) (hts _ (List.mem_of_getElem? (i := 1) rfl)) (fun _ h9 => h9) rfl dX8_decodesWritten_25 ?_
          refine lv_sipush (v := 926) hx hb dX8_decodesWritten_28 (by decide) ?_
          refine lv_iload_n hx hb dX8_decodesWritten_31 rfl (lv_at hl 2 rfl) ?_
          refine lv_iadd hx hb dX8_decodesWritten_32 ?_
          obtain ⟨z7, e8, hJ⟩ := bnd hJ
          refine rd_int (n := 1726) (f := v_world) hx hb hK hP 2 0 rfl rfl e8 dX8_decodesWritten_33 ?_
          refine lv_bipush (v := 16) hx hb dX8_decodesWritten_34 (by decide) ?_
          refine lv_idiv hx hb dX8_decodesWritten_36 (by decide) ?_
          obtain ⟨z9, e10, hJ⟩ := bnd hJ
          refine rwViW (As := [.int (z7 / (16 : Int32))]) (rest := []) (ci := 8) (q0 := 0) hx hb hml hown hts (c_X8_takes fu l dC dI kI kB kZ a v_tape v_taped v_errorAt v_thrown v_world v_aside v_undone v_slots v_isKept v_undos v_seenPrefix v_seenLast v_seen v_previous v_gained v_gains v_decoded v_decodes v_readAt v_start v_kind v_word v_letters v_number v_fine v_text v_texted (z7 / (16 : Int32)) H.size z9 e10) gX8_decodesWritten_X8_takes qX8_takes rfl ⟨Nat.le_of_ble_eq_true rfl, Nat.le_of_ble_eq_true rfl⟩ ⟨rfl, rfl⟩ hNW hK hP hD hS hA hK rfl rfl rfl hl.1 rfl rfl (Nat.le_of_ble_eq_true rfl) dX8_decodesWritten_37 z0 (fun H locs hP hD hS => ?_)
          refine lv_istore_n (lv' := [(1, .int z9.1), (0, .ref (a 0)), (2, .int y2)]) hx hb dX8_decodesWritten_40 rfl hl (by decide) rfl (fun ls hl => ?_)
          refine lv_iinc (v := y2 + 1) (lv' := [(2, .int (y2 + 1)), (1, .int z9.1), (0, .ref (a 0))]) hx hb dX8_decodesWritten_41 hl (k := 2) rfl rfl (by decide) rfl (fun ls hl => ?_)
          refine lv_goto (tgt := 8) hx hb dX8_decodesWritten_44 (by decide) ?_
          exact ih z9.2.1 z9.2.2.1 z9.2.2.2.1 z9.2.2.2.2.1 z9.2.2.2.2.2.1 z9.2.2.2.2.2.2 z9.1 (y2 + 1) H locs ls hP hD hS (lv_sub hl [2, 1, 0] rfl) hJ
  refine lv_aload_n hx hb dX8_decodesWritten_0 rfl (lv_at hl 0 rfl) ?_
  obtain ⟨z1, e2, hJ⟩ := bnd hJ
  refine rwVvW (As := []) (rest := []) (ci := 8) (q0 := 0) hx hb hml hown hts (c_X8_startsDecoder l dC dI kI kB kZ a v_tape v_taped v_errorAt v_thrown v_world v_aside v_undone v_slots v_isKept v_undos v_seenPrefix v_seenLast v_seen v_previous v_gained v_gains v_decoded v_decodes v_readAt v_start v_kind v_word v_letters v_number v_fine v_text v_texted H.size z1 e2) gX8_decodesWritten_X8_startsDecoder qX8_startsDecoder rfl ⟨Nat.le_of_ble_eq_true rfl, Nat.le_of_ble_eq_true rfl⟩ ⟨rfl, rfl⟩ hNW hK hP hD hS hA hK rfl rfl rfl hl.1 rfl rfl (Nat.le_of_ble_eq_true rfl) dX8_decodesWritten_1 z0 (fun H locs hP hD hS => ?_)
  refine lv_iconst (v := 1) hx hb dX8_decodesWritten_4 (by decide) ?_
  refine lv_istore_n (lv' := [(1, .int (1 : Int32)), (0, .ref (a 0))]) hx hb dX8_decodesWritten_5 rfl hl (by decide) rfl (fun ls hl => ?_)
  refine lv_iconst (v := 0) hx hb dX8_decodesWritten_6 (by decide) ?_
  refine lv_istore_n (lv' := [(2, .int (0 : Int32)), (1, .int (1 : Int32)), (0, .ref (a 0))]) hx hb dX8_decodesWritten_7 rfl hl (by decide) rfl (fun ls hl => ?_)
  exact L8 fu v_seenPrefix v_seenLast z1.1 z1.2.1 v_gained z1.2.2 (1 : Int32) (0 : Int32) H locs ls hP hD hS (lv_sub hl [2, 1, 0] rfl) hJ
theorem qX8_isByte : (yX8_isByte.cls = RX8) ∧ yX8_isByte.cls ≠ "java/lang/invoke/MethodHandle" ∧ yX8_isByte.cls ≠ "java/lang/invoke/VarHandle" ∧ (parseMethodDescriptor yX8_isByte.desc).map (fun d => d.parameters.length) = some 2 := by decide +kernel
set_option maxHeartbeats 4000000 in
set_option maxRecDepth 100000 in
theorem c_X8_isByte (l : Launch) (dC : Nat → ClassId) (dI : Nat → Nat → Nat) (kI kB kZ : ClassId) (a : Nat → Nat) (v_tape : Nat → Int32) (v_taped : Int32) (v_errorAt : Int32) (v_thrown : Int32) (v_world : Nat → Int32) (v_aside : Nat → Int32) (v_undone : Nat → Int32) (v_slots : Nat → Int32) (v_isKept : Nat → Int32) (v_undos : Int32) (v_seenPrefix : Nat → Int32) (v_seenLast : Nat → Int32) (v_seen : Int32) (v_previous : Int32) (v_gained : Nat → Int32) (v_gains : Int32) (v_decoded : Nat → Int32) (v_decodes : Int32) (v_readAt : Int32) (v_start : Int32) (v_kind : Int32) (v_word : Int64) (v_letters : Int32) (v_number : Int32) (v_fine : Int32) (v_text : Nat → Int32) (v_texted : Int32) (p0 : Int32) (p1 : Int32) (z : Int32) (hJ : J_X8_isByte v_tape v_taped v_readAt p0 p1 = some z) : Met l yX8_isByte wsX8_isByte ({ frames := 0, cells := 0, slots := 0, locals := 0 }) (va_Pc [.ref (a 0), .int p0, .int p1] (ROp dC dI (MWc a kI kB kZ v_tape v_taped v_errorAt v_thrown v_world v_aside v_undone v_slots v_isKept v_undos v_seenPrefix v_seenLast v_seen v_previous v_gained v_gains v_decoded v_decodes v_readAt v_start v_kind v_word v_letters v_number v_fine v_text v_texted) [(kI, .int), (kB, .byte), (kZ, .boolean)])) (roQi z) 0 0 (fun _ => False) := by
  refine ro_start (cc := cX8_isByte) (maxL := 3) (ret := (some .boolean)) (by decide) rfl (Nat.le_of_ble_eq_true rfl) ?_
  intro p e s m args below meth c hx hb hr hml hown hts hlocks hNW hK H locs ls hP hS hl
  have hown : s.vm.findClass RX8 = some m.cls := hown
  have hl : lv_has ls 3 [(0, .ref (a 0)), (1, .int p0), (2, .int p1)] := hl
  unfold J_X8_isByte at hJ
  refine lv_aload_n hx hb dX8_isByte_0 rfl (lv_at hl 0 rfl) ?_
  refine va_get (D := (dC, dI)) (ci := 8) (v := .int v_readAt) (C := RX8) (T := TX8) (N := 27) hx hb hts (fun _ h => List.mem_cons_of_mem _ (List.mem_append_right _ h)) hown hK hP 0 rfl rfl 18 (by decide) (hts _ (List.mem_of_getElem? (i := 1) rfl)) (fun _ h9 => h9) rfl dX8_isByte_1 ?_
  refine lv_aload_n hx hb dX8_isByte_4 rfl (lv_at hl 0 rfl) ?_
  refine va_get (D := (dC, dI)) (ci := 8) (v := .int v_taped) (C := RX8) (T := TX8) (N := 27) hx hb hts (fun _ h => List.mem_cons_of_mem _ (List.mem_append_right _ h)) hown hK hP 0 rfl rfl 1 (by decide) (hts _ (List.mem_of_getElem? (i := 2) rfl)) (fun _ h9 => h9) rfl dX8_isByte_5 ?_
  refine lv_icmp_ge (tgt := 41) hx hb dX8_isByte_8 (by decide) (fun c1 => ?_) (fun c1 => ?_)
  · have hJ := ite_t c1 hJ
    refine lv_iconst (v := 0) hx hb dX8_isByte_41 (by decide) ?_
    exact ro_zret hx hb hr hlocks rfl hS hJ dX8_isByte_42
  · have hJ := ite_f c1 hJ
    refine lv_aload_n hx hb dX8_isByte_11 rfl (lv_at hl 0 rfl) ?_
    refine va_get (D := (dC, dI)) (ci := 8) (v := .ref (a 1)) (C := RX8) (T := TX8) (N := 27) hx hb hts (fun _ h => List.mem_cons_of_mem _ (List.mem_append_right _ h)) hown hK hP 0 rfl rfl 0 (by decide) (hts _ (List.mem_of_getElem? (i := 3) rfl)) (fun _ h9 => h9) rfl dX8_isByte_12 ?_
    refine lv_aload_n hx hb dX8_isByte_15 rfl (lv_at hl 0 rfl) ?_
    refine va_get (D := (dC, dI)) (ci := 8) (v := .int v_readAt) (C := RX8) (T := TX8) (N := 27) hx hb hts (fun _ h => List.mem_cons_of_mem _ (List.mem_append_right _ h)) hown hK hP 0 rfl rfl 18 (by decide) (hts _ (List.mem_of_getElem? (i := 1) rfl)) (fun _ h9 => h9) rfl dX8_isByte_16 ?_
    obtain ⟨z2, e3, hJ⟩ := bnd hJ
    refine rd_byte (n := 800) (f := v_tape) hx hb hK hP 1 1 rfl rfl e3 dX8_isByte_19 ?_
    refine lv_iload_n hx hb dX8_isByte_20 rfl (lv_at hl 1 rfl) ?_
    refine lv_icmp_lt (tgt := 41) hx hb dX8_isByte_21 (by decide) (fun c4 => ?_) (fun c4 => ?_)
    · have hJ := ite_t c4 hJ
      refine lv_iconst (v := 0) hx hb dX8_isByte_41 (by decide) ?_
      exact ro_zret hx hb hr hlocks rfl hS hJ dX8_isByte_42
    · have hJ := ite_f c4 hJ
      refine lv_aload_n hx hb dX8_isByte_24 rfl (lv_at hl 0 rfl) ?_
      refine va_get (D := (dC, dI)) (ci := 8) (v := .ref (a 1)) (C := RX8) (T := TX8) (N := 27) hx hb hts (fun _ h => List.mem_cons_of_mem _ (List.mem_append_right _ h)) hown hK hP 0 rfl rfl 0 (by decide) (hts _ (List.mem_of_getElem? (i := 3) rfl)) (fun _ h9 => h9) rfl dX8_isByte_25 ?_
      refine lv_aload_n hx hb dX8_isByte_28 rfl (lv_at hl 0 rfl) ?_
      refine va_get (D := (dC, dI)) (ci := 8) (v := .int v_readAt) (C := RX8) (T := TX8) (N := 27) hx hb hts (fun _ h => List.mem_cons_of_mem _ (List.mem_append_right _ h)) hown hK hP 0 rfl rfl 18 (by decide) (hts _ (List.mem_of_getElem? (i := 1) rfl)) (fun _ h9 => h9) rfl dX8_isByte_29 ?_
      obtain ⟨z5, e6, hJ⟩ := bnd hJ
      refine rd_byte (n := 800) (f := v_tape) hx hb hK hP 1 1 rfl rfl e6 dX8_isByte_32 ?_
      refine lv_iload_n hx hb dX8_isByte_33 rfl (lv_at hl 2 rfl) ?_
      refine lv_icmp_gt (tgt := 41) hx hb dX8_isByte_34 (by decide) (fun c7 => ?_) (fun c7 => ?_)
      · have hJ := ite_t c7 hJ
        refine lv_iconst (v := 0) hx hb dX8_isByte_41 (by decide) ?_
        exact ro_zret hx hb hr hlocks rfl hS hJ dX8_isByte_42
      · have hJ := ite_f c7 hJ
        refine lv_iconst (v := 1) hx hb dX8_isByte_37 (by decide) ?_
        refine lv_goto (tgt := 42) hx hb dX8_isByte_38 (by decide) ?_
        exact ro_zret hx hb hr hlocks rfl hS hJ dX8_isByte_42
theorem qX8_takesLetters : (yX8_takesLetters.cls = RX8) ∧ yX8_takesLetters.cls ≠ "java/lang/invoke/MethodHandle" ∧ yX8_takesLetters.cls ≠ "java/lang/invoke/VarHandle" ∧ (parseMethodDescriptor yX8_takesLetters.desc).map (fun d => d.parameters.length) = some 0 := by decide +kernel
set_option maxHeartbeats 4000000 in
set_option maxRecDepth 100000 in
theorem c_X8_takesLetters (fu : Nat) (l : Launch) (dC : Nat → ClassId) (dI : Nat → Nat → Nat) (kI kB kZ : ClassId) (a : Nat → Nat) (v_tape : Nat → Int32) (v_taped : Int32) (v_errorAt : Int32) (v_thrown : Int32) (v_world : Nat → Int32) (v_aside : Nat → Int32) (v_undone : Nat → Int32) (v_slots : Nat → Int32) (v_isKept : Nat → Int32) (v_undos : Int32) (v_seenPrefix : Nat → Int32) (v_seenLast : Nat → Int32) (v_seen : Int32) (v_previous : Int32) (v_gained : Nat → Int32) (v_gains : Int32) (v_decoded : Nat → Int32) (v_decodes : Int32) (v_readAt : Int32) (v_start : Int32) (v_kind : Int32) (v_word : Int64) (v_letters : Int32) (v_number : Int32) (v_fine : Int32) (v_text : Nat → Int32) (v_texted : Int32) (sz : Nat) (z : Int32 × Int32 × Int64 × Int32) (hJ : J_X8_takesLetters fu v_tape v_taped v_readAt v_start v_kind v_word v_letters = some z) : Met l yX8_takesLetters wsX8_takesLetters ({ frames := 1, cells := 0, slots := 0, locals := 22 }) (va_Pc [.ref (a 0)] (RWp dC dI sz (MWc a kI kB kZ v_tape v_taped v_errorAt v_thrown v_world v_aside v_undone v_slots v_isKept v_undos v_seenPrefix v_seenLast v_seen v_previous v_gained v_gains v_decoded v_decodes v_readAt v_start v_kind v_word v_letters v_number v_fine v_text v_texted) [(kI, .int), (kB, .byte), (kZ, .boolean)])) (rwQv dC dI (va_A (MWc a kI kB kZ v_tape v_taped v_errorAt v_thrown v_world v_aside v_undone v_slots v_isKept v_undos v_seenPrefix v_seenLast v_seen v_previous v_gained v_gains v_decoded v_decodes v_readAt v_start v_kind v_word v_letters v_number v_fine v_text v_texted) sz) (MWc a kI kB kZ v_tape v_taped v_errorAt v_thrown v_world v_aside v_undone v_slots v_isKept v_undos v_seenPrefix v_seenLast v_seen v_previous v_gained v_gains v_decoded v_decodes z.1 v_start z.2.1 z.2.2.1 z.2.2.2 v_number v_fine v_text v_texted)) 0 0 (va_A (MWc a kI kB kZ v_tape v_taped v_errorAt v_thrown v_world v_aside v_undone v_slots v_isKept v_undos v_seenPrefix v_seenLast v_seen v_previous v_gained v_gains v_decoded v_decodes v_readAt v_start v_kind v_word v_letters v_number v_fine v_text v_texted) sz) := by
  refine rw_start (Qc := fun A => rwQv dC dI A (MWc a kI kB kZ v_tape v_taped v_errorAt v_thrown v_world v_aside v_undone v_slots v_isKept v_undos v_seenPrefix v_seenLast v_seen v_previous v_gained v_gains v_decoded v_decodes z.1 v_start z.2.1 z.2.2.1 z.2.2.2 v_number v_fine v_text v_texted)) (cc := cX8_takesLetters) (maxL := 1) (ret := none) (by decide) rfl (Nat.le_of_ble_eq_true rfl) ?_
  intro p e s m args below meth c hx hb hr hml hown hts hlocks hNW hK A hA H locs ls hP hD hS hl
  have hown : s.vm.findClass RX8 = some m.cls := hown
  have hl : lv_has ls 1 [(0, .ref (a 0))] := hl
  unfold J_X8_takesLetters at hJ
  have L105 : ∀ (v_readAt : Int32) (v_kind : Int32) (v_word : Int64) (v_letters : Int32) (k1 : Int64) (H : Heap) (locs : List Loc) (ls : Array Slot), va_P (dC, dI) vwCl (MWc a kI kB kZ v_tape v_taped v_errorAt v_thrown v_world v_aside v_undone v_slots v_isKept v_undos v_seenPrefix v_seenLast v_seen v_previous v_gained v_gains v_decoded v_decodes v_readAt v_start v_kind v_word v_letters v_number v_fine v_text v_texted) H → va_D A (MWc a kI kB kZ v_tape v_taped v_errorAt v_thrown v_world v_aside v_undone v_slots v_isKept v_undos v_seenPrefix v_seenLast v_seen v_previous v_gained v_gains v_decoded v_decodes v_readAt v_start v_kind v_word v_letters v_number v_fine v_text v_texted) → va_S A s.heap H locs → lv_has ls 1 [(0, .ref (a 0))] → J_X8_takesLetters_b105 fu v_tape v_taped v_start v_readAt v_kind v_word v_letters k1 = some z → W p l e ({ frames := 1, cells := 0, slots := 0, locals := 22 }) s m args below meth c H locs 0 0 (MQ below (rwQv dC dI A (MWc a kI kB kZ v_tape v_taped v_errorAt v_thrown v_world v_aside v_undone v_slots v_isKept v_undos v_seenPrefix v_seenLast v_seen v_previous v_gained v_gains v_decoded v_decodes z.1 v_start z.2.1 z.2.2.1 z.2.2.2 v_number v_fine v_text v_texted)) args s 0 0 (A)) (F0 m 105 ls [.long k1, .ref (a 0)]) := by
    intro v_readAt v_kind v_word v_letters k1 H locs ls hP hD hS hl hJ
    unfold J_X8_takesLetters_b105 at hJ
    refine va_put (D := (dC, dI)) (ci := 8) (v := .long k1) (ty := .long) (C := RX8) (T := TX8) (N := 27) hx hb hts (fun _ h => List.mem_cons_of_mem _ (List.mem_append_right _ h)) tyX8 tyX8_ok nmX8 hown hK hP hD hS 0 rfl rfl 21 (by decide) (hts _ (List.mem_of_getElem? (i := 1) rfl)) (fun _ h9 => h9) rfl (by decide +kernel) rfl rfl (Nat.le_of_ble_eq_true rfl) dX8_takesLetters_105 (fun H locs hP hD hS => ?_)
    have hP : va_P (dC, dI) vwCl (MWc a kI kB kZ v_tape v_taped v_errorAt v_thrown v_world v_aside v_undone v_slots v_isKept v_undos v_seenPrefix v_seenLast v_seen v_previous v_gained v_gains v_decoded v_decodes v_readAt v_start v_kind k1 v_letters v_number v_fine v_text v_texted) H := hP
    have hD : va_D A (MWc a kI kB kZ v_tape v_taped v_errorAt v_thrown v_world v_aside v_undone v_slots v_isKept v_undos v_seenPrefix v_seenLast v_seen v_previous v_gained v_gains v_decoded v_decodes v_readAt v_start v_kind k1 v_letters v_number v_fine v_text v_texted) := hD
    refine lv_aload_n hx hb dX8_takesLetters_108 rfl (lv_at hl 0 rfl) ?_
    refine lv_iconst (v := 1) hx hb dX8_takesLetters_109 (by decide) ?_
    refine va_put (D := (dC, dI)) (ci := 8) (v := .int (1 : Int32)) (ty := .int) (C := RX8) (T := TX8) (N := 27) hx hb hts (fun _ h => List.mem_cons_of_mem _ (List.mem_append_right _ h)) tyX8 tyX8_ok nmX8 hown hK hP hD hS 0 rfl rfl 20 (by decide) (hts _ (List.mem_of_getElem? (i := 8) rfl)) (fun _ h9 => h9) rfl (by decide +kernel) rfl rfl (Nat.le_of_ble_eq_true rfl) dX8_takesLetters_110 (fun H locs hP hD hS => ?_)
    have hP : va_P (dC, dI) vwCl (MWc a kI kB kZ v_tape v_taped v_errorAt v_thrown v_world v_aside v_undone v_slots v_isKept v_undos v_seenPrefix v_seenLast v_seen v_previous v_gained v_gains v_decoded v_decodes v_readAt v_start (1 : Int32) k1 v_letters v_number v_fine v_text v_texted) H := hP
    have hD : va_D A (MWc a kI kB kZ v_tape v_taped v_errorAt v_thrown v_world v_aside v_undone v_slots v_isKept v_undos v_seenPrefix v_seenLast v_seen v_previous v_gained v_gains v_decoded v_decodes v_readAt v_start (1 : Int32) k1 v_letters v_number v_fine v_text v_texted) := hD
    obtain rfl := Option.some.inj hJ
    exact rw_vret hx hb hr hlocks hP hD hS dX8_takesLetters_113
  have L5 : ∀ (n : Nat) (v_readAt : Int32) (v_kind : Int32) (v_word : Int64) (v_letters : Int32) (H : Heap) (locs : List Loc) (ls : Array Slot), va_P (dC, dI) vwCl (MWc a kI kB kZ v_tape v_taped v_errorAt v_thrown v_world v_aside v_undone v_slots v_isKept v_undos v_seenPrefix v_seenLast v_seen v_previous v_gained v_gains v_decoded v_decodes v_readAt v_start v_kind v_word v_letters v_number v_fine v_text v_texted) H → va_D A (MWc a kI kB kZ v_tape v_taped v_errorAt v_thrown v_world v_aside v_undone v_slots v_isKept v_undos v_seenPrefix v_seenLast v_seen v_previous v_gained v_gains v_decoded v_decodes v_readAt v_start v_kind v_word v_letters v_number v_fine v_text v_texted) → va_S A s.heap H locs → lv_has ls 1 [(0, .ref (a 0))] → J_X8_takesLetters_b5 fu v_tape v_taped v_start n v_readAt v_kind v_word v_letters = some z → W p l e ({ frames := 1, cells := 0, slots := 0, locals := 22 }) s m args below meth c H locs 0 0 (MQ below (rwQv dC dI A (MWc a kI kB kZ v_tape v_taped v_errorAt v_thrown v_world v_aside v_undone v_slots v_isKept v_undos v_seenPrefix v_seenLast v_seen v_previous v_gained v_gains v_decoded v_decodes z.1 v_start z.2.1 z.2.2.1 z.2.2.2 v_number v_fine v_text v_texted)) args s 0 0 (A)) (F0 m 5 ls []) := by
    intro n
    induction n with
    | zero =>
      intro v_readAt v_kind v_word v_letters H locs ls hP hD hS hl hJ
      rw [J_X8_takesLetters_b5] at hJ; cases hJ
    | succ n ih =>
      intro v_readAt v_kind v_word v_letters H locs ls hP hD hS hl hJ
      rw [J_X8_takesLetters_b5] at hJ
      refine lv_aload_n hx hb dX8_takesLetters_5 rfl (lv_at hl 0 rfl) ?_
      refine lv_bipush (v := 97) hx hb dX8_takesLetters_6 (by decide) ?_
      refine lv_bipush (v := 122) hx hb dX8_takesLetters_8 (by decide) ?_
      obtain ⟨z1, e2, hJ⟩ := bnd hJ
      refine roVi (As := [.int (97 : Int32), .int (122 : Int32)]) (rest := []) (ci := 8) (q0 := 0) hx hb hml hown hts (c_X8_isByte l dC dI kI kB kZ a v_tape v_taped v_errorAt v_thrown v_world v_aside v_undone v_slots v_isKept v_undos v_seenPrefix v_seenLast v_seen v_previous v_gained v_gains v_decoded v_decodes v_readAt v_start v_kind v_word v_letters v_number v_fine v_text v_texted (97 : Int32) (122 : Int32) z1 e2) gX8_takesLetters_X8_isByte qX8_isByte rfl ⟨Nat.le_of_ble_eq_true rfl, Nat.le_of_ble_eq_true rfl⟩ ⟨rfl, rfl⟩ hNW hK hP hS hP hK rfl rfl rfl hl.1 rfl rfl (Nat.le_of_ble_eq_true rfl) dX8_takesLetters_10 z0 (fun H locs hP hS => ?_)
      refine lv_if_eq (tgt := 74) hx hb dX8_takesLetters_13 (by decide) (fun c3 => ?_) (fun c3 => ?_)
      · have hJ := ite_t c3 hJ
        refine lv_aload_n hx hb dX8_takesLetters_74 rfl (lv_at hl 0 rfl) ?_
        refine lv_aload_n hx hb dX8_takesLetters_75 rfl (lv_at hl 0 rfl) ?_
        refine va_get (D := (dC, dI)) (ci := 8) (v := .int v_readAt) (C := RX8) (T := TX8) (N := 27) hx hb hts (fun _ h => List.mem_cons_of_mem _ (List.mem_append_right _ h)) hown hK hP 0 rfl rfl 18 (by decide) (hts _ (List.mem_of_getElem? (i := 2) rfl)) (fun _ h9 => h9) rfl dX8_takesLetters_76 ?_
        refine lv_aload_n hx hb dX8_takesLetters_79 rfl (lv_at hl 0 rfl) ?_
        refine va_get (D := (dC, dI)) (ci := 8) (v := .int v_start) (C := RX8) (T := TX8) (N := 27) hx hb hts (fun _ h => List.mem_cons_of_mem _ (List.mem_append_right _ h)) hown hK hP 0 rfl rfl 19 (by decide) (hts _ (List.mem_of_getElem? (i := 3) rfl)) (fun _ h9 => h9) rfl dX8_takesLetters_80 ?_
        refine lv_isub hx hb dX8_takesLetters_83 ?_
        refine va_put (D := (dC, dI)) (ci := 8) (v := .int (v_readAt - v_start)) (ty := .int) (C := RX8) (T := TX8) (N := 27) hx hb hts (fun _ h => List.mem_cons_of_mem _ (List.mem_append_right _ h)) tyX8 tyX8_ok nmX8 hown hK hP hD hS 0 rfl rfl 22 (by decide) (hts _ (List.mem_of_getElem? (i := 7) rfl)) (fun _ h9 => h9) rfl (by decide +kernel) rfl rfl (Nat.le_of_ble_eq_true rfl) dX8_takesLetters_84 (fun H locs hP hD hS => ?_)
        have hP : va_P (dC, dI) vwCl (MWc a kI kB kZ v_tape v_taped v_errorAt v_thrown v_world v_aside v_undone v_slots v_isKept v_undos v_seenPrefix v_seenLast v_seen v_previous v_gained v_gains v_decoded v_decodes v_readAt v_start v_kind v_word (v_readAt - v_start) v_number v_fine v_text v_texted) H := hP
        have hD : va_D A (MWc a kI kB kZ v_tape v_taped v_errorAt v_thrown v_world v_aside v_undone v_slots v_isKept v_undos v_seenPrefix v_seenLast v_seen v_previous v_gained v_gains v_decoded v_decodes v_readAt v_start v_kind v_word (v_readAt - v_start) v_number v_fine v_text v_texted) := hD
        refine lv_aload_n hx hb dX8_takesLetters_87 rfl (lv_at hl 0 rfl) ?_
        refine lv_aload_n hx hb dX8_takesLetters_88 rfl (lv_at hl 0 rfl) ?_
        refine va_get (D := (dC, dI)) (ci := 8) (v := .int (v_readAt - v_start)) (C := RX8) (T := TX8) (N := 27) hx hb hts (fun _ h => List.mem_cons_of_mem _ (List.mem_append_right _ h)) hown hK hP 0 rfl rfl 22 (by decide) (hts _ (List.mem_of_getElem? (i := 7) rfl)) (fun _ h9 => h9) rfl dX8_takesLetters_89 ?_
        refine lv_bipush (v := 7) hx hb dX8_takesLetters_92 (by decide) ?_
        refine lv_icmp_le (tgt := 101) hx hb dX8_takesLetters_94 (by decide) (fun c4 => ?_) (fun c4 => ?_)
        · have hJ := ite_t c4 hJ
          refine lv_aload_n hx hb dX8_takesLetters_101 rfl (lv_at hl 0 rfl) ?_
          refine va_get (D := (dC, dI)) (ci := 8) (v := .long v_word) (C := RX8) (T := TX8) (N := 27) hx hb hts (fun _ h => List.mem_cons_of_mem _ (List.mem_append_right _ h)) hown hK hP 0 rfl rfl 21 (by decide) (hts _ (List.mem_of_getElem? (i := 1) rfl)) (fun _ h9 => h9) rfl dX8_takesLetters_102 ?_
          exact L105 v_readAt v_kind v_word (v_readAt - v_start) v_word H locs ls hP hD hS (lv_sub hl [0] rfl) hJ
        · have hJ := ite_f c4 hJ
          refine lv_lconst (v := 0) hx hb dX8_takesLetters_97 (by decide) ?_
          refine lv_goto (tgt := 105) hx hb dX8_takesLetters_98 (by decide) ?_
          exact L105 v_readAt v_kind v_word (v_readAt - v_start) (0 : Int64) H locs ls hP hD hS (lv_sub hl [0] rfl) hJ
      · have hJ := ite_f c3 hJ
        refine lv_aload_n hx hb dX8_takesLetters_16 rfl (lv_at hl 0 rfl) ?_
        refine lv_aload_n hx hb dX8_takesLetters_17 rfl (lv_at hl 0 rfl) ?_
        refine va_get (D := (dC, dI)) (ci := 8) (v := .int v_readAt) (C := RX8) (T := TX8) (N := 27) hx hb hts (fun _ h => List.mem_cons_of_mem _ (List.mem_append_right _ h)) hown hK hP 0 rfl rfl 18 (by decide) (hts _ (List.mem_of_getElem? (i := 2) rfl)) (fun _ h9 => h9) rfl dX8_takesLetters_18 ?_
        refine lv_aload_n hx hb dX8_takesLetters_21 rfl (lv_at hl 0 rfl) ?_
        refine va_get (D := (dC, dI)) (ci := 8) (v := .int v_start) (C := RX8) (T := TX8) (N := 27) hx hb hts (fun _ h => List.mem_cons_of_mem _ (List.mem_append_right _ h)) hown hK hP 0 rfl rfl 19 (by decide) (hts _ (List.mem_of_getElem? (i := 3) rfl)) (fun _ h9 => h9) rfl dX8_takesLetters_22 ?_
        refine lv_isub hx hb dX8_takesLetters_25 ?_
        refine lv_bipush (v := 7) hx hb dX8_takesLetters_26 (by decide) ?_
        refine lv_icmp_ge (tgt := 57) hx hb dX8_takesLetters_28 (by decide) (fun c5 => ?_) (fun c5 => ?_)
        · have hJ := ite_t c5 hJ
          refine lv_lconst (v := 0) hx hb dX8_takesLetters_57 (by decide) ?_
          refine va_put (D := (dC, dI)) (ci := 8) (v := .long (0 : Int64)) (ty := .long) (C := RX8) (T := TX8) (N := 27) hx hb hts (fun _ h => List.mem_cons_of_mem _ (List.mem_append_right _ h)) tyX8 tyX8_ok nmX8 hown hK hP hD hS 0 rfl rfl 21 (by decide) (hts _ (List.mem_of_getElem? (i := 1) rfl)) (fun _ h9 => h9) rfl (by decide +kernel) rfl rfl (Nat.le_of_ble_eq_true rfl) dX8_takesLetters_58 (fun H locs hP hD hS => ?_)
          have hP : va_P (dC, dI) vwCl (MWc a kI kB kZ v_tape v_taped v_errorAt v_thrown v_world v_aside v_undone v_slots v_isKept v_undos v_seenPrefix v_seenLast v_seen v_previous v_gained v_gains v_decoded v_decodes v_readAt v_start v_kind (0 : Int64) v_letters v_number v_fine v_text v_texted) H := hP
          have hD : va_D A (MWc a kI kB kZ v_tape v_taped v_errorAt v_thrown v_world v_aside v_undone v_slots v_isKept v_undos v_seenPrefix v_seenLast v_seen v_previous v_gained v_gains v_decoded v_decodes v_readAt v_start v_kind (0 : Int64) v_letters v_number v_fine v_text v_texted) := hD
          refine lv_aload_n hx hb dX8_takesLetters_61 rfl (lv_at hl 0 rfl) ?_
          refine lv_dup hx hb dX8_takesLetters_62 rfl ?_
          refine va_get (D := (dC, dI)) (ci := 8) (v := .int v_readAt) (C := RX8) (T := TX8) (N := 27) hx hb hts (fun _ h => List.mem_cons_of_mem _ (List.mem_append_right _ h)) hown hK hP 0 rfl rfl 18 (by decide) (hts _ (List.mem_of_getElem? (i := 2) rfl)) (fun _ h9 => h9) rfl dX8_takesLetters_63 ?_
          refine lv_iconst (v := 1) hx hb dX8_takesLetters_66 (by decide) ?_
          refine lv_iadd hx hb dX8_takesLetters_67 ?_
          refine va_put (D := (dC, dI)) (ci := 8) (v := .int (v_readAt + (1 : Int32))) (ty := .int) (C := RX8) (T := TX8) (N := 27) hx hb hts (fun _ h => List.mem_cons_of_mem _ (List.mem_append_right _ h)) tyX8 tyX8_ok nmX8 hown hK hP hD hS 0 rfl rfl 18 (by decide) (hts _ (List.mem_of_getElem? (i := 2) rfl)) (fun _ h9 => h9) rfl (by decide +kernel) rfl rfl (Nat.le_of_ble_eq_true rfl) dX8_takesLetters_68 (fun H locs hP hD hS => ?_)
          have hP : va_P (dC, dI) vwCl (MWc a kI kB kZ v_tape v_taped v_errorAt v_thrown v_world v_aside v_undone v_slots v_isKept v_undos v_seenPrefix v_seenLast v_seen v_previous v_gained v_gains v_decoded v_decodes (v_readAt + (1 : Int32)) v_start v_kind (0 : Int64) v_letters v_number v_fine v_text v_texted) H := hP
          have hD : va_D A (MWc a kI kB kZ v_tape v_taped v_errorAt v_thrown v_world v_aside v_undone v_slots v_isKept v_undos v_seenPrefix v_seenLast v_seen v_previous v_gained v_gains v_decoded v_decodes (v_readAt + (1 : Int32)) v_start v_kind (0 : Int64) v_letters v_number v_fine v_text v_texted) := hD
          refine lv_goto (tgt := 5) hx hb dX8_takesLetters_71 (by decide) ?_
          exact ih (v_readAt + (1 : Int32)) v_kind (0 : Int64) v_letters H locs ls hP hD hS (lv_sub hl [0] rfl) hJ
        · have hJ := ite_f c5 hJ
          refine lv_ldc2 (v := 32) hx hb hown (hts _ (List.mem_of_getElem? (i := 4) rfl)) dX8_takesLetters_31 ?_
          refine lv_aload_n hx hb dX8_takesLetters_34 rfl (lv_at hl 0 rfl) ?_
          refine va_get (D := (dC, dI)) (ci := 8) (v := .long v_word) (C := RX8) (T := TX8) (N := 27) hx hb hts (fun _ h => List.mem_cons_of_mem _ (List.mem_append_right _ h)) hown hK hP 0 rfl rfl 21 (by decide) (hts _ (List.mem_of_getElem? (i := 1) rfl)) (fun _ h9 => h9) rfl dX8_takesLetters_35 ?_
          refine lv_lmul hx hb dX8_takesLetters_38 ?_
          refine lv_aload_n hx hb dX8_takesLetters_39 rfl (lv_at hl 0 rfl) ?_
          refine va_get (D := (dC, dI)) (ci := 8) (v := .ref (a 1)) (C := RX8) (T := TX8) (N := 27) hx hb hts (fun _ h => List.mem_cons_of_mem _ (List.mem_append_right _ h)) hown hK hP 0 rfl rfl 0 (by decide) (hts _ (List.mem_of_getElem? (i := 5) rfl)) (fun _ h9 => h9) rfl dX8_takesLetters_40 ?_
          refine lv_aload_n hx hb dX8_takesLetters_43 rfl (lv_at hl 0 rfl) ?_
          refine va_get (D := (dC, dI)) (ci := 8) (v := .int v_readAt) (C := RX8) (T := TX8) (N := 27) hx hb hts (fun _ h => List.mem_cons_of_mem _ (List.mem_append_right _ h)) hown hK hP 0 rfl rfl 18 (by decide) (hts _ (List.mem_of_getElem? (i := 2) rfl)) (fun _ h9 => h9) rfl dX8_takesLetters_44 ?_
          obtain ⟨z6, e7, hJ⟩ := bnd hJ
          refine rd_byte (n := 800) (f := v_tape) hx hb hK hP 1 1 rfl rfl e7 dX8_takesLetters_47 ?_
          refine lv_i2l (v := z6.toInt64) hx hb dX8_takesLetters_48 rfl ?_
          refine lv_ladd hx hb dX8_takesLetters_49 ?_
          refine lv_ldc2 (v := 96) hx hb hown (hts _ (List.mem_of_getElem? (i := 6) rfl)) dX8_takesLetters_50 ?_
          refine lv_lsub hx hb dX8_takesLetters_53 ?_
          refine lv_goto (tgt := 58) hx hb dX8_takesLetters_54 (by decide) ?_
          refine va_put (D := (dC, dI)) (ci := 8) (v := .long ((((32 : Int64) * v_word) + z6.toInt64) - (96 : Int64))) (ty := .long) (C := RX8) (T := TX8) (N := 27) hx hb hts (fun _ h => List.mem_cons_of_mem _ (List.mem_append_right _ h)) tyX8 tyX8_ok nmX8 hown hK hP hD hS 0 rfl rfl 21 (by decide) (hts _ (List.mem_of_getElem? (i := 1) rfl)) (fun _ h9 => h9) rfl (by decide +kernel) rfl rfl (Nat.le_of_ble_eq_true rfl) dX8_takesLetters_58 (fun H locs hP hD hS => ?_)
          have hP : va_P (dC, dI) vwCl (MWc a kI kB kZ v_tape v_taped v_errorAt v_thrown v_world v_aside v_undone v_slots v_isKept v_undos v_seenPrefix v_seenLast v_seen v_previous v_gained v_gains v_decoded v_decodes v_readAt v_start v_kind ((((32 : Int64) * v_word) + z6.toInt64) - (96 : Int64)) v_letters v_number v_fine v_text v_texted) H := hP
          have hD : va_D A (MWc a kI kB kZ v_tape v_taped v_errorAt v_thrown v_world v_aside v_undone v_slots v_isKept v_undos v_seenPrefix v_seenLast v_seen v_previous v_gained v_gains v_decoded v_decodes v_readAt v_start v_kind ((((32 : Int64) * v_word) + z6.toInt64) - (96 : Int64)) v_letters v_number v_fine v_text v_texted) := hD
          refine lv_aload_n hx hb dX8_takesLetters_61 rfl (lv_at hl 0 rfl) ?_
          refine lv_dup hx hb dX8_takesLetters_62 rfl ?_
          refine va_get (D := (dC, dI)) (ci := 8) (v := .int v_readAt) (C := RX8) (T := TX8) (N := 27) hx hb hts (fun _ h => List.mem_cons_of_mem _ (List.mem_append_right _ h)) hown hK hP 0 rfl rfl 18 (by decide) (hts _ (List.mem_of_getElem? (i := 2) rfl)) (fun _ h9 => h9) rfl dX8_takesLetters_63 ?_
          refine lv_iconst (v := 1) hx hb dX8_takesLetters_66 (by decide) ?_
          refine lv_iadd hx hb dX8_takesLetters_67 ?_
          refine va_put (D := (dC, dI)) (ci := 8) (v := .int (v_readAt + (1 : Int32))) (ty := .int) (C := RX8) (T := TX8) (N := 27) hx hb hts (fun _ h => List.mem_cons_of_mem _ (List.mem_append_right _ h)) tyX8 tyX8_ok nmX8 hown hK hP hD hS 0 rfl rfl 18 (by decide) (hts _ (List.mem_of_getElem? (i := 2) rfl)) (fun _ h9 => h9) rfl (by decide +kernel) rfl rfl (Nat.le_of_ble_eq_true rfl) dX8_takesLetters_68 (fun H locs hP hD hS => ?_)
          have hP : va_P (dC, dI) vwCl (MWc a kI kB kZ v_tape v_taped v_errorAt v_thrown v_world v_aside v_undone v_slots v_isKept v_undos v_seenPrefix v_seenLast v_seen v_previous v_gained v_gains v_decoded v_decodes (v_readAt + (1 : Int32)) v_start v_kind ((((32 : Int64) * v_word) + z6.toInt64) - (96 : Int64)) v_letters v_number v_fine v_text v_texted) H := hP
          have hD : va_D A (MWc a kI kB kZ v_tape v_taped v_errorAt v_thrown v_world v_aside v_undone v_slots v_isKept v_undos v_seenPrefix v_seenLast v_seen v_previous v_gained v_gains v_decoded v_decodes (v_readAt + (1 : Int32)) v_start v_kind ((((32 : Int64) * v_word) + z6.toInt64) - (96 : Int64)) v_letters v_number v_fine v_text v_texted) := hD
          refine lv_goto (tgt := 5) hx hb dX8_takesLetters_71 (by decide) ?_
          exact ih (v_readAt + (1 : Int32)) v_kind ((((32 : Int64) * v_word) + z6.toInt64) - (96 : Int64)) v_letters H locs ls hP hD hS (lv_sub hl [0] rfl) hJ
  refine lv_aload_n hx hb dX8_takesLetters_0 rfl (lv_at hl 0 rfl) ?_
  refine lv_lconst (v := 0) hx hb dX8_takesLetters_1 (by decide) ?_
  refine va_put (D := (dC, dI)) (ci := 8) (v := .long (0 : Int64)) (ty := .long) (C := RX8) (T := TX8) (N := 27) hx hb hts (fun _ h => List.mem_cons_of_mem _ (List.mem_append_right _ h)) tyX8 tyX8_ok nmX8 hown hK hP hD hS 0 rfl rfl 21 (by decide) (hts _ (List.mem_of_getElem? (i := 1) rfl)) (fun _ h9 => h9) rfl (by decide +kernel) rfl rfl (Nat.le_of_ble_eq_true rfl) dX8_takesLetters_2 (fun H locs hP hD hS => ?_)
  have hP : va_P (dC, dI) vwCl (MWc a kI kB kZ v_tape v_taped v_errorAt v_thrown v_world v_aside v_undone v_slots v_isKept v_undos v_seenPrefix v_seenLast v_seen v_previous v_gained v_gains v_decoded v_decodes v_readAt v_start v_kind (0 : Int64) v_letters v_number v_fine v_text v_texted) H := hP
  have hD : va_D A (MWc a kI kB kZ v_tape v_taped v_errorAt v_thrown v_world v_aside v_undone v_slots v_isKept v_undos v_seenPrefix v_seenLast v_seen v_previous v_gained v_gains v_decoded v_decodes v_readAt v_start v_kind (0 : Int64) v_letters v_number v_fine v_text v_texted) := hD
  exact L5 fu v_readAt v_kind (0 : Int64) v_letters H locs ls hP hD hS (lv_sub hl [0] rfl) hJ
theorem qX8_takesDigits : (yX8_takesDigits.cls = RX8) ∧ yX8_takesDigits.cls ≠ "java/lang/invoke/MethodHandle" ∧ yX8_takesDigits.cls ≠ "java/lang/invoke/VarHandle" ∧ (parseMethodDescriptor yX8_takesDigits.desc).map (fun d => d.parameters.length) = some 0 := by decide +kernel
set_option maxHeartbeats 4000000 in
set_option maxRecDepth 100000 in
theorem c_X8_takesDigits (fu : Nat) (l : Launch) (dC : Nat → ClassId) (dI : Nat → Nat → Nat) (kI kB kZ : ClassId) (a : Nat → Nat) (v_tape : Nat → Int32) (v_taped : Int32) (v_errorAt : Int32) (v_thrown : Int32) (v_world : Nat → Int32) (v_aside : Nat → Int32) (v_undone : Nat → Int32) (v_slots : Nat → Int32) (v_isKept : Nat → Int32) (v_undos : Int32) (v_seenPrefix : Nat → Int32) (v_seenLast : Nat → Int32) (v_seen : Int32) (v_previous : Int32) (v_gained : Nat → Int32) (v_gains : Int32) (v_decoded : Nat → Int32) (v_decodes : Int32) (v_readAt : Int32) (v_start : Int32) (v_kind : Int32) (v_word : Int64) (v_letters : Int32) (v_number : Int32) (v_fine : Int32) (v_text : Nat → Int32) (v_texted : Int32) (sz : Nat) (z : Int32 × Int32 × Int32) (hJ : J_X8_takesDigits fu v_tape v_taped v_readAt v_start v_kind v_number = some z) : Met l yX8_takesDigits wsX8_takesDigits ({ frames := 1, cells := 0, slots := 0, locals := 22 }) (va_Pc [.ref (a 0)] (RWp dC dI sz (MWc a kI kB kZ v_tape v_taped v_errorAt v_thrown v_world v_aside v_undone v_slots v_isKept v_undos v_seenPrefix v_seenLast v_seen v_previous v_gained v_gains v_decoded v_decodes v_readAt v_start v_kind v_word v_letters v_number v_fine v_text v_texted) [(kI, .int), (kB, .byte), (kZ, .boolean)])) (rwQv dC dI (va_A (MWc a kI kB kZ v_tape v_taped v_errorAt v_thrown v_world v_aside v_undone v_slots v_isKept v_undos v_seenPrefix v_seenLast v_seen v_previous v_gained v_gains v_decoded v_decodes v_readAt v_start v_kind v_word v_letters v_number v_fine v_text v_texted) sz) (MWc a kI kB kZ v_tape v_taped v_errorAt v_thrown v_world v_aside v_undone v_slots v_isKept v_undos v_seenPrefix v_seenLast v_seen v_previous v_gained v_gains v_decoded v_decodes z.1 v_start z.2.1 v_word v_letters z.2.2 v_fine v_text v_texted)) 0 0 (va_A (MWc a kI kB kZ v_tape v_taped v_errorAt v_thrown v_world v_aside v_undone v_slots v_isKept v_undos v_seenPrefix v_seenLast v_seen v_previous v_gained v_gains v_decoded v_decodes v_readAt v_start v_kind v_word v_letters v_number v_fine v_text v_texted) sz) := by
  refine rw_start (Qc := fun A => rwQv dC dI A (MWc a kI kB kZ v_tape v_taped v_errorAt v_thrown v_world v_aside v_undone v_slots v_isKept v_undos v_seenPrefix v_seenLast v_seen v_previous v_gained v_gains v_decoded v_decodes z.1 v_start z.2.1 v_word v_letters z.2.2 v_fine v_text v_texted)) (cc := cX8_takesDigits) (maxL := 1) (ret := none) (by decide) rfl (Nat.le_of_ble_eq_true rfl) ?_
  intro p e s m args below meth c hx hb hr hml hown hts hlocks hNW hK A hA H locs ls hP hD hS hl
  have hown : s.vm.findClass RX8 = some m.cls := hown
  have hl : lv_has ls 1 [(0, .ref (a 0))] := hl
  unfold J_X8_takesDigits at hJ
  have L92 : ∀ (v_readAt : Int32) (v_kind : Int32) (v_number : Int32) (k1 : Int32) (H : Heap) (locs : List Loc) (ls : Array Slot), va_P (dC, dI) vwCl (MWc a kI kB kZ v_tape v_taped v_errorAt v_thrown v_world v_aside v_undone v_slots v_isKept v_undos v_seenPrefix v_seenLast v_seen v_previous v_gained v_gains v_decoded v_decodes v_readAt v_start v_kind v_word v_letters v_number v_fine v_text v_texted) H → va_D A (MWc a kI kB kZ v_tape v_taped v_errorAt v_thrown v_world v_aside v_undone v_slots v_isKept v_undos v_seenPrefix v_seenLast v_seen v_previous v_gained v_gains v_decoded v_decodes v_readAt v_start v_kind v_word v_letters v_number v_fine v_text v_texted) → va_S A s.heap H locs → lv_has ls 1 [] → J_X8_takesDigits_b92 fu v_tape v_taped v_start v_readAt v_kind v_number k1 = some z → W p l e ({ frames := 1, cells := 0, slots := 0, locals := 22 }) s m args below meth c H locs 0 0 (MQ below (rwQv dC dI A (MWc a kI kB kZ v_tape v_taped v_errorAt v_thrown v_world v_aside v_undone v_slots v_isKept v_undos v_seenPrefix v_seenLast v_seen v_previous v_gained v_gains v_decoded v_decodes z.1 v_start z.2.1 v_word v_letters z.2.2 v_fine v_text v_texted)) args s 0 0 (A)) (F0 m 92 ls [.int k1, .ref (a 0)]) := by
    intro v_readAt v_kind v_number k1 H locs ls hP hD hS hl hJ
    unfold J_X8_takesDigits_b92 at hJ
    refine va_put (D := (dC, dI)) (ci := 8) (v := .int k1) (ty := .int) (C := RX8) (T := TX8) (N := 27) hx hb hts (fun _ h => List.mem_cons_of_mem _ (List.mem_append_right _ h)) tyX8 tyX8_ok nmX8 hown hK hP hD hS 0 rfl rfl 20 (by decide) (hts _ (List.mem_of_getElem? (i := 5) rfl)) (fun _ h9 => h9) rfl (by decide +kernel) rfl rfl (Nat.le_of_ble_eq_true rfl) dX8_takesDigits_92 (fun H locs hP hD hS => ?_)
    have hP : va_P (dC, dI) vwCl (MWc a kI kB kZ v_tape v_taped v_errorAt v_thrown v_world v_aside v_undone v_slots v_isKept v_undos v_seenPrefix v_seenLast v_seen v_previous v_gained v_gains v_decoded v_decodes v_readAt v_start k1 v_word v_letters v_number v_fine v_text v_texted) H := hP
    have hD : va_D A (MWc a kI kB kZ v_tape v_taped v_errorAt v_thrown v_world v_aside v_undone v_slots v_isKept v_undos v_seenPrefix v_seenLast v_seen v_previous v_gained v_gains v_decoded v_decodes v_readAt v_start k1 v_word v_letters v_number v_fine v_text v_texted) := hD
    obtain rfl := Option.some.inj hJ
    exact rw_vret hx hb hr hlocks hP hD hS dX8_takesDigits_95
  have L5 : ∀ (n : Nat) (v_readAt : Int32) (v_kind : Int32) (v_number : Int32) (H : Heap) (locs : List Loc) (ls : Array Slot), va_P (dC, dI) vwCl (MWc a kI kB kZ v_tape v_taped v_errorAt v_thrown v_world v_aside v_undone v_slots v_isKept v_undos v_seenPrefix v_seenLast v_seen v_previous v_gained v_gains v_decoded v_decodes v_readAt v_start v_kind v_word v_letters v_number v_fine v_text v_texted) H → va_D A (MWc a kI kB kZ v_tape v_taped v_errorAt v_thrown v_world v_aside v_undone v_slots v_isKept v_undos v_seenPrefix v_seenLast v_seen v_previous v_gained v_gains v_decoded v_decodes v_readAt v_start v_kind v_word v_letters v_number v_fine v_text v_texted) → va_S A s.heap H locs → lv_has ls 1 [(0, .ref (a 0))] → J_X8_takesDigits_b5 fu v_tape v_taped v_start n v_readAt v_kind v_number = some z → W p l e ({ frames := 1, cells := 0, slots := 0, locals := 22 }) s m args below meth c H locs 0 0 (MQ below (rwQv dC dI A (MWc a kI kB kZ v_tape v_taped v_errorAt v_thrown v_world v_aside v_undone v_slots v_isKept v_undos v_seenPrefix v_seenLast v_seen v_previous v_gained v_gains v_decoded v_decodes z.1 v_start z.2.1 v_word v_letters z.2.2 v_fine v_text v_texted)) args s 0 0 (A)) (F0 m 5 ls []) := by
    intro n
    induction n with
    | zero =>
      intro v_readAt v_kind v_number H locs ls hP hD hS hl hJ
      rw [J_X8_takesDigits_b5] at hJ; cases hJ
    | succ n ih =>
      intro v_readAt v_kind v_number H locs ls hP hD hS hl hJ
      rw [J_X8_takesDigits_b5] at hJ
      refine lv_aload_n hx hb dX8_takesDigits_5 rfl (lv_at hl 0 rfl) ?_
      refine lv_bipush (v := 48) hx hb dX8_takesDigits_6 (by decide) ?_
      refine lv_bipush (v := 57) hx hb dX8_takesDigits_8 (by decide) ?_
      obtain ⟨z1, e2, hJ⟩ := bnd hJ
      refine roVi (As := [.int (48 : Int32), .int (57 : Int32)]) (rest := []) (ci := 8) (q0 := 0) hx hb hml hown hts (c_X8_isByte l dC dI kI kB kZ a v_tape v_taped v_errorAt v_thrown v_world v_aside v_undone v_slots v_isKept v_undos v_seenPrefix v_seenLast v_seen v_previous v_gained v_gains v_decoded v_decodes v_readAt v_start v_kind v_word v_letters v_number v_fine v_text v_texted (48 : Int32) (57 : Int32) z1 e2) gX8_takesDigits_X8_isByte qX8_isByte rfl ⟨Nat.le_of_ble_eq_true rfl, Nat.le_of_ble_eq_true rfl⟩ ⟨rfl, rfl⟩ hNW hK hP hS hP hK rfl rfl rfl hl.1 rfl rfl (Nat.le_of_ble_eq_true rfl) dX8_takesDigits_10 z0 (fun H locs hP hS => ?_)
      refine lv_if_eq (tgt := 73) hx hb dX8_takesDigits_13 (by decide) (fun c3 => ?_) (fun c3 => ?_)
      · have hJ := ite_t c3 hJ
        refine lv_aload_n hx hb dX8_takesDigits_73 rfl (lv_at hl 0 rfl) ?_
        refine lv_aload_n hx hb dX8_takesDigits_74 rfl (lv_at hl 0 rfl) ?_
        refine va_get (D := (dC, dI)) (ci := 8) (v := .int v_readAt) (C := RX8) (T := TX8) (N := 27) hx hb hts (fun _ h => List.mem_cons_of_mem _ (List.mem_append_right _ h)) hown hK hP 0 rfl rfl 18 (by decide) (hts _ (List.mem_of_getElem? (i := 2) rfl)) (fun _ h9 => h9) rfl dX8_takesDigits_75 ?_
        refine lv_aload_n hx hb dX8_takesDigits_78 rfl (lv_at hl 0 rfl) ?_
        refine va_get (D := (dC, dI)) (ci := 8) (v := .int v_start) (C := RX8) (T := TX8) (N := 27) hx hb hts (fun _ h => List.mem_cons_of_mem _ (List.mem_append_right _ h)) hown hK hP 0 rfl rfl 19 (by decide) (hts _ (List.mem_of_getElem? (i := 3) rfl)) (fun _ h9 => h9) rfl dX8_takesDigits_79 ?_
        refine lv_isub hx hb dX8_takesDigits_82 ?_
        refine lv_iconst (v := 3) hx hb dX8_takesDigits_83 (by decide) ?_
        refine lv_icmp_le (tgt := 91) hx hb dX8_takesDigits_84 (by decide) (fun c4 => ?_) (fun c4 => ?_)
        · have hJ := ite_t c4 hJ
          refine lv_iconst (v := 2) hx hb dX8_takesDigits_91 (by decide) ?_
          exact L92 v_readAt v_kind v_number (2 : Int32) H locs ls hP hD hS (lv_sub hl [] rfl) hJ
        · have hJ := ite_f c4 hJ
          refine lv_iconst (v := 4) hx hb dX8_takesDigits_87 (by decide) ?_
          refine lv_goto (tgt := 92) hx hb dX8_takesDigits_88 (by decide) ?_
          exact L92 v_readAt v_kind v_number (4 : Int32) H locs ls hP hD hS (lv_sub hl [] rfl) hJ
      · have hJ := ite_f c3 hJ
        refine lv_aload_n hx hb dX8_takesDigits_16 rfl (lv_at hl 0 rfl) ?_
        refine lv_aload_n hx hb dX8_takesDigits_17 rfl (lv_at hl 0 rfl) ?_
        refine va_get (D := (dC, dI)) (ci := 8) (v := .int v_readAt) (C := RX8) (T := TX8) (N := 27) hx hb hts (fun _ h => List.mem_cons_of_mem _ (List.mem_append_right _ h)) hown hK hP 0 rfl rfl 18 (by decide) (hts _ (List.mem_of_getElem? (i := 2) rfl)) (fun _ h9 => h9) rfl dX8_takesDigits_18 ?_
        refine lv_aload_n hx hb dX8_takesDigits_21 rfl (lv_at hl 0 rfl) ?_
        refine va_get (D := (dC, dI)) (ci := 8) (v := .int v_start) (C := RX8) (T := TX8) (N := 27) hx hb hts (fun _ h => List.mem_cons_of_mem _ (List.mem_append_right _ h)) hown hK hP 0 rfl rfl 19 (by decide) (hts _ (List.mem_of_getElem? (i := 3) rfl)) (fun _ h9 => h9) rfl dX8_takesDigits_22 ?_
        refine lv_isub hx hb dX8_takesDigits_25 ?_
        refine lv_iconst (v := 3) hx hb dX8_takesDigits_26 (by decide) ?_
        refine lv_icmp_ge (tgt := 53) hx hb dX8_takesDigits_27 (by decide) (fun c5 => ?_) (fun c5 => ?_)
        · have hJ := ite_t c5 hJ
          refine lv_aload_n hx hb dX8_takesDigits_53 rfl (lv_at hl 0 rfl) ?_
          refine va_get (D := (dC, dI)) (ci := 8) (v := .int v_number) (C := RX8) (T := TX8) (N := 27) hx hb hts (fun _ h => List.mem_cons_of_mem _ (List.mem_append_right _ h)) hown hK hP 0 rfl rfl 23 (by decide) (hts _ (List.mem_of_getElem? (i := 1) rfl)) (fun _ h9 => h9) rfl dX8_takesDigits_54 ?_
          refine va_put (D := (dC, dI)) (ci := 8) (v := .int v_number) (ty := .int) (C := RX8) (T := TX8) (N := 27) hx hb hts (fun _ h => List.mem_cons_of_mem _ (List.mem_append_right _ h)) tyX8 tyX8_ok nmX8 hown hK hP hD hS 0 rfl rfl 23 (by decide) (hts _ (List.mem_of_getElem? (i := 1) rfl)) (fun _ h9 => h9) rfl (by decide +kernel) rfl rfl (Nat.le_of_ble_eq_true rfl) dX8_takesDigits_57 (fun H locs hP hD hS => ?_)
          have hP : va_P (dC, dI) vwCl (MWc a kI kB kZ v_tape v_taped v_errorAt v_thrown v_world v_aside v_undone v_slots v_isKept v_undos v_seenPrefix v_seenLast v_seen v_previous v_gained v_gains v_decoded v_decodes v_readAt v_start v_kind v_word v_letters v_number v_fine v_text v_texted) H := hP
          have hD : va_D A (MWc a kI kB kZ v_tape v_taped v_errorAt v_thrown v_world v_aside v_undone v_slots v_isKept v_undos v_seenPrefix v_seenLast v_seen v_previous v_gained v_gains v_decoded v_decodes v_readAt v_start v_kind v_word v_letters v_number v_fine v_text v_texted) := hD
          refine lv_aload_n hx hb dX8_takesDigits_60 rfl (lv_at hl 0 rfl) ?_
          refine lv_dup hx hb dX8_takesDigits_61 rfl ?_
          refine va_get (D := (dC, dI)) (ci := 8) (v := .int v_readAt) (C := RX8) (T := TX8) (N := 27) hx hb hts (fun _ h => List.mem_cons_of_mem _ (List.mem_append_right _ h)) hown hK hP 0 rfl rfl 18 (by decide) (hts _ (List.mem_of_getElem? (i := 2) rfl)) (fun _ h9 => h9) rfl dX8_takesDigits_62 ?_
          refine lv_iconst (v := 1) hx hb dX8_takesDigits_65 (by decide) ?_
          refine lv_iadd hx hb dX8_takesDigits_66 ?_
          refine va_put (D := (dC, dI)) (ci := 8) (v := .int (v_readAt + (1 : Int32))) (ty := .int) (C := RX8) (T := TX8) (N := 27) hx hb hts (fun _ h => List.mem_cons_of_mem _ (List.mem_append_right _ h)) tyX8 tyX8_ok nmX8 hown hK hP hD hS 0 rfl rfl 18 (by decide) (hts _ (List.mem_of_getElem? (i := 2) rfl)) (fun _ h9 => h9) rfl (by decide +kernel) rfl rfl (Nat.le_of_ble_eq_true rfl) dX8_takesDigits_67 (fun H locs hP hD hS => ?_)
          have hP : va_P (dC, dI) vwCl (MWc a kI kB kZ v_tape v_taped v_errorAt v_thrown v_world v_aside v_undone v_slots v_isKept v_undos v_seenPrefix v_seenLast v_seen v_previous v_gained v_gains v_decoded v_decodes (v_readAt + (1 : Int32)) v_start v_kind v_word v_letters v_number v_fine v_text v_texted) H := hP
          have hD : va_D A (MWc a kI kB kZ v_tape v_taped v_errorAt v_thrown v_world v_aside v_undone v_slots v_isKept v_undos v_seenPrefix v_seenLast v_seen v_previous v_gained v_gains v_decoded v_decodes (v_readAt + (1 : Int32)) v_start v_kind v_word v_letters v_number v_fine v_text v_texted) := hD
          refine lv_goto (tgt := 5) hx hb dX8_takesDigits_70 (by decide) ?_
          exact ih (v_readAt + (1 : Int32)) v_kind v_number H locs ls hP hD hS (lv_sub hl [0] rfl) hJ
        · have hJ := ite_f c5 hJ
          refine lv_bipush (v := 10) hx hb dX8_takesDigits_30 (by decide) ?_
          refine lv_aload_n hx hb dX8_takesDigits_32 rfl (lv_at hl 0 rfl) ?_
          refine va_get (D := (dC, dI)) (ci := 8) (v := .int v_number) (C := RX8) (T := TX8) (N := 27) hx hb hts (fun _ h => List.mem_cons_of_mem _ (List.mem_append_right _ h)) hown hK hP 0 rfl rfl 23 (by decide) (hts _ (List.mem_of_getElem? (i := 1) rfl)) (fun _ h9 => h9) rfl dX8_takesDigits_33 ?_
          refine lv_imul hx hb dX8_takesDigits_36 ?_
          refine lv_aload_n hx hb dX8_takesDigits_37 rfl (lv_at hl 0 rfl) ?_
          refine va_get (D := (dC, dI)) (ci := 8) (v := .ref (a 1)) (C := RX8) (T := TX8) (N := 27) hx hb hts (fun _ h => List.mem_cons_of_mem _ (List.mem_append_right _ h)) hown hK hP 0 rfl rfl 0 (by decide) (hts _ (List.mem_of_getElem? (i := 4) rfl)) (fun _ h9 => h9) rfl dX8_takesDigits_38 ?_
          refine lv_aload_n hx hb dX8_takesDigits_41 rfl (lv_at hl 0 rfl) ?_
          refine va_get (D := (dC, dI)) (ci := 8) (v := .int v_readAt) (C := RX8) (T := TX8) (N := 27) hx hb hts (fun _ h => List.mem_cons_of_mem _ (List.mem_append_right _ h)) hown hK hP 0 rfl rfl 18 (by decide) (hts _ (List.mem_of_getElem? (i := 2) rfl)) (fun _ h9 => h9) rfl dX8_takesDigits_42 ?_
          obtain ⟨z6, e7, hJ⟩ := bnd hJ
          refine rd_byte (n := 800) (f := v_tape) hx hb hK hP 1 1 rfl rfl e7 dX8_takesDigits_45 ?_
          refine lv_iadd hx hb dX8_takesDigits_46 ?_
          refine lv_bipush (v := 48) hx hb dX8_takesDigits_47 (by decide) ?_
          refine lv_isub hx hb dX8_takesDigits_49 ?_
          refine lv_goto (tgt := 57) hx hb dX8_takesDigits_50 (by decide) ?_
          refine va_put (D := (dC, dI)) (ci := 8) (v := .int ((((10 : Int32) * v_number) + z6) - (48 : Int32))) (ty := .int) (C := RX8) (T := TX8) (N := 27) hx hb hts (fun _ h => List.mem_cons_of_mem _ (List.mem_append_right _ h)) tyX8 tyX8_ok nmX8 hown hK hP hD hS 0 rfl rfl 23 (by decide) (hts _ (List.mem_of_getElem? (i := 1) rfl)) (fun _ h9 => h9) rfl (by decide +kernel) rfl rfl (Nat.le_of_ble_eq_true rfl) dX8_takesDigits_57 (fun H locs hP hD hS => ?_)
          have hP : va_P (dC, dI) vwCl (MWc a kI kB kZ v_tape v_taped v_errorAt v_thrown v_world v_aside v_undone v_slots v_isKept v_undos v_seenPrefix v_seenLast v_seen v_previous v_gained v_gains v_decoded v_decodes v_readAt v_start v_kind v_word v_letters ((((10 : Int32) * v_number) + z6) - (48 : Int32)) v_fine v_text v_texted) H := hP
          have hD : va_D A (MWc a kI kB kZ v_tape v_taped v_errorAt v_thrown v_world v_aside v_undone v_slots v_isKept v_undos v_seenPrefix v_seenLast v_seen v_previous v_gained v_gains v_decoded v_decodes v_readAt v_start v_kind v_word v_letters ((((10 : Int32) * v_number) + z6) - (48 : Int32)) v_fine v_text v_texted) := hD
          refine lv_aload_n hx hb dX8_takesDigits_60 rfl (lv_at hl 0 rfl) ?_
          refine lv_dup hx hb dX8_takesDigits_61 rfl ?_
          refine va_get (D := (dC, dI)) (ci := 8) (v := .int v_readAt) (C := RX8) (T := TX8) (N := 27) hx hb hts (fun _ h => List.mem_cons_of_mem _ (List.mem_append_right _ h)) hown hK hP 0 rfl rfl 18 (by decide) (hts _ (List.mem_of_getElem? (i := 2) rfl)) (fun _ h9 => h9) rfl dX8_takesDigits_62 ?_
          refine lv_iconst (v := 1) hx hb dX8_takesDigits_65 (by decide) ?_
          refine lv_iadd hx hb dX8_takesDigits_66 ?_
          refine va_put (D := (dC, dI)) (ci := 8) (v := .int (v_readAt + (1 : Int32))) (ty := .int) (C := RX8) (T := TX8) (N := 27) hx hb hts (fun _ h => List.mem_cons_of_mem _ (List.mem_append_right _ h)) tyX8 tyX8_ok nmX8 hown hK hP hD hS 0 rfl rfl 18 (by decide) (hts _ (List.mem_of_getElem? (i := 2) rfl)) (fun _ h9 => h9) rfl (by decide +kernel) rfl rfl (Nat.le_of_ble_eq_true rfl) dX8_takesDigits_67 (fun H locs hP hD hS => ?_)
          have hP : va_P (dC, dI) vwCl (MWc a kI kB kZ v_tape v_taped v_errorAt v_thrown v_world v_aside v_undone v_slots v_isKept v_undos v_seenPrefix v_seenLast v_seen v_previous v_gained v_gains v_decoded v_decodes (v_readAt + (1 : Int32)) v_start v_kind v_word v_letters ((((10 : Int32) * v_number) + z6) - (48 : Int32)) v_fine v_text v_texted) H := hP
          have hD : va_D A (MWc a kI kB kZ v_tape v_taped v_errorAt v_thrown v_world v_aside v_undone v_slots v_isKept v_undos v_seenPrefix v_seenLast v_seen v_previous v_gained v_gains v_decoded v_decodes (v_readAt + (1 : Int32)) v_start v_kind v_word v_letters ((((10 : Int32) * v_number) + z6) - (48 : Int32)) v_fine v_text v_texted) := hD
          refine lv_goto (tgt := 5) hx hb dX8_takesDigits_70 (by decide) ?_
          exact ih (v_readAt + (1 : Int32)) v_kind ((((10 : Int32) * v_number) + z6) - (48 : Int32)) H locs ls hP hD hS (lv_sub hl [0] rfl) hJ
  refine lv_aload_n hx hb dX8_takesDigits_0 rfl (lv_at hl 0 rfl) ?_
  refine lv_iconst (v := 0) hx hb dX8_takesDigits_1 (by decide) ?_
  refine va_put (D := (dC, dI)) (ci := 8) (v := .int (0 : Int32)) (ty := .int) (C := RX8) (T := TX8) (N := 27) hx hb hts (fun _ h => List.mem_cons_of_mem _ (List.mem_append_right _ h)) tyX8 tyX8_ok nmX8 hown hK hP hD hS 0 rfl rfl 23 (by decide) (hts _ (List.mem_of_getElem? (i := 1) rfl)) (fun _ h9 => h9) rfl (by decide +kernel) rfl rfl (Nat.le_of_ble_eq_true rfl) dX8_takesDigits_2 (fun H locs hP hD hS => ?_)
  have hP : va_P (dC, dI) vwCl (MWc a kI kB kZ v_tape v_taped v_errorAt v_thrown v_world v_aside v_undone v_slots v_isKept v_undos v_seenPrefix v_seenLast v_seen v_previous v_gained v_gains v_decoded v_decodes v_readAt v_start v_kind v_word v_letters (0 : Int32) v_fine v_text v_texted) H := hP
  have hD : va_D A (MWc a kI kB kZ v_tape v_taped v_errorAt v_thrown v_world v_aside v_undone v_slots v_isKept v_undos v_seenPrefix v_seenLast v_seen v_previous v_gained v_gains v_decoded v_decodes v_readAt v_start v_kind v_word v_letters (0 : Int32) v_fine v_text v_texted) := hD
  exact L5 fu v_readAt v_kind (0 : Int32) H locs ls hP hD hS (lv_sub hl [0] rfl) hJ
theorem qX8_nextToken : (yX8_nextToken.cls = RX8) ∧ yX8_nextToken.cls ≠ "java/lang/invoke/MethodHandle" ∧ yX8_nextToken.cls ≠ "java/lang/invoke/VarHandle" ∧ (parseMethodDescriptor yX8_nextToken.desc).map (fun d => d.parameters.length) = some 0 := by decide +kernel
set_option maxHeartbeats 4000000 in
set_option maxRecDepth 100000 in
theorem c_X8_nextToken (fu : Nat) (l : Launch) (dC : Nat → ClassId) (dI : Nat → Nat → Nat) (kI kB kZ : ClassId) (a : Nat → Nat) (v_tape : Nat → Int32) (v_taped : Int32) (v_errorAt : Int32) (v_thrown : Int32) (v_world : Nat → Int32) (v_aside : Nat → Int32) (v_undone : Nat → Int32) (v_slots : Nat → Int32) (v_isKept : Nat → Int32) (v_undos : Int32) (v_seenPrefix : Nat → Int32) (v_seenLast : Nat → Int32) (v_seen : Int32) (v_previous : Int32) (v_gained : Nat → Int32) (v_gains : Int32) (v_decoded : Nat → Int32) (v_decodes : Int32) (v_readAt : Int32) (v_start : Int32) (v_kind : Int32) (v_word : Int64) (v_letters : Int32) (v_number : Int32) (v_fine : Int32) (v_text : Nat → Int32) (v_texted : Int32) (sz : Nat) (z : Int32 × Int32 × Int32 × Int64 × Int32 × Int32) (hJ : J_X8_nextToken fu v_tape v_taped v_readAt v_start v_kind v_word v_letters v_number = some z) : Met l yX8_nextToken wsX8_nextToken ({ frames := 2, cells := 0, slots := 0, locals := 42 }) (va_Pc [.ref (a 0)] (RWp dC dI sz (MWc a kI kB kZ v_tape v_taped v_errorAt v_thrown v_world v_aside v_undone v_slots v_isKept v_undos v_seenPrefix v_seenLast v_seen v_previous v_gained v_gains v_decoded v_decodes v_readAt v_start v_kind v_word v_letters v_number v_fine v_text v_texted) [(kI, .int), (kB, .byte), (kZ, .boolean)])) (rwQv dC dI (va_A (MWc a kI kB kZ v_tape v_taped v_errorAt v_thrown v_world v_aside v_undone v_slots v_isKept v_undos v_seenPrefix v_seenLast v_seen v_previous v_gained v_gains v_decoded v_decodes v_readAt v_start v_kind v_word v_letters v_number v_fine v_text v_texted) sz) (MWc a kI kB kZ v_tape v_taped v_errorAt v_thrown v_world v_aside v_undone v_slots v_isKept v_undos v_seenPrefix v_seenLast v_seen v_previous v_gained v_gains v_decoded v_decodes z.1 z.2.1 z.2.2.1 z.2.2.2.1 z.2.2.2.2.1 z.2.2.2.2.2 v_fine v_text v_texted)) 0 0 (va_A (MWc a kI kB kZ v_tape v_taped v_errorAt v_thrown v_world v_aside v_undone v_slots v_isKept v_undos v_seenPrefix v_seenLast v_seen v_previous v_gained v_gains v_decoded v_decodes v_readAt v_start v_kind v_word v_letters v_number v_fine v_text v_texted) sz) := by
  refine rw_start (Qc := fun A => rwQv dC dI A (MWc a kI kB kZ v_tape v_taped v_errorAt v_thrown v_world v_aside v_undone v_slots v_isKept v_undos v_seenPrefix v_seenLast v_seen v_previous v_gained v_gains v_decoded v_decodes z.1 z.2.1 z.2.2.1 z.2.2.2.1 z.2.2.2.2.1 z.2.2.2.2.2 v_fine v_text v_texted)) (cc := cX8_nextToken) (maxL := 1) (ret := none) (by decide) rfl (Nat.le_of_ble_eq_true rfl) ?_
  intro p e s m args below meth c hx hb hr hml hown hts hlocks hNW hK A hA H locs ls hP hD hS hl
  have hown : s.vm.findClass RX8 = some m.cls := hown
  have hl : lv_has ls 1 [(0, .ref (a 0))] := hl
  unfold J_X8_nextToken at hJ
  have L135 : ∀ (v_readAt : Int32) (v_start : Int32) (v_kind : Int32) (v_word : Int64) (v_letters : Int32) (v_number : Int32) (k1 : Int32) (H : Heap) (locs : List Loc) (ls : Array Slot), va_P (dC, dI) vwCl (MWc a kI kB kZ v_tape v_taped v_errorAt v_thrown v_world v_aside v_undone v_slots v_isKept v_undos v_seenPrefix v_seenLast v_seen v_previous v_gained v_gains v_decoded v_decodes v_readAt v_start v_kind v_word v_letters v_number v_fine v_text v_texted) H → va_D A (MWc a kI kB kZ v_tape v_taped v_errorAt v_thrown v_world v_aside v_undone v_slots v_isKept v_undos v_seenPrefix v_seenLast v_seen v_previous v_gained v_gains v_decoded v_decodes v_readAt v_start v_kind v_word v_letters v_number v_fine v_text v_texted) → va_S A s.heap H locs → lv_has ls 1 [(0, .ref (a 0))] → J_X8_nextToken_b135 fu v_tape v_taped v_readAt v_start v_kind v_word v_letters v_number k1 = some z → W p l e ({ frames := 2, cells := 0, slots := 0, locals := 42 }) s m args below meth c H locs 0 0 (MQ below (rwQv dC dI A (MWc a kI kB kZ v_tape v_taped v_errorAt v_thrown v_world v_aside v_undone v_slots v_isKept v_undos v_seenPrefix v_seenLast v_seen v_previous v_gained v_gains v_decoded v_decodes z.1 z.2.1 z.2.2.1 z.2.2.2.1 z.2.2.2.2.1 z.2.2.2.2.2 v_fine v_text v_texted)) args s 0 0 (A)) (F0 m 135 ls [.int k1, .ref (a 0)]) := by
    intro v_readAt v_start v_kind v_word v_letters v_number k1 H locs ls hP hD hS hl hJ
    unfold J_X8_nextToken_b135 at hJ
    refine va_put (D := (dC, dI)) (ci := 8) (v := .int k1) (ty := .int) (C := RX8) (T := TX8) (N := 27) hx hb hts (fun _ h => List.mem_cons_of_mem _ (List.mem_append_right _ h)) tyX8 tyX8_ok nmX8 hown hK hP hD hS 0 rfl rfl 20 (by decide) (hts _ (List.mem_of_getElem? (i := 5) rfl)) (fun _ h9 => h9) rfl (by decide +kernel) rfl rfl (Nat.le_of_ble_eq_true rfl) dX8_nextToken_135 (fun H locs hP hD hS => ?_)
    have hP : va_P (dC, dI) vwCl (MWc a kI kB kZ v_tape v_taped v_errorAt v_thrown v_world v_aside v_undone v_slots v_isKept v_undos v_seenPrefix v_seenLast v_seen v_previous v_gained v_gains v_decoded v_decodes v_readAt v_start k1 v_word v_letters v_number v_fine v_text v_texted) H := hP
    have hD : va_D A (MWc a kI kB kZ v_tape v_taped v_errorAt v_thrown v_world v_aside v_undone v_slots v_isKept v_undos v_seenPrefix v_seenLast v_seen v_previous v_gained v_gains v_decoded v_decodes v_readAt v_start k1 v_word v_letters v_number v_fine v_text v_texted) := hD
    refine lv_aload_n hx hb dX8_nextToken_138 rfl (lv_at hl 0 rfl) ?_
    refine lv_dup hx hb dX8_nextToken_139 rfl ?_
    refine va_get (D := (dC, dI)) (ci := 8) (v := .int v_readAt) (C := RX8) (T := TX8) (N := 27) hx hb hts (fun _ h => List.mem_cons_of_mem _ (List.mem_append_right _ h)) hown hK hP 0 rfl rfl 18 (by decide) (hts _ (List.mem_of_getElem? (i := 1) rfl)) (fun _ h9 => h9) rfl dX8_nextToken_140 ?_
    refine lv_iconst (v := 1) hx hb dX8_nextToken_143 (by decide) ?_
    refine lv_iadd hx hb dX8_nextToken_144 ?_
    refine va_put (D := (dC, dI)) (ci := 8) (v := .int (v_readAt + (1 : Int32))) (ty := .int) (C := RX8) (T := TX8) (N := 27) hx hb hts (fun _ h => List.mem_cons_of_mem _ (List.mem_append_right _ h)) tyX8 tyX8_ok nmX8 hown hK hP hD hS 0 rfl rfl 18 (by decide) (hts _ (List.mem_of_getElem? (i := 1) rfl)) (fun _ h9 => h9) rfl (by decide +kernel) rfl rfl (Nat.le_of_ble_eq_true rfl) dX8_nextToken_145 (fun H locs hP hD hS => ?_)
    have hP : va_P (dC, dI) vwCl (MWc a kI kB kZ v_tape v_taped v_errorAt v_thrown v_world v_aside v_undone v_slots v_isKept v_undos v_seenPrefix v_seenLast v_seen v_previous v_gained v_gains v_decoded v_decodes (v_readAt + (1 : Int32)) v_start k1 v_word v_letters v_number v_fine v_text v_texted) H := hP
    have hD : va_D A (MWc a kI kB kZ v_tape v_taped v_errorAt v_thrown v_world v_aside v_undone v_slots v_isKept v_undos v_seenPrefix v_seenLast v_seen v_previous v_gained v_gains v_decoded v_decodes (v_readAt + (1 : Int32)) v_start k1 v_word v_letters v_number v_fine v_text v_texted) := hD
    obtain rfl := Option.some.inj hJ
    exact rw_vret hx hb hr hlocks hP hD hS dX8_nextToken_148
  have L52 : ∀ (v_readAt : Int32) (v_start : Int32) (v_kind : Int32) (v_word : Int64) (v_letters : Int32) (v_number : Int32) (H : Heap) (locs : List Loc) (ls : Array Slot), va_P (dC, dI) vwCl (MWc a kI kB kZ v_tape v_taped v_errorAt v_thrown v_world v_aside v_undone v_slots v_isKept v_undos v_seenPrefix v_seenLast v_seen v_previous v_gained v_gains v_decoded v_decodes v_readAt v_start v_kind v_word v_letters v_number v_fine v_text v_texted) H → va_D A (MWc a kI kB kZ v_tape v_taped v_errorAt v_thrown v_world v_aside v_undone v_slots v_isKept v_undos v_seenPrefix v_seenLast v_seen v_previous v_gained v_gains v_decoded v_decodes v_readAt v_start v_kind v_word v_letters v_number v_fine v_text v_texted) → va_S A s.heap H locs → lv_has ls 1 [(0, .ref (a 0))] → J_X8_nextToken_b52 fu v_tape v_taped v_readAt v_start v_kind v_word v_letters v_number = some z → W p l e ({ frames := 2, cells := 0, slots := 0, locals := 42 }) s m args below meth c H locs 0 0 (MQ below (rwQv dC dI A (MWc a kI kB kZ v_tape v_taped v_errorAt v_thrown v_world v_aside v_undone v_slots v_isKept v_undos v_seenPrefix v_seenLast v_seen v_previous v_gained v_gains v_decoded v_decodes z.1 z.2.1 z.2.2.1 z.2.2.2.1 z.2.2.2.2.1 z.2.2.2.2.2 v_fine v_text v_texted)) args s 0 0 (A)) (F0 m 52 ls []) := by
    intro v_readAt v_start v_kind v_word v_letters v_number H locs ls hP hD hS hl hJ
    unfold J_X8_nextToken_b52 at hJ
    refine lv_aload_n hx hb dX8_nextToken_52 rfl (lv_at hl 0 rfl) ?_
    refine lv_aload_n hx hb dX8_nextToken_53 rfl (lv_at hl 0 rfl) ?_
    refine va_get (D := (dC, dI)) (ci := 8) (v := .int v_readAt) (C := RX8) (T := TX8) (N := 27) hx hb hts (fun _ h => List.mem_cons_of_mem _ (List.mem_append_right _ h)) hown hK hP 0 rfl rfl 18 (by decide) (hts _ (List.mem_of_getElem? (i := 1) rfl)) (fun _ h9 => h9) rfl dX8_nextToken_54 ?_
    refine va_put (D := (dC, dI)) (ci := 8) (v := .int v_readAt) (ty := .int) (C := RX8) (T := TX8) (N := 27) hx hb hts (fun _ h => List.mem_cons_of_mem _ (List.mem_append_right _ h)) tyX8 tyX8_ok nmX8 hown hK hP hD hS 0 rfl rfl 19 (by decide) (hts _ (List.mem_of_getElem? (i := 4) rfl)) (fun _ h9 => h9) rfl (by decide +kernel) rfl rfl (Nat.le_of_ble_eq_true rfl) dX8_nextToken_57 (fun H locs hP hD hS => ?_)
    have hP : va_P (dC, dI) vwCl (MWc a kI kB kZ v_tape v_taped v_errorAt v_thrown v_world v_aside v_undone v_slots v_isKept v_undos v_seenPrefix v_seenLast v_seen v_previous v_gained v_gains v_decoded v_decodes v_readAt v_readAt v_kind v_word v_letters v_number v_fine v_text v_texted) H := hP
    have hD : va_D A (MWc a kI kB kZ v_tape v_taped v_errorAt v_thrown v_world v_aside v_undone v_slots v_isKept v_undos v_seenPrefix v_seenLast v_seen v_previous v_gained v_gains v_decoded v_decodes v_readAt v_readAt v_kind v_word v_letters v_number v_fine v_text v_texted) := hD
    refine lv_aload_n hx hb dX8_nextToken_60 rfl (lv_at hl 0 rfl) ?_
    refine va_get (D := (dC, dI)) (ci := 8) (v := .int v_readAt) (C := RX8) (T := TX8) (N := 27) hx hb hts (fun _ h => List.mem_cons_of_mem _ (List.mem_append_right _ h)) hown hK hP 0 rfl rfl 18 (by decide) (hts _ (List.mem_of_getElem? (i := 1) rfl)) (fun _ h9 => h9) rfl dX8_nextToken_61 ?_
    refine lv_aload_n hx hb dX8_nextToken_64 rfl (lv_at hl 0 rfl) ?_
    refine va_get (D := (dC, dI)) (ci := 8) (v := .int v_taped) (C := RX8) (T := TX8) (N := 27) hx hb hts (fun _ h => List.mem_cons_of_mem _ (List.mem_append_right _ h)) hown hK hP 0 rfl rfl 1 (by decide) (hts _ (List.mem_of_getElem? (i := 2) rfl)) (fun _ h9 => h9) rfl dX8_nextToken_65 ?_
    refine lv_icmp_ne (tgt := 79) hx hb dX8_nextToken_68 (by decide) (fun c8 => ?_) (fun c8 => ?_)
    · have hJ := ite_f c8 hJ
      refine lv_aload_n hx hb dX8_nextToken_79 rfl (lv_at hl 0 rfl) ?_
      refine lv_bipush (v := 97) hx hb dX8_nextToken_80 (by decide) ?_
      refine lv_bipush (v := 122) hx hb dX8_nextToken_82 (by decide) ?_
      obtain ⟨z9, e10, hJ⟩ := bnd hJ
      refine roVi (As := [.int (97 : Int32), .int (122 : Int32)]) (rest := []) (ci := 8) (q0 := 0) hx hb hml hown hts (c_X8_isByte l dC dI kI kB kZ a v_tape v_taped v_errorAt v_thrown v_world v_aside v_undone v_slots v_isKept v_undos v_seenPrefix v_seenLast v_seen v_previous v_gained v_gains v_decoded v_decodes v_readAt v_readAt v_kind v_word v_letters v_number v_fine v_text v_texted (97 : Int32) (122 : Int32) z9 e10) gX8_nextToken_X8_isByte qX8_isByte rfl ⟨Nat.le_of_ble_eq_true rfl, Nat.le_of_ble_eq_true rfl⟩ ⟨rfl, rfl⟩ hNW hK hP hS hP hK rfl rfl rfl hl.1 rfl rfl (Nat.le_of_ble_eq_true rfl) dX8_nextToken_84 z0 (fun H locs hP hS => ?_)
      refine lv_if_eq (tgt := 97) hx hb dX8_nextToken_87 (by decide) (fun c11 => ?_) (fun c11 => ?_)
      · have hJ := ite_t c11 hJ
        refine lv_aload_n hx hb dX8_nextToken_97 rfl (lv_at hl 0 rfl) ?_
        refine lv_bipush (v := 48) hx hb dX8_nextToken_98 (by decide) ?_
        refine lv_bipush (v := 57) hx hb dX8_nextToken_100 (by decide) ?_
        obtain ⟨z12, e13, hJ⟩ := bnd hJ
        refine roVi (As := [.int (48 : Int32), .int (57 : Int32)]) (rest := []) (ci := 8) (q0 := 0) hx hb hml hown hts (c_X8_isByte l dC dI kI kB kZ a v_tape v_taped v_errorAt v_thrown v_world v_aside v_undone v_slots v_isKept v_undos v_seenPrefix v_seenLast v_seen v_previous v_gained v_gains v_decoded v_decodes v_readAt v_readAt v_kind v_word v_letters v_number v_fine v_text v_texted (48 : Int32) (57 : Int32) z12 e13) gX8_nextToken_X8_isByte qX8_isByte rfl ⟨Nat.le_of_ble_eq_true rfl, Nat.le_of_ble_eq_true rfl⟩ ⟨rfl, rfl⟩ hNW hK hP hS hP hK rfl rfl rfl hl.1 rfl rfl (Nat.le_of_ble_eq_true rfl) dX8_nextToken_102 z0 (fun H locs hP hS => ?_)
        refine lv_if_eq (tgt := 115) hx hb dX8_nextToken_105 (by decide) (fun c14 => ?_) (fun c14 => ?_)
        · have hJ := ite_t c14 hJ
          refine lv_aload_n hx hb dX8_nextToken_115 rfl (lv_at hl 0 rfl) ?_
          refine lv_aload_n hx hb dX8_nextToken_116 rfl (lv_at hl 0 rfl) ?_
          refine va_get (D := (dC, dI)) (ci := 8) (v := .ref (a 1)) (C := RX8) (T := TX8) (N := 27) hx hb hts (fun _ h => List.mem_cons_of_mem _ (List.mem_append_right _ h)) hown hK hP 0 rfl rfl 0 (by decide) (hts _ (List.mem_of_getElem? (i := 3) rfl)) (fun _ h9 => h9) rfl dX8_nextToken_117 ?_
          refine lv_aload_n hx hb dX8_nextToken_120 rfl (lv_at hl 0 rfl) ?_
          refine va_get (D := (dC, dI)) (ci := 8) (v := .int v_readAt) (C := RX8) (T := TX8) (N := 27) hx hb hts (fun _ h => List.mem_cons_of_mem _ (List.mem_append_right _ h)) hown hK hP 0 rfl rfl 18 (by decide) (hts _ (List.mem_of_getElem? (i := 1) rfl)) (fun _ h9 => h9) rfl dX8_nextToken_121 ?_
          obtain ⟨z15, e16, hJ⟩ := bnd hJ
          refine rd_byte (n := 800) (f := v_tape) hx hb hK hP 1 1 rfl rfl e16 dX8_nextToken_124 ?_
          refine lv_bipush (v := 59) hx hb dX8_nextToken_125 (by decide) ?_
          refine lv_icmp_ne (tgt := 134) hx hb dX8_nextToken_127 (by decide) (fun c17 => ?_) (fun c17 => ?_)
          · have hJ := ite_f c17 hJ
            refine lv_iconst (v := 4) hx hb dX8_nextToken_134 (by decide) ?_
            exact L135 v_readAt v_readAt v_kind v_word v_letters v_number (4 : Int32) H locs ls hP hD hS (lv_sub hl [0] rfl) hJ
          · have hJ := ite_t c17 hJ
            refine lv_iconst (v := 3) hx hb dX8_nextToken_130 (by decide) ?_
            refine lv_goto (tgt := 135) hx hb dX8_nextToken_131 (by decide) ?_
            exact L135 v_readAt v_readAt v_kind v_word v_letters v_number (3 : Int32) H locs ls hP hD hS (lv_sub hl [0] rfl) hJ
        · have hJ := ite_f c14 hJ
          refine lv_aload_n hx hb dX8_nextToken_108 rfl (lv_at hl 0 rfl) ?_
          obtain ⟨z18, e19, hJ⟩ := bnd hJ
          refine rwVvW (As := []) (rest := []) (ci := 8) (q0 := 0) hx hb hml hown hts (c_X8_takesDigits fu l dC dI kI kB kZ a v_tape v_taped v_errorAt v_thrown v_world v_aside v_undone v_slots v_isKept v_undos v_seenPrefix v_seenLast v_seen v_previous v_gained v_gains v_decoded v_decodes v_readAt v_readAt v_kind v_word v_letters v_number v_fine v_text v_texted H.size z18 e19) gX8_nextToken_X8_takesDigits qX8_takesDigits rfl ⟨Nat.le_of_ble_eq_true rfl, Nat.le_of_ble_eq_true rfl⟩ ⟨rfl, rfl⟩ hNW hK hP hD hS hA hK rfl rfl rfl hl.1 rfl rfl (Nat.le_of_ble_eq_true rfl) dX8_nextToken_109 z0 (fun H locs hP hD hS => ?_)
          refine lv_goto (tgt := 148) hx hb dX8_nextToken_112 (by decide) ?_
          obtain rfl := Option.some.inj hJ
          exact rw_vret hx hb hr hlocks hP hD hS dX8_nextToken_148
      · have hJ := ite_f c11 hJ
        refine lv_aload_n hx hb dX8_nextToken_90 rfl (lv_at hl 0 rfl) ?_
        obtain ⟨z20, e21, hJ⟩ := bnd hJ
        refine rwVvW (As := []) (rest := []) (ci := 8) (q0 := 0) hx hb hml hown hts (c_X8_takesLetters fu l dC dI kI kB kZ a v_tape v_taped v_errorAt v_thrown v_world v_aside v_undone v_slots v_isKept v_undos v_seenPrefix v_seenLast v_seen v_previous v_gained v_gains v_decoded v_decodes v_readAt v_readAt v_kind v_word v_letters v_number v_fine v_text v_texted H.size z20 e21) gX8_nextToken_X8_takesLetters qX8_takesLetters rfl ⟨Nat.le_of_ble_eq_true rfl, Nat.le_of_ble_eq_true rfl⟩ ⟨rfl, rfl⟩ hNW hK hP hD hS hA hK rfl rfl rfl hl.1 rfl rfl (Nat.le_of_ble_eq_true rfl) dX8_nextToken_91 z0 (fun H locs hP hD hS => ?_)
        refine lv_goto (tgt := 148) hx hb dX8_nextToken_94 (by decide) ?_
        obtain rfl := Option.some.inj hJ
        exact rw_vret hx hb hr hlocks hP hD hS dX8_nextToken_148
    · have hJ := ite_t c8 hJ
      refine lv_aload_n hx hb dX8_nextToken_71 rfl (lv_at hl 0 rfl) ?_
      refine lv_iconst (v := 0) hx hb dX8_nextToken_72 (by decide) ?_
      refine va_put (D := (dC, dI)) (ci := 8) (v := .int (0 : Int32)) (ty := .int) (C := RX8) (T := TX8) (N := 27) hx hb hts (fun _ h => List.mem_cons_of_mem _ (List.mem_append_right _ h)) tyX8 tyX8_ok nmX8 hown hK hP hD hS 0 rfl rfl 20 (by decide) (hts _ (List.mem_of_getElem? (i := 5) rfl)) (fun _ h9 => h9) rfl (by decide +kernel) rfl rfl (Nat.le_of_ble_eq_true rfl) dX8_nextToken_73 (fun H locs hP hD hS => ?_)
      have hP : va_P (dC, dI) vwCl (MWc a kI kB kZ v_tape v_taped v_errorAt v_thrown v_world v_aside v_undone v_slots v_isKept v_undos v_seenPrefix v_seenLast v_seen v_previous v_gained v_gains v_decoded v_decodes v_readAt v_readAt (0 : Int32) v_word v_letters v_number v_fine v_text v_texted) H := hP
      have hD : va_D A (MWc a kI kB kZ v_tape v_taped v_errorAt v_thrown v_world v_aside v_undone v_slots v_isKept v_undos v_seenPrefix v_seenLast v_seen v_previous v_gained v_gains v_decoded v_decodes v_readAt v_readAt (0 : Int32) v_word v_letters v_number v_fine v_text v_texted) := hD
      refine lv_goto (tgt := 148) hx hb dX8_nextToken_76 (by decide) ?_
      obtain rfl := Option.some.inj hJ
      exact rw_vret hx hb hr hlocks hP hD hS dX8_nextToken_148
  have L0 : ∀ (n : Nat) (v_readAt : Int32) (v_start : Int32) (v_kind : Int32) (v_word : Int64) (v_letters : Int32) (v_number : Int32) (H : Heap) (locs : List Loc) (ls : Array Slot), va_P (dC, dI) vwCl (MWc a kI kB kZ v_tape v_taped v_errorAt v_thrown v_world v_aside v_undone v_slots v_isKept v_undos v_seenPrefix v_seenLast v_seen v_previous v_gained v_gains v_decoded v_decodes v_readAt v_start v_kind v_word v_letters v_number v_fine v_text v_texted) H → va_D A (MWc a kI kB kZ v_tape v_taped v_errorAt v_thrown v_world v_aside v_undone v_slots v_isKept v_undos v_seenPrefix v_seenLast v_seen v_previous v_gained v_gains v_decoded v_decodes v_readAt v_start v_kind v_word v_letters v_number v_fine v_text v_texted) → va_S A s.heap H locs → lv_has ls 1 [(0, .ref (a 0))] → J_X8_nextToken_b0 fu v_tape v_taped n v_readAt v_start v_kind v_word v_letters v_number = some z → W p l e ({ frames := 2, cells := 0, slots := 0, locals := 42 }) s m args below meth c H locs 0 0 (MQ below (rwQv dC dI A (MWc a kI kB kZ v_tape v_taped v_errorAt v_thrown v_world v_aside v_undone v_slots v_isKept v_undos v_seenPrefix v_seenLast v_seen v_previous v_gained v_gains v_decoded v_decodes z.1 z.2.1 z.2.2.1 z.2.2.2.1 z.2.2.2.2.1 z.2.2.2.2.2 v_fine v_text v_texted)) args s 0 0 (A)) (F0 m 0 ls []) := by
    intro n
    induction n with
    | zero =>
      intro v_readAt v_start v_kind v_word v_letters v_number H locs ls hP hD hS hl hJ
      rw [J_X8_nextToken_b0] at hJ; cases hJ
    | succ n ih =>
      intro v_readAt v_start v_kind v_word v_letters v_number H locs ls hP hD hS hl hJ
      rw [J_X8_nextToken_b0] at hJ
      refine lv_aload_n hx hb dX8_nextToken_0 rfl (lv_at hl 0 rfl) ?_
      refine va_get (D := (dC, dI)) (ci := 8) (v := .int v_readAt) (C := RX8) (T := TX8) (N := 27) hx hb hts (fun _ h => List.mem_cons_of_mem _ (List.mem_append_right _ h)) hown hK hP 0 rfl rfl 18 (by decide) (hts _ (List.mem_of_getElem? (i := 1) rfl)) (fun _ h9 => h9) rfl dX8_nextToken_1 ?_
      refine lv_aload_n hx hb dX8_nextToken_4 rfl (lv_at hl 0 rfl) ?_
      refine va_get (D := (dC, dI)) (ci := 8) (v := .int v_taped) (C := RX8) (T := TX8) (N := 27) hx hb hts (fun _ h => List.mem_cons_of_mem _ (List.mem_append_right _ h)) hown hK hP 0 rfl rfl 1 (by decide) (hts _ (List.mem_of_getElem? (i := 2) rfl)) (fun _ h9 => h9) rfl dX8_nextToken_5 ?_
      refine lv_icmp_ge (tgt := 52) hx hb dX8_nextToken_8 (by decide) (fun c22 => ?_) (fun c22 => ?_)
      · have hJ := ite_t c22 hJ
        exact L52 v_readAt v_start v_kind v_word v_letters v_number H locs ls hP hD hS (lv_sub hl [0] rfl) hJ
      · have hJ := ite_f c22 hJ
        refine lv_aload_n hx hb dX8_nextToken_11 rfl (lv_at hl 0 rfl) ?_
        refine va_get (D := (dC, dI)) (ci := 8) (v := .ref (a 1)) (C := RX8) (T := TX8) (N := 27) hx hb hts (fun _ h => List.mem_cons_of_mem _ (List.mem_append_right _ h)) hown hK hP 0 rfl rfl 0 (by decide) (hts _ (List.mem_of_getElem? (i := 3) rfl)) (fun _ h9 => h9) rfl dX8_nextToken_12 ?_
        refine lv_aload_n hx hb dX8_nextToken_15 rfl (lv_at hl 0 rfl) ?_
        refine va_get (D := (dC, dI)) (ci := 8) (v := .int v_readAt) (C := RX8) (T := TX8) (N := 27) hx hb hts (fun _ h => List.mem_cons_of_mem _ (List.mem_append_right _ h)) hown hK hP 0 rfl rfl 18 (by decide) (hts _ (List.mem_of_getElem? (i := 1) rfl)) (fun _ h9 => h9) rfl dX8_nextToken_16 ?_
        obtain ⟨z23, e24, hJ⟩ := bnd hJ
        refine rd_byte (n := 800) (f := v_tape) hx hb hK hP 1 1 rfl rfl e24 dX8_nextToken_19 ?_
        refine lv_bipush (v := 32) hx hb dX8_nextToken_20 (by decide) ?_
        refine lv_icmp_eq (tgt := 39) hx hb dX8_nextToken_22 (by decide) (fun c25 => ?_) (fun c25 => ?_)
        · have hJ := ite_t c25 hJ
          refine lv_aload_n hx hb dX8_nextToken_39 rfl (lv_at hl 0 rfl) ?_
          refine lv_dup hx hb dX8_nextToken_40 rfl ?_
          refine va_get (D := (dC, dI)) (ci := 8) (v := .int v_readAt) (C := RX8) (T := TX8) (N := 27) hx hb hts (fun _ h => List.mem_cons_of_mem _ (List.mem_append_right _ h)) hown hK hP 0 rfl rfl 18 (by decide) (hts _ (List.mem_of_getElem? (i := 1) rfl)) (fun _ h9 => h9) rfl dX8_nextToken_41 ?_
          refine lv_iconst (v := 1) hx hb dX8_nextToken_44 (by decide) ?_
          refine lv_iadd hx hb dX8_nextToken_45 ?_
          refine va_put (D := (dC, dI)) (ci := 8) (v := .int (v_readAt + (1 : Int32))) (ty := .int) (C := RX8) (T := TX8) (N := 27) hx hb hts (fun _ h => List.mem_cons_of_mem _ (List.mem_append_right _ h)) tyX8 tyX8_ok nmX8 hown hK hP hD hS 0 rfl rfl 18 (by decide) (hts _ (List.mem_of_getElem? (i := 1) rfl)) (fun _ h9 => h9) rfl (by decide +kernel) rfl rfl (Nat.le_of_ble_eq_true rfl) dX8_nextToken_46 (fun H locs hP hD hS => ?_)
          have hP : va_P (dC, dI) vwCl (MWc a kI kB kZ v_tape v_taped v_errorAt v_thrown v_world v_aside v_undone v_slots v_isKept v_undos v_seenPrefix v_seenLast v_seen v_previous v_gained v_gains v_decoded v_decodes (v_readAt + (1 : Int32)) v_start v_kind v_word v_letters v_number v_fine v_text v_texted) H := hP
          have hD : va_D A (MWc a kI kB kZ v_tape v_taped v_errorAt v_thrown v_world v_aside v_undone v_slots v_isKept v_undos v_seenPrefix v_seenLast v_seen v_previous v_gained v_gains v_decoded v_decodes (v_readAt + (1 : Int32)) v_start v_kind v_word v_letters v_number v_fine v_text v_texted) := hD
          refine lv_goto (tgt := 0) hx hb dX8_nextToken_49 (by decide) ?_
          exact ih (v_readAt + (1 : Int32)) v_start v_kind v_word v_letters v_number H locs ls hP hD hS (lv_sub hl [0] rfl) hJ
        · have hJ := ite_f c25 hJ
          refine lv_aload_n hx hb dX8_nextToken_25 rfl (lv_at hl 0 rfl) ?_
          refine va_get (D := (dC, dI)) (ci := 8) (v := .ref (a 1)) (C := RX8) (T := TX8) (N := 27) hx hb hts (fun _ h => List.mem_cons_of_mem _ (List.mem_append_right _ h)) hown hK hP 0 rfl rfl 0 (by decide) (hts _ (List.mem_of_getElem? (i := 3) rfl)) (fun _ h9 => h9) rfl dX8_nextToken_26 ?_
          refine lv_aload_n hx hb dX8_nextToken_29 rfl (lv_at hl 0 rfl) ?_
          refine va_get (D := (dC, dI)) (ci := 8) (v := .int v_readAt) (C := RX8) (T := TX8) (N := 27) hx hb hts (fun _ h => List.mem_cons_of_mem _ (List.mem_append_right _ h)) hown hK hP 0 rfl rfl 18 (by decide) (hts _ (List.mem_of_getElem? (i := 1) rfl)) (fun _ h9 => h9) rfl dX8_nextToken_30 ?_
          obtain ⟨z26, e27, hJ⟩ := bnd hJ
          refine rd_byte (n := 800) (f := v_tape) hx hb hK hP 1 1 rfl rfl e27 dX8_nextToken_33 ?_
          refine lv_bipush (v := 10) hx hb dX8_nextToken_34 (by decide) ?_
          refine lv_icmp_ne (tgt := 52) hx hb dX8_nextToken_36 (by decide) (fun c28 => ?_) (fun c28 => ?_)
          · have hJ := ite_f c28 hJ
            exact L52 v_readAt v_start v_kind v_word v_letters v_number H locs ls hP hD hS (lv_sub hl [0] rfl) hJ
          · have hJ := ite_t c28 hJ
            refine lv_aload_n hx hb dX8_nextToken_39 rfl (lv_at hl 0 rfl) ?_
            refine lv_dup hx hb dX8_nextToken_40 rfl ?_
            refine va_get (D := (dC, dI)) (ci := 8) (v := .int v_readAt) (C := RX8) (T := TX8) (N := 27) hx hb hts (fun _ h => List.mem_cons_of_mem _ (List.mem_append_right _ h)) hown hK hP 0 rfl rfl 18 (by decide) (hts _ (List.mem_of_getElem? (i := 1) rfl)) (fun _ h9 => h9) rfl dX8_nextToken_41 ?_
            refine lv_iconst (v := 1) hx hb dX8_nextToken_44 (by decide) ?_
            refine lv_iadd hx hb dX8_nextToken_45 ?_
            refine va_put (D := (dC, dI)) (ci := 8) (v := .int (v_readAt + (1 : Int32))) (ty := .int) (C := RX8) (T := TX8) (N := 27) hx hb hts (fun _ h => List.mem_cons_of_mem _ (List.mem_append_right _ h)) tyX8 tyX8_ok nmX8 hown hK hP hD hS 0 rfl rfl 18 (by decide) (hts _ (List.mem_of_getElem? (i := 1) rfl)) (fun _ h9 => h9) rfl (by decide +kernel) rfl rfl (Nat.le_of_ble_eq_true rfl) dX8_nextToken_46 (fun H locs hP hD hS => ?_)
            have hP : va_P (dC, dI) vwCl (MWc a kI kB kZ v_tape v_taped v_errorAt v_thrown v_world v_aside v_undone v_slots v_isKept v_undos v_seenPrefix v_seenLast v_seen v_previous v_gained v_gains v_decoded v_decodes (v_readAt + (1 : Int32)) v_start v_kind v_word v_letters v_number v_fine v_text v_texted) H := hP
            have hD : va_D A (MWc a kI kB kZ v_tape v_taped v_errorAt v_thrown v_world v_aside v_undone v_slots v_isKept v_undos v_seenPrefix v_seenLast v_seen v_previous v_gained v_gains v_decoded v_decodes (v_readAt + (1 : Int32)) v_start v_kind v_word v_letters v_number v_fine v_text v_texted) := hD
            refine lv_goto (tgt := 0) hx hb dX8_nextToken_49 (by decide) ?_
            exact ih (v_readAt + (1 : Int32)) v_start v_kind v_word v_letters v_number H locs ls hP hD hS (lv_sub hl [0] rfl) hJ
  refine lv_aload_n hx hb dX8_nextToken_0 rfl (lv_at hl 0 rfl) ?_
  refine va_get (D := (dC, dI)) (ci := 8) (v := .int v_readAt) (C := RX8) (T := TX8) (N := 27) hx hb hts (fun _ h => List.mem_cons_of_mem _ (List.mem_append_right _ h)) hown hK hP 0 rfl rfl 18 (by decide) (hts _ (List.mem_of_getElem? (i := 1) rfl)) (fun _ h9 => h9) rfl dX8_nextToken_1 ?_
  refine lv_aload_n hx hb dX8_nextToken_4 rfl (lv_at hl 0 rfl) ?_
  refine va_get (D := (dC, dI)) (ci := 8) (v := .int v_taped) (C := RX8) (T := TX8) (N := 27) hx hb hts (fun _ h => List.mem_cons_of_mem _ (List.mem_append_right _ h)) hown hK hP 0 rfl rfl 1 (by decide) (hts _ (List.mem_of_getElem? (i := 2) rfl)) (fun _ h9 => h9) rfl dX8_nextToken_5 ?_
  refine lv_icmp_ge (tgt := 52) hx hb dX8_nextToken_8 (by decide) (fun c1 => ?_) (fun c1 => ?_)
  · have hJ := ite_t c1 hJ
    exact L52 v_readAt v_start v_kind v_word v_letters v_number H locs ls hP hD hS (lv_sub hl [0] rfl) hJ
  · have hJ := ite_f c1 hJ
    refine lv_aload_n hx hb dX8_nextToken_11 rfl (lv_at hl 0 rfl) ?_
    refine va_get (D := (dC, dI)) (ci := 8) (v := .ref (a 1)) (C := RX8) (T := TX8) (N := 27) hx hb hts (fun _ h => List.mem_cons_of_mem _ (List.mem_append_right _ h)) hown hK hP 0 rfl rfl 0 (by decide) (hts _ (List.mem_of_getElem? (i := 3) rfl)) (fun _ h9 => h9) rfl dX8_nextToken_12 ?_
    refine lv_aload_n hx hb dX8_nextToken_15 rfl (lv_at hl 0 rfl) ?_
    refine va_get (D := (dC, dI)) (ci := 8) (v := .int v_readAt) (C := RX8) (T := TX8) (N := 27) hx hb hts (fun _ h => List.mem_cons_of_mem _ (List.mem_append_right _ h)) hown hK hP 0 rfl rfl 18 (by decide) (hts _ (List.mem_of_getElem? (i := 1) rfl)) (fun _ h9 => h9) rfl dX8_nextToken_16 ?_
    obtain ⟨z2, e3, hJ⟩ := bnd hJ
    refine rd_byte (n := 800) (f := v_tape) hx hb hK hP 1 1 rfl rfl e3 dX8_nextToken_19 ?_
    refine lv_bipush (v := 32) hx hb dX8_nextToken_20 (by decide) ?_
    refine lv_icmp_eq (tgt := 39) hx hb dX8_nextToken_22 (by decide) (fun c4 => ?_) (fun c4 => ?_)
    · have hJ := ite_t c4 hJ
      refine lv_aload_n hx hb dX8_nextToken_39 rfl (lv_at hl 0 rfl) ?_
      refine lv_dup hx hb dX8_nextToken_40 rfl ?_
      refine va_get (D := (dC, dI)) (ci := 8) (v := .int v_readAt) (C := RX8) (T := TX8) (N := 27) hx hb hts (fun _ h => List.mem_cons_of_mem _ (List.mem_append_right _ h)) hown hK hP 0 rfl rfl 18 (by decide) (hts _ (List.mem_of_getElem? (i := 1) rfl)) (fun _ h9 => h9) rfl dX8_nextToken_41 ?_
      refine lv_iconst (v := 1) hx hb dX8_nextToken_44 (by decide) ?_
      refine lv_iadd hx hb dX8_nextToken_45 ?_
      refine va_put (D := (dC, dI)) (ci := 8) (v := .int (v_readAt + (1 : Int32))) (ty := .int) (C := RX8) (T := TX8) (N := 27) hx hb hts (fun _ h => List.mem_cons_of_mem _ (List.mem_append_right _ h)) tyX8 tyX8_ok nmX8 hown hK hP hD hS 0 rfl rfl 18 (by decide) (hts _ (List.mem_of_getElem? (i := 1) rfl)) (fun _ h9 => h9) rfl (by decide +kernel) rfl rfl (Nat.le_of_ble_eq_true rfl) dX8_nextToken_46 (fun H locs hP hD hS => ?_)
      have hP : va_P (dC, dI) vwCl (MWc a kI kB kZ v_tape v_taped v_errorAt v_thrown v_world v_aside v_undone v_slots v_isKept v_undos v_seenPrefix v_seenLast v_seen v_previous v_gained v_gains v_decoded v_decodes (v_readAt + (1 : Int32)) v_start v_kind v_word v_letters v_number v_fine v_text v_texted) H := hP
      have hD : va_D A (MWc a kI kB kZ v_tape v_taped v_errorAt v_thrown v_world v_aside v_undone v_slots v_isKept v_undos v_seenPrefix v_seenLast v_seen v_previous v_gained v_gains v_decoded v_decodes (v_readAt + (1 : Int32)) v_start v_kind v_word v_letters v_number v_fine v_text v_texted) := hD
      refine lv_goto (tgt := 0) hx hb dX8_nextToken_49 (by decide) ?_
      exact L0 fu (v_readAt + (1 : Int32)) v_start v_kind v_word v_letters v_number H locs ls hP hD hS (lv_sub hl [0] rfl) hJ
    · have hJ := ite_f c4 hJ
      refine lv_aload_n hx hb dX8_nextToken_25 rfl (lv_at hl 0 rfl) ?_
      refine va_get (D := (dC, dI)) (ci := 8) (v := .ref (a 1)) (C := RX8) (T := TX8) (N := 27) hx hb hts (fun _ h => List.mem_cons_of_mem _ (List.mem_append_right _ h)) hown hK hP 0 rfl rfl 0 (by decide) (hts _ (List.mem_of_getElem? (i := 3) rfl)) (fun _ h9 => h9) rfl dX8_nextToken_26 ?_
      refine lv_aload_n hx hb dX8_nextToken_29 rfl (lv_at hl 0 rfl) ?_
      refine va_get (D := (dC, dI)) (ci := 8) (v := .int v_readAt) (C := RX8) (T := TX8) (N := 27) hx hb hts (fun _ h => List.mem_cons_of_mem _ (List.mem_append_right _ h)) hown hK hP 0 rfl rfl 18 (by decide) (hts _ (List.mem_of_getElem? (i := 1) rfl)) (fun _ h9 => h9) rfl dX8_nextToken_30 ?_
      obtain ⟨z5, e6, hJ⟩ := bnd hJ
      refine rd_byte (n := 800) (f := v_tape) hx hb hK hP 1 1 rfl rfl e6 dX8_nextToken_33 ?_
      refine lv_bipush (v := 10) hx hb dX8_nextToken_34 (by decide) ?_
      refine lv_icmp_ne (tgt := 52) hx hb dX8_nextToken_36 (by decide) (fun c7 => ?_) (fun c7 => ?_)
      · have hJ := ite_f c7 hJ
        exact L52 v_readAt v_start v_kind v_word v_letters v_number H locs ls hP hD hS (lv_sub hl [0] rfl) hJ
      · have hJ := ite_t c7 hJ
        refine lv_aload_n hx hb dX8_nextToken_39 rfl (lv_at hl 0 rfl) ?_
        refine lv_dup hx hb dX8_nextToken_40 rfl ?_
        refine va_get (D := (dC, dI)) (ci := 8) (v := .int v_readAt) (C := RX8) (T := TX8) (N := 27) hx hb hts (fun _ h => List.mem_cons_of_mem _ (List.mem_append_right _ h)) hown hK hP 0 rfl rfl 18 (by decide) (hts _ (List.mem_of_getElem? (i := 1) rfl)) (fun _ h9 => h9) rfl dX8_nextToken_41 ?_
        refine lv_iconst (v := 1) hx hb dX8_nextToken_44 (by decide) ?_
        refine lv_iadd hx hb dX8_nextToken_45 ?_
        refine va_put (D := (dC, dI)) (ci := 8) (v := .int (v_readAt + (1 : Int32))) (ty := .int) (C := RX8) (T := TX8) (N := 27) hx hb hts (fun _ h => List.mem_cons_of_mem _ (List.mem_append_right _ h)) tyX8 tyX8_ok nmX8 hown hK hP hD hS 0 rfl rfl 18 (by decide) (hts _ (List.mem_of_getElem? (i := 1) rfl)) (fun _ h9 => h9) rfl (by decide +kernel) rfl rfl (Nat.le_of_ble_eq_true rfl) dX8_nextToken_46 (fun H locs hP hD hS => ?_)
        have hP : va_P (dC, dI) vwCl (MWc a kI kB kZ v_tape v_taped v_errorAt v_thrown v_world v_aside v_undone v_slots v_isKept v_undos v_seenPrefix v_seenLast v_seen v_previous v_gained v_gains v_decoded v_decodes (v_readAt + (1 : Int32)) v_start v_kind v_word v_letters v_number v_fine v_text v_texted) H := hP
        have hD : va_D A (MWc a kI kB kZ v_tape v_taped v_errorAt v_thrown v_world v_aside v_undone v_slots v_isKept v_undos v_seenPrefix v_seenLast v_seen v_previous v_gained v_gains v_decoded v_decodes (v_readAt + (1 : Int32)) v_start v_kind v_word v_letters v_number v_fine v_text v_texted) := hD
        refine lv_goto (tgt := 0) hx hb dX8_nextToken_49 (by decide) ?_
        exact L0 fu (v_readAt + (1 : Int32)) v_start v_kind v_word v_letters v_number H locs ls hP hD hS (lv_sub hl [0] rfl) hJ
theorem qX8_accepts : (yX8_accepts.cls = RX8) ∧ yX8_accepts.cls ≠ "java/lang/invoke/MethodHandle" ∧ yX8_accepts.cls ≠ "java/lang/invoke/VarHandle" ∧ (parseMethodDescriptor yX8_accepts.desc).map (fun d => d.parameters.length) = some 1 := by decide +kernel
set_option maxHeartbeats 4000000 in
set_option maxRecDepth 100000 in
theorem c_X8_accepts (fu : Nat) (l : Launch) (dC : Nat → ClassId) (dI : Nat → Nat → Nat) (kI kB kZ : ClassId) (a : Nat → Nat) (v_tape : Nat → Int32) (v_taped : Int32) (v_errorAt : Int32) (v_thrown : Int32) (v_world : Nat → Int32) (v_aside : Nat → Int32) (v_undone : Nat → Int32) (v_slots : Nat → Int32) (v_isKept : Nat → Int32) (v_undos : Int32) (v_seenPrefix : Nat → Int32) (v_seenLast : Nat → Int32) (v_seen : Int32) (v_previous : Int32) (v_gained : Nat → Int32) (v_gains : Int32) (v_decoded : Nat → Int32) (v_decodes : Int32) (v_readAt : Int32) (v_start : Int32) (v_kind : Int32) (v_word : Int64) (v_letters : Int32) (v_number : Int32) (v_fine : Int32) (v_text : Nat → Int32) (v_texted : Int32) (p0 : Int32) (sz : Nat) (z : Int32 × Int32 × Int32 × Int32 × Int64 × Int32 × Int32 × Int32) (hJ : J_X8_accepts fu v_tape v_taped v_errorAt v_readAt v_start v_kind v_word v_letters v_number v_fine p0 = some z) : Met l yX8_accepts wsX8_accepts ({ frames := 3, cells := 0, slots := 0, locals := 62 }) (va_Pc [.ref (a 0), .int p0] (RWp dC dI sz (MWc a kI kB kZ v_tape v_taped v_errorAt v_thrown v_world v_aside v_undone v_slots v_isKept v_undos v_seenPrefix v_seenLast v_seen v_previous v_gained v_gains v_decoded v_decodes v_readAt v_start v_kind v_word v_letters v_number v_fine v_text v_texted) [(kI, .int), (kB, .byte), (kZ, .boolean)])) (rwQv dC dI (va_A (MWc a kI kB kZ v_tape v_taped v_errorAt v_thrown v_world v_aside v_undone v_slots v_isKept v_undos v_seenPrefix v_seenLast v_seen v_previous v_gained v_gains v_decoded v_decodes v_readAt v_start v_kind v_word v_letters v_number v_fine v_text v_texted) sz) (MWc a kI kB kZ v_tape v_taped z.1 v_thrown v_world v_aside v_undone v_slots v_isKept v_undos v_seenPrefix v_seenLast v_seen v_previous v_gained v_gains v_decoded v_decodes z.2.1 z.2.2.1 z.2.2.2.1 z.2.2.2.2.1 z.2.2.2.2.2.1 z.2.2.2.2.2.2.1 z.2.2.2.2.2.2.2 v_text v_texted)) 0 0 (va_A (MWc a kI kB kZ v_tape v_taped v_errorAt v_thrown v_world v_aside v_undone v_slots v_isKept v_undos v_seenPrefix v_seenLast v_seen v_previous v_gained v_gains v_decoded v_decodes v_readAt v_start v_kind v_word v_letters v_number v_fine v_text v_texted) sz) := by
  refine rw_start (Qc := fun A => rwQv dC dI A (MWc a kI kB kZ v_tape v_taped z.1 v_thrown v_world v_aside v_undone v_slots v_isKept v_undos v_seenPrefix v_seenLast v_seen v_previous v_gained v_gains v_decoded v_decodes z.2.1 z.2.2.1 z.2.2.2.1 z.2.2.2.2.1 z.2.2.2.2.2.1 z.2.2.2.2.2.2.1 z.2.2.2.2.2.2.2 v_text v_texted)) (cc := cX8_accepts) (maxL := 2) (ret := none) (by decide) rfl (Nat.le_of_ble_eq_true rfl) ?_
  intro p e s m args below meth c hx hb hr hml hown hts hlocks hNW hK A hA H locs ls hP hD hS hl
  have hown : s.vm.findClass RX8 = some m.cls := hown
  have hl : lv_has ls 2 [(0, .ref (a 0)), (1, .int p0)] := hl
  unfold J_X8_accepts at hJ
  have L24 : ∀ (v_errorAt : Int32) (v_readAt : Int32) (v_start : Int32) (v_kind : Int32) (v_word : Int64) (v_letters : Int32) (v_number : Int32) (v_fine : Int32) (H : Heap) (locs : List Loc) (ls : Array Slot), va_P (dC, dI) vwCl (MWc a kI kB kZ v_tape v_taped v_errorAt v_thrown v_world v_aside v_undone v_slots v_isKept v_undos v_seenPrefix v_seenLast v_seen v_previous v_gained v_gains v_decoded v_decodes v_readAt v_start v_kind v_word v_letters v_number v_fine v_text v_texted) H → va_D A (MWc a kI kB kZ v_tape v_taped v_errorAt v_thrown v_world v_aside v_undone v_slots v_isKept v_undos v_seenPrefix v_seenLast v_seen v_previous v_gained v_gains v_decoded v_decodes v_readAt v_start v_kind v_word v_letters v_number v_fine v_text v_texted) → va_S A s.heap H locs → lv_has ls 2 [(0, .ref (a 0))] → J_X8_accepts_b24 fu v_tape v_taped v_errorAt v_readAt v_start v_kind v_word v_letters v_number v_fine = some z → W p l e ({ frames := 3, cells := 0, slots := 0, locals := 62 }) s m args below meth c H locs 0 0 (MQ below (rwQv dC dI A (MWc a kI kB kZ v_tape v_taped z.1 v_thrown v_world v_aside v_undone v_slots v_isKept v_undos v_seenPrefix v_seenLast v_seen v_previous v_gained v_gains v_decoded v_decodes z.2.1 z.2.2.1 z.2.2.2.1 z.2.2.2.2.1 z.2.2.2.2.2.1 z.2.2.2.2.2.2.1 z.2.2.2.2.2.2.2 v_text v_texted)) args s 0 0 (A)) (F0 m 24 ls []) := by
    intro v_errorAt v_readAt v_start v_kind v_word v_letters v_number v_fine H locs ls hP hD hS hl hJ
    unfold J_X8_accepts_b24 at hJ
    refine lv_aload_n hx hb dX8_accepts_24 rfl (lv_at hl 0 rfl) ?_
    refine va_get (D := (dC, dI)) (ci := 8) (v := .int v_fine) (C := RX8) (T := TX8) (N := 27) hx hb hts (fun _ h => List.mem_cons_of_mem _ (List.mem_append_right _ h)) hown hK hP 0 rfl rfl 24 (by decide) (hts _ (List.mem_of_getElem? (i := 1) rfl)) (fun _ h9 => h9) rfl dX8_accepts_25 ?_
    refine lv_if_eq (tgt := 35) hx hb dX8_accepts_28 (by decide) (fun c3 => ?_) (fun c3 => ?_)
    · have hJ := ite_t c3 hJ
      obtain rfl := Option.some.inj hJ
      exact rw_vret hx hb hr hlocks hP hD hS dX8_accepts_35
    · have hJ := ite_f c3 hJ
      refine lv_aload_n hx hb dX8_accepts_31 rfl (lv_at hl 0 rfl) ?_
      obtain ⟨z4, e5, hJ⟩ := bnd hJ
      refine rwVvW (As := []) (rest := []) (ci := 8) (q0 := 0) hx hb hml hown hts (c_X8_nextToken fu l dC dI kI kB kZ a v_tape v_taped v_errorAt v_thrown v_world v_aside v_undone v_slots v_isKept v_undos v_seenPrefix v_seenLast v_seen v_previous v_gained v_gains v_decoded v_decodes v_readAt v_start v_kind v_word v_letters v_number v_fine v_text v_texted H.size z4 e5) gX8_accepts_X8_nextToken qX8_nextToken rfl ⟨Nat.le_of_ble_eq_true rfl, Nat.le_of_ble_eq_true rfl⟩ ⟨rfl, rfl⟩ hNW hK hP hD hS hA hK rfl rfl rfl hl.1 rfl rfl (Nat.le_of_ble_eq_true rfl) dX8_accepts_32 z0 (fun H locs hP hD hS => ?_)
      obtain rfl := Option.some.inj hJ
      exact rw_vret hx hb hr hlocks hP hD hS dX8_accepts_35
  refine lv_aload_n hx hb dX8_accepts_0 rfl (lv_at hl 0 rfl) ?_
  refine va_get (D := (dC, dI)) (ci := 8) (v := .int v_fine) (C := RX8) (T := TX8) (N := 27) hx hb hts (fun _ h => List.mem_cons_of_mem _ (List.mem_append_right _ h)) hown hK hP 0 rfl rfl 24 (by decide) (hts _ (List.mem_of_getElem? (i := 1) rfl)) (fun _ h9 => h9) rfl dX8_accepts_1 ?_
  refine lv_if_eq (tgt := 24) hx hb dX8_accepts_4 (by decide) (fun c1 => ?_) (fun c1 => ?_)
  · have hJ := ite_t c1 hJ
    exact L24 v_errorAt v_readAt v_start v_kind v_word v_letters v_number v_fine H locs ls hP hD hS (lv_sub hl [0] rfl) hJ
  · have hJ := ite_f c1 hJ
    refine lv_iload_n hx hb dX8_accepts_7 rfl (lv_at hl 1 rfl) ?_
    refine lv_if_ne (tgt := 24) hx hb dX8_accepts_8 (by decide) (fun c2 => ?_) (fun c2 => ?_)
    · have hJ := ite_f c2 hJ
      exact L24 v_errorAt v_readAt v_start v_kind v_word v_letters v_number v_fine H locs ls hP hD hS (lv_sub hl [0] rfl) hJ
    · have hJ := ite_t c2 hJ
      refine lv_aload_n hx hb dX8_accepts_11 rfl (lv_at hl 0 rfl) ?_
      refine lv_iconst (v := 0) hx hb dX8_accepts_12 (by decide) ?_
      refine va_put (D := (dC, dI)) (ci := 8) (v := .int (0 : Int32)) (ty := .boolean) (C := RX8) (T := TX8) (N := 27) hx hb hts (fun _ h => List.mem_cons_of_mem _ (List.mem_append_right _ h)) tyX8 tyX8_ok nmX8 hown hK hP hD hS 0 rfl rfl 24 (by decide) (hts _ (List.mem_of_getElem? (i := 1) rfl)) (fun _ h9 => h9) rfl (by decide +kernel) rfl rfl (Nat.le_of_ble_eq_true rfl) dX8_accepts_13 (fun H locs hP hD hS => ?_)
      have hP : va_P (dC, dI) vwCl (MWc a kI kB kZ v_tape v_taped v_errorAt v_thrown v_world v_aside v_undone v_slots v_isKept v_undos v_seenPrefix v_seenLast v_seen v_previous v_gained v_gains v_decoded v_decodes v_readAt v_start v_kind v_word v_letters v_number (0 : Int32) v_text v_texted) H := hP
      have hD : va_D A (MWc a kI kB kZ v_tape v_taped v_errorAt v_thrown v_world v_aside v_undone v_slots v_isKept v_undos v_seenPrefix v_seenLast v_seen v_previous v_gained v_gains v_decoded v_decodes v_readAt v_start v_kind v_word v_letters v_number (0 : Int32) v_text v_texted) := hD
      refine lv_aload_n hx hb dX8_accepts_16 rfl (lv_at hl 0 rfl) ?_
      refine lv_aload_n hx hb dX8_accepts_17 rfl (lv_at hl 0 rfl) ?_
      refine va_get (D := (dC, dI)) (ci := 8) (v := .int v_start) (C := RX8) (T := TX8) (N := 27) hx hb hts (fun _ h => List.mem_cons_of_mem _ (List.mem_append_right _ h)) hown hK hP 0 rfl rfl 19 (by decide) (hts _ (List.mem_of_getElem? (i := 2) rfl)) (fun _ h9 => h9) rfl dX8_accepts_18 ?_
      refine va_put (D := (dC, dI)) (ci := 8) (v := .int v_start) (ty := .int) (C := RX8) (T := TX8) (N := 27) hx hb hts (fun _ h => List.mem_cons_of_mem _ (List.mem_append_right _ h)) tyX8 tyX8_ok nmX8 hown hK hP hD hS 0 rfl rfl 2 (by decide) (hts _ (List.mem_of_getElem? (i := 3) rfl)) (fun _ h9 => h9) rfl (by decide +kernel) rfl rfl (Nat.le_of_ble_eq_true rfl) dX8_accepts_21 (fun H locs hP hD hS => ?_)
      have hP : va_P (dC, dI) vwCl (MWc a kI kB kZ v_tape v_taped v_start v_thrown v_world v_aside v_undone v_slots v_isKept v_undos v_seenPrefix v_seenLast v_seen v_previous v_gained v_gains v_decoded v_decodes v_readAt v_start v_kind v_word v_letters v_number (0 : Int32) v_text v_texted) H := hP
      have hD : va_D A (MWc a kI kB kZ v_tape v_taped v_start v_thrown v_world v_aside v_undone v_slots v_isKept v_undos v_seenPrefix v_seenLast v_seen v_previous v_gained v_gains v_decoded v_decodes v_readAt v_start v_kind v_word v_letters v_number (0 : Int32) v_text v_texted) := hD
      exact L24 v_start v_readAt v_start v_kind v_word v_letters v_number (0 : Int32) H locs ls hP hD hS (lv_sub hl [0] rfl) hJ
theorem qX8_isKey : (yX8_isKey.cls = RX8) ∧ yX8_isKey.cls ≠ "java/lang/invoke/MethodHandle" ∧ yX8_isKey.cls ≠ "java/lang/invoke/VarHandle" ∧ (parseMethodDescriptor yX8_isKey.desc).map (fun d => d.parameters.length) = some 1 := by decide +kernel
set_option maxHeartbeats 4000000 in
set_option maxRecDepth 100000 in
theorem c_X8_isKey (l : Launch) (dC : Nat → ClassId) (dI : Nat → Nat → Nat) (kI kB kZ : ClassId) (a : Nat → Nat) (v_tape : Nat → Int32) (v_taped : Int32) (v_errorAt : Int32) (v_thrown : Int32) (v_world : Nat → Int32) (v_aside : Nat → Int32) (v_undone : Nat → Int32) (v_slots : Nat → Int32) (v_isKept : Nat → Int32) (v_undos : Int32) (v_seenPrefix : Nat → Int32) (v_seenLast : Nat → Int32) (v_seen : Int32) (v_previous : Int32) (v_gained : Nat → Int32) (v_gains : Int32) (v_decoded : Nat → Int32) (v_decodes : Int32) (v_readAt : Int32) (v_start : Int32) (v_kind : Int32) (v_word : Int64) (v_letters : Int32) (v_number : Int32) (v_fine : Int32) (v_text : Nat → Int32) (v_texted : Int32) (p0 : Int64) (z : Int32) (hJ : J_X8_isKey v_kind v_word v_fine p0 = some z) : Met l yX8_isKey wsX8_isKey ({ frames := 0, cells := 0, slots := 0, locals := 0 }) (va_Pc [.ref (a 0), .long p0] (ROp dC dI (MWc a kI kB kZ v_tape v_taped v_errorAt v_thrown v_world v_aside v_undone v_slots v_isKept v_undos v_seenPrefix v_seenLast v_seen v_previous v_gained v_gains v_decoded v_decodes v_readAt v_start v_kind v_word v_letters v_number v_fine v_text v_texted) [(kI, .int), (kB, .byte), (kZ, .boolean)])) (roQi z) 0 0 (fun _ => False) := by
  refine ro_start (cc := cX8_isKey) (maxL := 3) (ret := (some .boolean)) (by decide) rfl (Nat.le_of_ble_eq_true rfl) ?_
  intro p e s m args below meth c hx hb hr hml hown hts hlocks hNW hK H locs ls hP hS hl
  have hown : s.vm.findClass RX8 = some m.cls := hown
  have hl : lv_has ls 3 [(0, .ref (a 0)), (1, .long p0)] := hl
  unfold J_X8_isKey at hJ
  refine lv_aload_n hx hb dX8_isKey_0 rfl (lv_at hl 0 rfl) ?_
  refine va_get (D := (dC, dI)) (ci := 8) (v := .int v_fine) (C := RX8) (T := TX8) (N := 27) hx hb hts (fun _ h => List.mem_cons_of_mem _ (List.mem_append_right _ h)) hown hK hP 0 rfl rfl 24 (by decide) (hts _ (List.mem_of_getElem? (i := 1) rfl)) (fun _ h9 => h9) rfl dX8_isKey_1 ?_
  refine lv_if_eq (tgt := 28) hx hb dX8_isKey_4 (by decide) (fun c1 => ?_) (fun c1 => ?_)
  · have hJ := ite_t c1 hJ
    refine lv_iconst (v := 0) hx hb dX8_isKey_28 (by decide) ?_
    exact ro_zret hx hb hr hlocks rfl hS hJ dX8_isKey_29
  · have hJ := ite_f c1 hJ
    refine lv_aload_n hx hb dX8_isKey_7 rfl (lv_at hl 0 rfl) ?_
    refine va_get (D := (dC, dI)) (ci := 8) (v := .int v_kind) (C := RX8) (T := TX8) (N := 27) hx hb hts (fun _ h => List.mem_cons_of_mem _ (List.mem_append_right _ h)) hown hK hP 0 rfl rfl 20 (by decide) (hts _ (List.mem_of_getElem? (i := 2) rfl)) (fun _ h9 => h9) rfl dX8_isKey_8 ?_
    refine lv_iconst (v := 1) hx hb dX8_isKey_11 (by decide) ?_
    refine lv_icmp_ne (tgt := 28) hx hb dX8_isKey_12 (by decide) (fun c2 => ?_) (fun c2 => ?_)
    · have hJ := ite_f c2 hJ
      refine lv_iconst (v := 0) hx hb dX8_isKey_28 (by decide) ?_
      exact ro_zret hx hb hr hlocks rfl hS hJ dX8_isKey_29
    · have hJ := ite_t c2 hJ
      refine lv_aload_n hx hb dX8_isKey_15 rfl (lv_at hl 0 rfl) ?_
      refine va_get (D := (dC, dI)) (ci := 8) (v := .long v_word) (C := RX8) (T := TX8) (N := 27) hx hb hts (fun _ h => List.mem_cons_of_mem _ (List.mem_append_right _ h)) hown hK hP 0 rfl rfl 21 (by decide) (hts _ (List.mem_of_getElem? (i := 3) rfl)) (fun _ h9 => h9) rfl dX8_isKey_16 ?_
      refine lv_lload_n hx hb dX8_isKey_19 rfl (lv_at hl 1 rfl) ?_
      refine W.lcmp hx hb dX8_isKey_20 ?_
      refine lv_if_ne (tgt := 28) hx hb dX8_isKey_21 (by decide) (fun c3 => ?_) (fun c3 => ?_)
      · have hJ := ite_f c3 hJ
        refine lv_iconst (v := 0) hx hb dX8_isKey_28 (by decide) ?_
        exact ro_zret hx hb hr hlocks rfl hS hJ dX8_isKey_29
      · have hJ := ite_t c3 hJ
        refine lv_iconst (v := 1) hx hb dX8_isKey_24 (by decide) ?_
        refine lv_goto (tgt := 29) hx hb dX8_isKey_25 (by decide) ?_
        exact ro_zret hx hb hr hlocks rfl hS hJ dX8_isKey_29
theorem qX8_numberIf : (yX8_numberIf.cls = RX8) ∧ yX8_numberIf.cls ≠ "java/lang/invoke/MethodHandle" ∧ yX8_numberIf.cls ≠ "java/lang/invoke/VarHandle" ∧ (parseMethodDescriptor yX8_numberIf.desc).map (fun d => d.parameters.length) = some 1 := by decide +kernel
set_option maxHeartbeats 4000000 in
set_option maxRecDepth 100000 in
theorem c_X8_numberIf (fu : Nat) (l : Launch) (dC : Nat → ClassId) (dI : Nat → Nat → Nat) (kI kB kZ : ClassId) (a : Nat → Nat) (v_tape : Nat → Int32) (v_taped : Int32) (v_errorAt : Int32) (v_thrown : Int32) (v_world : Nat → Int32) (v_aside : Nat → Int32) (v_undone : Nat → Int32) (v_slots : Nat → Int32) (v_isKept : Nat → Int32) (v_undos : Int32) (v_seenPrefix : Nat → Int32) (v_seenLast : Nat → Int32) (v_seen : Int32) (v_previous : Int32) (v_gained : Nat → Int32) (v_gains : Int32) (v_decoded : Nat → Int32) (v_decodes : Int32) (v_readAt : Int32) (v_start : Int32) (v_kind : Int32) (v_word : Int64) (v_letters : Int32) (v_number : Int32) (v_fine : Int32) (v_text : Nat → Int32) (v_texted : Int32) (p0 : Int32) (sz : Nat) (z : Int32 × Int32 × Int32 × Int32 × Int32 × Int64 × Int32 × Int32 × Int32) (hJ : J_X8_numberIf fu v_tape v_taped v_errorAt v_readAt v_start v_kind v_word v_letters v_number v_fine p0 = some z) : Met l yX8_numberIf wsX8_numberIf ({ frames := 4, cells := 0, slots := 0, locals := 83 }) (va_Pc [.ref (a 0), .int p0] (RWp dC dI sz (MWc a kI kB kZ v_tape v_taped v_errorAt v_thrown v_world v_aside v_undone v_slots v_isKept v_undos v_seenPrefix v_seenLast v_seen v_previous v_gained v_gains v_decoded v_decodes v_readAt v_start v_kind v_word v_letters v_number v_fine v_text v_texted) [(kI, .int), (kB, .byte), (kZ, .boolean)])) (rwQi dC dI (va_A (MWc a kI kB kZ v_tape v_taped v_errorAt v_thrown v_world v_aside v_undone v_slots v_isKept v_undos v_seenPrefix v_seenLast v_seen v_previous v_gained v_gains v_decoded v_decodes v_readAt v_start v_kind v_word v_letters v_number v_fine v_text v_texted) sz) (MWc a kI kB kZ v_tape v_taped z.2.1 v_thrown v_world v_aside v_undone v_slots v_isKept v_undos v_seenPrefix v_seenLast v_seen v_previous v_gained v_gains v_decoded v_decodes z.2.2.1 z.2.2.2.1 z.2.2.2.2.1 z.2.2.2.2.2.1 z.2.2.2.2.2.2.1 z.2.2.2.2.2.2.2.1 z.2.2.2.2.2.2.2.2 v_text v_texted) z.1) 0 0 (va_A (MWc a kI kB kZ v_tape v_taped v_errorAt v_thrown v_world v_aside v_undone v_slots v_isKept v_undos v_seenPrefix v_seenLast v_seen v_previous v_gained v_gains v_decoded v_decodes v_readAt v_start v_kind v_word v_letters v_number v_fine v_text v_texted) sz) := by
  refine rw_start (Qc := fun A => rwQi dC dI A (MWc a kI kB kZ v_tape v_taped z.2.1 v_thrown v_world v_aside v_undone v_slots v_isKept v_undos v_seenPrefix v_seenLast v_seen v_previous v_gained v_gains v_decoded v_decodes z.2.2.1 z.2.2.2.1 z.2.2.2.2.1 z.2.2.2.2.2.1 z.2.2.2.2.2.2.1 z.2.2.2.2.2.2.2.1 z.2.2.2.2.2.2.2.2 v_text v_texted) z.1) (cc := cX8_numberIf) (maxL := 3) (ret := (some .int)) (by decide) rfl (Nat.le_of_ble_eq_true rfl) ?_
  intro p e s m args below meth c hx hb hr hml hown hts hlocks hNW hK A hA H locs ls hP hD hS hl
  have hown : s.vm.findClass RX8 = some m.cls := hown
  have hl : lv_has ls 3 [(0, .ref (a 0)), (1, .int p0)] := hl
  unfold J_X8_numberIf at hJ
  have L30 : ∀ (v_errorAt : Int32) (v_readAt : Int32) (v_start : Int32) (v_kind : Int32) (v_word : Int64) (v_letters : Int32) (v_number : Int32) (v_fine : Int32) (y2 : Int32) (k1 : Int32) (H : Heap) (locs : List Loc) (ls : Array Slot), va_P (dC, dI) vwCl (MWc a kI kB kZ v_tape v_taped v_errorAt v_thrown v_world v_aside v_undone v_slots v_isKept v_undos v_seenPrefix v_seenLast v_seen v_previous v_gained v_gains v_decoded v_decodes v_readAt v_start v_kind v_word v_letters v_number v_fine v_text v_texted) H → va_D A (MWc a kI kB kZ v_tape v_taped v_errorAt v_thrown v_world v_aside v_undone v_slots v_isKept v_undos v_seenPrefix v_seenLast v_seen v_previous v_gained v_gains v_decoded v_decodes v_readAt v_start v_kind v_word v_letters v_number v_fine v_text v_texted) → va_S A s.heap H locs → lv_has ls 3 [(0, .ref (a 0)), (2, .int y2)] → J_X8_numberIf_b30 fu v_tape v_taped v_errorAt v_readAt v_start v_kind v_word v_letters v_number v_fine y2 k1 = some z → W p l e ({ frames := 4, cells := 0, slots := 0, locals := 83 }) s m args below meth c H locs 0 0 (MQ below (rwQi dC dI A (MWc a kI kB kZ v_tape v_taped z.2.1 v_thrown v_world v_aside v_undone v_slots v_isKept v_undos v_seenPrefix v_seenLast v_seen v_previous v_gained v_gains v_decoded v_decodes z.2.2.1 z.2.2.2.1 z.2.2.2.2.1 z.2.2.2.2.2.1 z.2.2.2.2.2.2.1 z.2.2.2.2.2.2.2.1 z.2.2.2.2.2.2.2.2 v_text v_texted) z.1) args s 0 0 (A)) (F0 m 30 ls [.int k1, .ref (a 0)]) := by
    intro v_errorAt v_readAt v_start v_kind v_word v_letters v_number v_fine y2 k1 H locs ls hP hD hS hl hJ
    unfold J_X8_numberIf_b30 at hJ
    obtain ⟨z4, e5, hJ⟩ := bnd hJ
    refine rwVvW (As := [.int k1]) (rest := []) (ci := 8) (q0 := 0) hx hb hml hown hts (c_X8_accepts fu l dC dI kI kB kZ a v_tape v_taped v_errorAt v_thrown v_world v_aside v_undone v_slots v_isKept v_undos v_seenPrefix v_seenLast v_seen v_previous v_gained v_gains v_decoded v_decodes v_readAt v_start v_kind v_word v_letters v_number v_fine v_text v_texted k1 H.size z4 e5) gX8_numberIf_X8_accepts qX8_accepts rfl ⟨Nat.le_of_ble_eq_true rfl, Nat.le_of_ble_eq_true rfl⟩ ⟨rfl, rfl⟩ hNW hK hP hD hS hA hK rfl rfl rfl hl.1 rfl rfl (Nat.le_of_ble_eq_true rfl) dX8_numberIf_30 z0 (fun H locs hP hD hS => ?_)
    refine lv_aload_n hx hb dX8_numberIf_33 rfl (lv_at hl 0 rfl) ?_
    refine va_get (D := (dC, dI)) (ci := 8) (v := .int z4.2.2.2.2.2.2.2) (C := RX8) (T := TX8) (N := 27) hx hb hts (fun _ h => List.mem_cons_of_mem _ (List.mem_append_right _ h)) hown hK hP 0 rfl rfl 24 (by decide) (hts _ (List.mem_of_getElem? (i := 2) rfl)) (fun _ h9 => h9) rfl dX8_numberIf_34 ?_
    refine lv_if_ne (tgt := 42) hx hb dX8_numberIf_37 (by decide) (fun c6 => ?_) (fun c6 => ?_)
    · have hJ := ite_f c6 hJ
      refine lv_iload_n hx hb dX8_numberIf_42 rfl (lv_at hl 1 rfl) ?_
      obtain rfl := Option.some.inj hJ
      exact rw_iret hx hb hr hlocks rfl hP hD hS dX8_numberIf_43
    · have hJ := ite_t c6 hJ
      refine lv_iconst (v := 0) hx hb dX8_numberIf_40 (by decide) ?_
      obtain rfl := Option.some.inj hJ
      exact rw_iret hx hb hr hlocks rfl hP hD hS dX8_numberIf_41
  have L29 : ∀ (v_errorAt : Int32) (v_readAt : Int32) (v_start : Int32) (v_kind : Int32) (v_word : Int64) (v_letters : Int32) (v_number : Int32) (v_fine : Int32) (y2 : Int32) (H : Heap) (locs : List Loc) (ls : Array Slot), va_P (dC, dI) vwCl (MWc a kI kB kZ v_tape v_taped v_errorAt v_thrown v_world v_aside v_undone v_slots v_isKept v_undos v_seenPrefix v_seenLast v_seen v_previous v_gained v_gains v_decoded v_decodes v_readAt v_start v_kind v_word v_letters v_number v_fine v_text v_texted) H → va_D A (MWc a kI kB kZ v_tape v_taped v_errorAt v_thrown v_world v_aside v_undone v_slots v_isKept v_undos v_seenPrefix v_seenLast v_seen v_previous v_gained v_gains v_decoded v_decodes v_readAt v_start v_kind v_word v_letters v_number v_fine v_text v_texted) → va_S A s.heap H locs → lv_has ls 3 [(0, .ref (a 0)), (2, .int y2)] → J_X8_numberIf_b29 fu v_tape v_taped v_errorAt v_readAt v_start v_kind v_word v_letters v_number v_fine y2 = some z → W p l e ({ frames := 4, cells := 0, slots := 0, locals := 83 }) s m args below meth c H locs 0 0 (MQ below (rwQi dC dI A (MWc a kI kB kZ v_tape v_taped z.2.1 v_thrown v_world v_aside v_undone v_slots v_isKept v_undos v_seenPrefix v_seenLast v_seen v_previous v_gained v_gains v_decoded v_decodes z.2.2.1 z.2.2.2.1 z.2.2.2.2.1 z.2.2.2.2.2.1 z.2.2.2.2.2.2.1 z.2.2.2.2.2.2.2.1 z.2.2.2.2.2.2.2.2 v_text v_texted) z.1) args s 0 0 (A)) (F0 m 29 ls [.ref (a 0)]) := by
    intro v_errorAt v_readAt v_start v_kind v_word v_letters v_number v_fine y2 H locs ls hP hD hS hl hJ
    unfold J_X8_numberIf_b29 at hJ
    refine lv_iconst (v := 0) hx hb dX8_numberIf_29 (by decide) ?_
    exact L30 v_errorAt v_readAt v_start v_kind v_word v_letters v_number v_fine y2 (0 : Int32) H locs ls hP hD hS (lv_sub hl [0, 1] rfl) hJ
  refine lv_aload_n hx hb dX8_numberIf_0 rfl (lv_at hl 0 rfl) ?_
  refine va_get (D := (dC, dI)) (ci := 8) (v := .int v_number) (C := RX8) (T := TX8) (N := 27) hx hb hts (fun _ h => List.mem_cons_of_mem _ (List.mem_append_right _ h)) hown hK hP 0 rfl rfl 23 (by decide) (hts _ (List.mem_of_getElem? (i := 1) rfl)) (fun _ h9 => h9) rfl dX8_numberIf_1 ?_
  refine lv_istore_n (lv' := [(2, .int v_number), (0, .ref (a 0)), (1, .int p0)]) hx hb dX8_numberIf_4 rfl hl (by decide) rfl (fun ls hl => ?_)
  refine lv_aload_n hx hb dX8_numberIf_5 rfl (lv_at hl 1 rfl) ?_
  refine lv_aload_n hx hb dX8_numberIf_6 rfl (lv_at hl 1 rfl) ?_
  refine va_get (D := (dC, dI)) (ci := 8) (v := .int v_fine) (C := RX8) (T := TX8) (N := 27) hx hb hts (fun _ h => List.mem_cons_of_mem _ (List.mem_append_right _ h)) hown hK hP 0 rfl rfl 24 (by decide) (hts _ (List.mem_of_getElem? (i := 2) rfl)) (fun _ h9 => h9) rfl dX8_numberIf_7 ?_
  refine lv_if_eq (tgt := 29) hx hb dX8_numberIf_10 (by decide) (fun c1 => ?_) (fun c1 => ?_)
  · have hJ := ite_t c1 hJ
    exact L29 v_errorAt v_readAt v_start v_kind v_word v_letters v_number v_fine v_number H locs ls hP hD hS (lv_sub hl [1, 0] rfl) hJ
  · have hJ := ite_f c1 hJ
    refine lv_aload_n hx hb dX8_numberIf_13 rfl (lv_at hl 1 rfl) ?_
    refine va_get (D := (dC, dI)) (ci := 8) (v := .int v_kind) (C := RX8) (T := TX8) (N := 27) hx hb hts (fun _ h => List.mem_cons_of_mem _ (List.mem_append_right _ h)) hown hK hP 0 rfl rfl 20 (by decide) (hts _ (List.mem_of_getElem? (i := 3) rfl)) (fun _ h9 => h9) rfl dX8_numberIf_14 ?_
    refine lv_iconst (v := 2) hx hb dX8_numberIf_17 (by decide) ?_
    refine lv_icmp_ne (tgt := 29) hx hb dX8_numberIf_18 (by decide) (fun c2 => ?_) (fun c2 => ?_)
    · have hJ := ite_f c2 hJ
      exact L29 v_errorAt v_readAt v_start v_kind v_word v_letters v_number v_fine v_number H locs ls hP hD hS (lv_sub hl [1, 0] rfl) hJ
    · have hJ := ite_t c2 hJ
      refine lv_iload_n hx hb dX8_numberIf_21 rfl (lv_at hl 2 rfl) ?_
      refine lv_if_eq (tgt := 29) hx hb dX8_numberIf_22 (by decide) (fun c3 => ?_) (fun c3 => ?_)
      · have hJ := ite_t c3 hJ
        exact L29 v_errorAt v_readAt v_start v_kind v_word v_letters v_number v_fine v_number H locs ls hP hD hS (lv_sub hl [1, 0] rfl) hJ
      · have hJ := ite_f c3 hJ
        refine lv_iconst (v := 1) hx hb dX8_numberIf_25 (by decide) ?_
        refine lv_goto (tgt := 30) hx hb dX8_numberIf_26 (by decide) ?_
        exact L30 v_errorAt v_readAt v_start v_kind v_word v_letters v_number v_fine v_number (1 : Int32) H locs ls hP hD hS (lv_sub hl [1, 0] rfl) hJ
theorem qX8_numberIn : (yX8_numberIn.cls = RX8) ∧ yX8_numberIn.cls ≠ "java/lang/invoke/MethodHandle" ∧ yX8_numberIn.cls ≠ "java/lang/invoke/VarHandle" ∧ (parseMethodDescriptor yX8_numberIn.desc).map (fun d => d.parameters.length) = some 2 := by decide +kernel
set_option maxHeartbeats 4000000 in
set_option maxRecDepth 100000 in
theorem c_X8_numberIn (fu : Nat) (l : Launch) (dC : Nat → ClassId) (dI : Nat → Nat → Nat) (kI kB kZ : ClassId) (a : Nat → Nat) (v_tape : Nat → Int32) (v_taped : Int32) (v_errorAt : Int32) (v_thrown : Int32) (v_world : Nat → Int32) (v_aside : Nat → Int32) (v_undone : Nat → Int32) (v_slots : Nat → Int32) (v_isKept : Nat → Int32) (v_undos : Int32) (v_seenPrefix : Nat → Int32) (v_seenLast : Nat → Int32) (v_seen : Int32) (v_previous : Int32) (v_gained : Nat → Int32) (v_gains : Int32) (v_decoded : Nat → Int32) (v_decodes : Int32) (v_readAt : Int32) (v_start : Int32) (v_kind : Int32) (v_word : Int64) (v_letters : Int32) (v_number : Int32) (v_fine : Int32) (v_text : Nat → Int32) (v_texted : Int32) (p0 : Int32) (p1 : Int32) (sz : Nat) (z : Int32 × Int32 × Int32 × Int32 × Int32 × Int64 × Int32 × Int32 × Int32) (hJ : J_X8_numberIn fu v_tape v_taped v_errorAt v_readAt v_start v_kind v_word v_letters v_number v_fine p0 p1 = some z) : Met l yX8_numberIn wsX8_numberIn ({ frames := 5, cells := 0, slots := 0, locals := 105 }) (va_Pc [.ref (a 0), .int p0, .int p1] (RWp dC dI sz (MWc a kI kB kZ v_tape v_taped v_errorAt v_thrown v_world v_aside v_undone v_slots v_isKept v_undos v_seenPrefix v_seenLast v_seen v_previous v_gained v_gains v_decoded v_decodes v_readAt v_start v_kind v_word v_letters v_number v_fine v_text v_texted) [(kI, .int), (kB, .byte), (kZ, .boolean)])) (rwQi dC dI (va_A (MWc a kI kB kZ v_tape v_taped v_errorAt v_thrown v_world v_aside v_undone v_slots v_isKept v_undos v_seenPrefix v_seenLast v_seen v_previous v_gained v_gains v_decoded v_decodes v_readAt v_start v_kind v_word v_letters v_number v_fine v_text v_texted) sz) (MWc a kI kB kZ v_tape v_taped z.2.1 v_thrown v_world v_aside v_undone v_slots v_isKept v_undos v_seenPrefix v_seenLast v_seen v_previous v_gained v_gains v_decoded v_decodes z.2.2.1 z.2.2.2.1 z.2.2.2.2.1 z.2.2.2.2.2.1 z.2.2.2.2.2.2.1 z.2.2.2.2.2.2.2.1 z.2.2.2.2.2.2.2.2 v_text v_texted) z.1) 0 0 (va_A (MWc a kI kB kZ v_tape v_taped v_errorAt v_thrown v_world v_aside v_undone v_slots v_isKept v_undos v_seenPrefix v_seenLast v_seen v_previous v_gained v_gains v_decoded v_decodes v_readAt v_start v_kind v_word v_letters v_number v_fine v_text v_texted) sz) := by
  refine rw_start (Qc := fun A => rwQi dC dI A (MWc a kI kB kZ v_tape v_taped z.2.1 v_thrown v_world v_aside v_undone v_slots v_isKept v_undos v_seenPrefix v_seenLast v_seen v_previous v_gained v_gains v_decoded v_decodes z.2.2.1 z.2.2.2.1 z.2.2.2.2.1 z.2.2.2.2.2.1 z.2.2.2.2.2.2.1 z.2.2.2.2.2.2.2.1 z.2.2.2.2.2.2.2.2 v_text v_texted) z.1) (cc := cX8_numberIn) (maxL := 3) (ret := (some .int)) (by decide) rfl (Nat.le_of_ble_eq_true rfl) ?_
  intro p e s m args below meth c hx hb hr hml hown hts hlocks hNW hK A hA H locs ls hP hD hS hl
  have hown : s.vm.findClass RX8 = some m.cls := hown
  have hl : lv_has ls 3 [(0, .ref (a 0)), (1, .int p0), (2, .int p1)] := hl
  unfold J_X8_numberIn at hJ
  refine lv_aload_n hx hb dX8_numberIn_0 rfl (lv_at hl 0 rfl) ?_
  refine lv_aload_n hx hb dX8_numberIn_1 rfl (lv_at hl 0 rfl) ?_
  refine va_get (D := (dC, dI)) (ci := 8) (v := .int v_number) (C := RX8) (T := TX8) (N := 27) hx hb hts (fun _ h => List.mem_cons_of_mem _ (List.mem_append_right _ h)) hown hK hP 0 rfl rfl 23 (by decide) (hts _ (List.mem_of_getElem? (i := 1) rfl)) (fun _ h9 => h9) rfl dX8_numberIn_2 ?_
  refine lv_iload_n hx hb dX8_numberIn_5 rfl (lv_at hl 1 rfl) ?_
  refine lv_iload_n hx hb dX8_numberIn_6 rfl (lv_at hl 2 rfl) ?_
  obtain ⟨z1, e2, hJ⟩ := bnd hJ
  refine roSi (As := [.int v_number, .int p0, .int p1]) (rest := [.ref (a 0)]) hx hb hml hown hts (c_X8_in l dC dI v_number p0 p1 z1 e2) gX8_numberIn_X8_in qX8_in rfl ⟨Nat.le_of_ble_eq_true rfl, Nat.le_of_ble_eq_true rfl⟩ ⟨rfl, rfl⟩ hNW hK hP hS (hP.sub (ws' := []) [] rfl) (hK.sub (tys' := []) [] rfl) hl.1 rfl rfl (Nat.le_of_ble_eq_true rfl) dX8_numberIn_7 z0 (fun H locs hP hS => ?_)
  obtain ⟨z3, e4, hJ⟩ := bnd hJ
  refine rwViW (As := [.int z1]) (rest := []) (ci := 8) (q0 := 0) hx hb hml hown hts (c_X8_numberIf fu l dC dI kI kB kZ a v_tape v_taped v_errorAt v_thrown v_world v_aside v_undone v_slots v_isKept v_undos v_seenPrefix v_seenLast v_seen v_previous v_gained v_gains v_decoded v_decodes v_readAt v_start v_kind v_word v_letters v_number v_fine v_text v_texted z1 H.size z3 e4) gX8_numberIn_X8_numberIf qX8_numberIf rfl ⟨Nat.le_of_ble_eq_true rfl, Nat.le_of_ble_eq_true rfl⟩ ⟨rfl, rfl⟩ hNW hK hP hD hS hA hK rfl rfl rfl hl.1 rfl rfl (Nat.le_of_ble_eq_true rfl) dX8_numberIn_10 z0 (fun H locs hP hD hS => ?_)
  obtain rfl := Option.some.inj hJ
  exact rw_iret hx hb hr hlocks rfl hP hD hS dX8_numberIn_13
theorem qX8_mark : (yX8_mark.cls = RX8) ∧ yX8_mark.cls ≠ "java/lang/invoke/MethodHandle" ∧ yX8_mark.cls ≠ "java/lang/invoke/VarHandle" ∧ (parseMethodDescriptor yX8_mark.desc).map (fun d => d.parameters.length) = some 0 := by decide +kernel
set_option maxHeartbeats 4000000 in
set_option maxRecDepth 100000 in
theorem c_X8_mark (fu : Nat) (l : Launch) (dC : Nat → ClassId) (dI : Nat → Nat → Nat) (kI kB kZ : ClassId) (a : Nat → Nat) (v_tape : Nat → Int32) (v_taped : Int32) (v_errorAt : Int32) (v_thrown : Int32) (v_world : Nat → Int32) (v_aside : Nat → Int32) (v_undone : Nat → Int32) (v_slots : Nat → Int32) (v_isKept : Nat → Int32) (v_undos : Int32) (v_seenPrefix : Nat → Int32) (v_seenLast : Nat → Int32) (v_seen : Int32) (v_previous : Int32) (v_gained : Nat → Int32) (v_gains : Int32) (v_decoded : Nat → Int32) (v_decodes : Int32) (v_readAt : Int32) (v_start : Int32) (v_kind : Int32) (v_word : Int64) (v_letters : Int32) (v_number : Int32) (v_fine : Int32) (v_text : Nat → Int32) (v_texted : Int32) (sz : Nat) (z : Int32 × Int32 × Int32 × Int32 × Int64 × Int32 × Int32 × Int32) (hJ : J_X8_mark fu v_tape v_taped v_errorAt v_readAt v_start v_kind v_word v_letters v_number v_fine = some z) : Met l yX8_mark wsX8_mark ({ frames := 4, cells := 0, slots := 0, locals := 83 }) (va_Pc [.ref (a 0)] (RWp dC dI sz (MWc a kI kB kZ v_tape v_taped v_errorAt v_thrown v_world v_aside v_undone v_slots v_isKept v_undos v_seenPrefix v_seenLast v_seen v_previous v_gained v_gains v_decoded v_decodes v_readAt v_start v_kind v_word v_letters v_number v_fine v_text v_texted) [(kI, .int), (kB, .byte), (kZ, .boolean)])) (rwQv dC dI (va_A (MWc a kI kB kZ v_tape v_taped v_errorAt v_thrown v_world v_aside v_undone v_slots v_isKept v_undos v_seenPrefix v_seenLast v_seen v_previous v_gained v_gains v_decoded v_decodes v_readAt v_start v_kind v_word v_letters v_number v_fine v_text v_texted) sz) (MWc a kI kB kZ v_tape v_taped z.1 v_thrown v_world v_aside v_undone v_slots v_isKept v_undos v_seenPrefix v_seenLast v_seen v_previous v_gained v_gains v_decoded v_decodes z.2.1 z.2.2.1 z.2.2.2.1 z.2.2.2.2.1 z.2.2.2.2.2.1 z.2.2.2.2.2.2.1 z.2.2.2.2.2.2.2 v_text v_texted)) 0 0 (va_A (MWc a kI kB kZ v_tape v_taped v_errorAt v_thrown v_world v_aside v_undone v_slots v_isKept v_undos v_seenPrefix v_seenLast v_seen v_previous v_gained v_gains v_decoded v_decodes v_readAt v_start v_kind v_word v_letters v_number v_fine v_text v_texted) sz) := by
  refine rw_start (Qc := fun A => rwQv dC dI A (MWc a kI kB kZ v_tape v_taped z.1 v_thrown v_world v_aside v_undone v_slots v_isKept v_undos v_seenPrefix v_seenLast v_seen v_previous v_gained v_gains v_decoded v_decodes z.2.1 z.2.2.1 z.2.2.2.1 z.2.2.2.2.1 z.2.2.2.2.2.1 z.2.2.2.2.2.2.1 z.2.2.2.2.2.2.2 v_text v_texted)) (cc := cX8_mark) (maxL := 1) (ret := none) (by decide) rfl (Nat.le_of_ble_eq_true rfl) ?_
  intro p e s m args below meth c hx hb hr hml hown hts hlocks hNW hK A hA H locs ls hP hD hS hl
  have hown : s.vm.findClass RX8 = some m.cls := hown
  have hl : lv_has ls 1 [(0, .ref (a 0))] := hl
  unfold J_X8_mark at hJ
  have L21 : ∀ (v_errorAt : Int32) (v_readAt : Int32) (v_start : Int32) (v_kind : Int32) (v_word : Int64) (v_letters : Int32) (v_number : Int32) (v_fine : Int32) (k1 : Int32) (H : Heap) (locs : List Loc) (ls : Array Slot), va_P (dC, dI) vwCl (MWc a kI kB kZ v_tape v_taped v_errorAt v_thrown v_world v_aside v_undone v_slots v_isKept v_undos v_seenPrefix v_seenLast v_seen v_previous v_gained v_gains v_decoded v_decodes v_readAt v_start v_kind v_word v_letters v_number v_fine v_text v_texted) H → va_D A (MWc a kI kB kZ v_tape v_taped v_errorAt v_thrown v_world v_aside v_undone v_slots v_isKept v_undos v_seenPrefix v_seenLast v_seen v_previous v_gained v_gains v_decoded v_decodes v_readAt v_start v_kind v_word v_letters v_number v_fine v_text v_texted) → va_S A s.heap H locs → lv_has ls 1 [] → J_X8_mark_b21 fu v_tape v_taped v_errorAt v_readAt v_start v_kind v_word v_letters v_number v_fine k1 = some z → W p l e ({ frames := 4, cells := 0, slots := 0, locals := 83 }) s m args below meth c H locs 0 0 (MQ below (rwQv dC dI A (MWc a kI kB kZ v_tape v_taped z.1 v_thrown v_world v_aside v_undone v_slots v_isKept v_undos v_seenPrefix v_seenLast v_seen v_previous v_gained v_gains v_decoded v_decodes z.2.1 z.2.2.1 z.2.2.2.1 z.2.2.2.2.1 z.2.2.2.2.2.1 z.2.2.2.2.2.2.1 z.2.2.2.2.2.2.2 v_text v_texted)) args s 0 0 (A)) (F0 m 21 ls [.int k1, .ref (a 0)]) := by
    intro v_errorAt v_readAt v_start v_kind v_word v_letters v_number v_fine k1 H locs ls hP hD hS hl hJ
    unfold J_X8_mark_b21 at hJ
    obtain ⟨z3, e4, hJ⟩ := bnd hJ
    refine rwVvW (As := [.int k1]) (rest := []) (ci := 8) (q0 := 0) hx hb hml hown hts (c_X8_accepts fu l dC dI kI kB kZ a v_tape v_taped v_errorAt v_thrown v_world v_aside v_undone v_slots v_isKept v_undos v_seenPrefix v_seenLast v_seen v_previous v_gained v_gains v_decoded v_decodes v_readAt v_start v_kind v_word v_letters v_number v_fine v_text v_texted k1 H.size z3 e4) gX8_mark_X8_accepts qX8_accepts rfl ⟨Nat.le_of_ble_eq_true rfl, Nat.le_of_ble_eq_true rfl⟩ ⟨rfl, rfl⟩ hNW hK hP hD hS hA hK rfl rfl rfl hl.1 rfl rfl (Nat.le_of_ble_eq_true rfl) dX8_mark_21 z0 (fun H locs hP hD hS => ?_)
    obtain rfl := Option.some.inj hJ
    exact rw_vret hx hb hr hlocks hP hD hS dX8_mark_24
  have L20 : ∀ (v_errorAt : Int32) (v_readAt : Int32) (v_start : Int32) (v_kind : Int32) (v_word : Int64) (v_letters : Int32) (v_number : Int32) (v_fine : Int32) (H : Heap) (locs : List Loc) (ls : Array Slot), va_P (dC, dI) vwCl (MWc a kI kB kZ v_tape v_taped v_errorAt v_thrown v_world v_aside v_undone v_slots v_isKept v_undos v_seenPrefix v_seenLast v_seen v_previous v_gained v_gains v_decoded v_decodes v_readAt v_start v_kind v_word v_letters v_number v_fine v_text v_texted) H → va_D A (MWc a kI kB kZ v_tape v_taped v_errorAt v_thrown v_world v_aside v_undone v_slots v_isKept v_undos v_seenPrefix v_seenLast v_seen v_previous v_gained v_gains v_decoded v_decodes v_readAt v_start v_kind v_word v_letters v_number v_fine v_text v_texted) → va_S A s.heap H locs → lv_has ls 1 [] → J_X8_mark_b20 fu v_tape v_taped v_errorAt v_readAt v_start v_kind v_word v_letters v_number v_fine = some z → W p l e ({ frames := 4, cells := 0, slots := 0, locals := 83 }) s m args below meth c H locs 0 0 (MQ below (rwQv dC dI A (MWc a kI kB kZ v_tape v_taped z.1 v_thrown v_world v_aside v_undone v_slots v_isKept v_undos v_seenPrefix v_seenLast v_seen v_previous v_gained v_gains v_decoded v_decodes z.2.1 z.2.2.1 z.2.2.2.1 z.2.2.2.2.1 z.2.2.2.2.2.1 z.2.2.2.2.2.2.1 z.2.2.2.2.2.2.2 v_text v_texted)) args s 0 0 (A)) (F0 m 20 ls [.ref (a 0)]) := by
    intro v_errorAt v_readAt v_start v_kind v_word v_letters v_number v_fine H locs ls hP hD hS hl hJ
    unfold J_X8_mark_b20 at hJ
    refine lv_iconst (v := 0) hx hb dX8_mark_20 (by decide) ?_
    exact L21 v_errorAt v_readAt v_start v_kind v_word v_letters v_number v_fine (0 : Int32) H locs ls hP hD hS (lv_sub hl [] rfl) hJ
  refine lv_aload_n hx hb dX8_mark_0 rfl (lv_at hl 0 rfl) ?_
  refine lv_aload_n hx hb dX8_mark_1 rfl (lv_at hl 0 rfl) ?_
  refine va_get (D := (dC, dI)) (ci := 8) (v := .int v_fine) (C := RX8) (T := TX8) (N := 27) hx hb hts (fun _ h => List.mem_cons_of_mem _ (List.mem_append_right _ h)) hown hK hP 0 rfl rfl 24 (by decide) (hts _ (List.mem_of_getElem? (i := 1) rfl)) (fun _ h9 => h9) rfl dX8_mark_2 ?_
  refine lv_if_eq (tgt := 20) hx hb dX8_mark_5 (by decide) (fun c1 => ?_) (fun c1 => ?_)
  · have hJ := ite_t c1 hJ
    exact L20 v_errorAt v_readAt v_start v_kind v_word v_letters v_number v_fine H locs ls hP hD hS (lv_sub hl [] rfl) hJ
  · have hJ := ite_f c1 hJ
    refine lv_aload_n hx hb dX8_mark_8 rfl (lv_at hl 0 rfl) ?_
    refine va_get (D := (dC, dI)) (ci := 8) (v := .int v_kind) (C := RX8) (T := TX8) (N := 27) hx hb hts (fun _ h => List.mem_cons_of_mem _ (List.mem_append_right _ h)) hown hK hP 0 rfl rfl 20 (by decide) (hts _ (List.mem_of_getElem? (i := 2) rfl)) (fun _ h9 => h9) rfl dX8_mark_9 ?_
    refine lv_iconst (v := 3) hx hb dX8_mark_12 (by decide) ?_
    refine lv_icmp_ne (tgt := 20) hx hb dX8_mark_13 (by decide) (fun c2 => ?_) (fun c2 => ?_)
    · have hJ := ite_f c2 hJ
      exact L20 v_errorAt v_readAt v_start v_kind v_word v_letters v_number v_fine H locs ls hP hD hS (lv_sub hl [] rfl) hJ
    · have hJ := ite_t c2 hJ
      refine lv_iconst (v := 1) hx hb dX8_mark_16 (by decide) ?_
      refine lv_goto (tgt := 21) hx hb dX8_mark_17 (by decide) ?_
      exact L21 v_errorAt v_readAt v_start v_kind v_word v_letters v_number v_fine (1 : Int32) H locs ls hP hD hS (lv_sub hl [] rfl) hJ
theorem qX8_policyWord : (yX8_policyWord.cls = RX8) ∧ yX8_policyWord.cls ≠ "java/lang/invoke/MethodHandle" ∧ yX8_policyWord.cls ≠ "java/lang/invoke/VarHandle" ∧ (parseMethodDescriptor yX8_policyWord.desc).map (fun d => d.parameters.length) = some 0 := by decide +kernel
set_option maxHeartbeats 4000000 in
set_option maxRecDepth 100000 in
theorem c_X8_policyWord (l : Launch) (dC : Nat → ClassId) (dI : Nat → Nat → Nat) (kI kB kZ : ClassId) (a : Nat → Nat) (v_tape : Nat → Int32) (v_taped : Int32) (v_errorAt : Int32) (v_thrown : Int32) (v_world : Nat → Int32) (v_aside : Nat → Int32) (v_undone : Nat → Int32) (v_slots : Nat → Int32) (v_isKept : Nat → Int32) (v_undos : Int32) (v_seenPrefix : Nat → Int32) (v_seenLast : Nat → Int32) (v_seen : Int32) (v_previous : Int32) (v_gained : Nat → Int32) (v_gains : Int32) (v_decoded : Nat → Int32) (v_decodes : Int32) (v_readAt : Int32) (v_start : Int32) (v_kind : Int32) (v_word : Int64) (v_letters : Int32) (v_number : Int32) (v_fine : Int32) (v_text : Nat → Int32) (v_texted : Int32) (z : Int32) (hJ : J_X8_policyWord v_kind v_word v_fine = some z) : Met l yX8_policyWord wsX8_policyWord ({ frames := 1, cells := 0, slots := 0, locals := 22 }) (va_Pc [.ref (a 0)] (ROp dC dI (MWc a kI kB kZ v_tape v_taped v_errorAt v_thrown v_world v_aside v_undone v_slots v_isKept v_undos v_seenPrefix v_seenLast v_seen v_previous v_gained v_gains v_decoded v_decodes v_readAt v_start v_kind v_word v_letters v_number v_fine v_text v_texted) [(kI, .int), (kB, .byte), (kZ, .boolean)])) (roQi z) 0 0 (fun _ => False) := by
  refine ro_start (cc := cX8_policyWord) (maxL := 1) (ret := (some .int)) (by decide) rfl (Nat.le_of_ble_eq_true rfl) ?_
  intro p e s m args below meth c hx hb hr hml hown hts hlocks hNW hK H locs ls hP hS hl
  have hown : s.vm.findClass RX8 = some m.cls := hown
  have hl : lv_has ls 1 [(0, .ref (a 0))] := hl
  unfold J_X8_policyWord at hJ
  refine lv_aload_n hx hb dX8_policyWord_0 rfl (lv_at hl 0 rfl) ?_
  refine lv_ldc2 (v := 220370757) hx hb hown (hts _ (List.mem_of_getElem? (i := 1) rfl)) dX8_policyWord_1 ?_
  obtain ⟨z1, e2, hJ⟩ := bnd hJ
  refine roVi (As := [.long (220370757 : Int64)]) (rest := []) (ci := 8) (q0 := 0) hx hb hml hown hts (c_X8_isKey l dC dI kI kB kZ a v_tape v_taped v_errorAt v_thrown v_world v_aside v_undone v_slots v_isKept v_undos v_seenPrefix v_seenLast v_seen v_previous v_gained v_gains v_decoded v_decodes v_readAt v_start v_kind v_word v_letters v_number v_fine v_text v_texted (220370757 : Int64) z1 e2) gX8_policyWord_X8_isKey qX8_isKey rfl ⟨Nat.le_of_ble_eq_true rfl, Nat.le_of_ble_eq_true rfl⟩ ⟨rfl, rfl⟩ hNW hK hP hS hP hK rfl rfl rfl hl.1 rfl rfl (Nat.le_of_ble_eq_true rfl) dX8_policyWord_4 z0 (fun H locs hP hS => ?_)
  refine lv_if_eq (tgt := 12) hx hb dX8_policyWord_7 (by decide) (fun c3 => ?_) (fun c3 => ?_)
  · have hJ := ite_t c3 hJ
    refine lv_aload_n hx hb dX8_policyWord_12 rfl (lv_at hl 0 rfl) ?_
    refine lv_ldc2 (v := 19057844) hx hb hown (hts _ (List.mem_of_getElem? (i := 2) rfl)) dX8_policyWord_13 ?_
    obtain ⟨z4, e5, hJ⟩ := bnd hJ
    refine roVi (As := [.long (19057844 : Int64)]) (rest := []) (ci := 8) (q0 := 0) hx hb hml hown hts (c_X8_isKey l dC dI kI kB kZ a v_tape v_taped v_errorAt v_thrown v_world v_aside v_undone v_slots v_isKept v_undos v_seenPrefix v_seenLast v_seen v_previous v_gained v_gains v_decoded v_decodes v_readAt v_start v_kind v_word v_letters v_number v_fine v_text v_texted (19057844 : Int64) z4 e5) gX8_policyWord_X8_isKey qX8_isKey rfl ⟨Nat.le_of_ble_eq_true rfl, Nat.le_of_ble_eq_true rfl⟩ ⟨rfl, rfl⟩ hNW hK hP hS hP hK rfl rfl rfl hl.1 rfl rfl (Nat.le_of_ble_eq_true rfl) dX8_policyWord_16 z0 (fun H locs hP hS => ?_)
    refine lv_if_eq (tgt := 24) hx hb dX8_policyWord_19 (by decide) (fun c6 => ?_) (fun c6 => ?_)
    · have hJ := ite_t c6 hJ
      refine lv_aload_n hx hb dX8_policyWord_24 rfl (lv_at hl 0 rfl) ?_
      refine lv_ldc2 (v := 24170600) hx hb hown (hts _ (List.mem_of_getElem? (i := 3) rfl)) dX8_policyWord_25 ?_
      obtain ⟨z7, e8, hJ⟩ := bnd hJ
      refine roVi (As := [.long (24170600 : Int64)]) (rest := []) (ci := 8) (q0 := 0) hx hb hml hown hts (c_X8_isKey l dC dI kI kB kZ a v_tape v_taped v_errorAt v_thrown v_world v_aside v_undone v_slots v_isKept v_undos v_seenPrefix v_seenLast v_seen v_previous v_gained v_gains v_decoded v_decodes v_readAt v_start v_kind v_word v_letters v_number v_fine v_text v_texted (24170600 : Int64) z7 e8) gX8_policyWord_X8_isKey qX8_isKey rfl ⟨Nat.le_of_ble_eq_true rfl, Nat.le_of_ble_eq_true rfl⟩ ⟨rfl, rfl⟩ hNW hK hP hS hP hK rfl rfl rfl hl.1 rfl rfl (Nat.le_of_ble_eq_true rfl) dX8_policyWord_28 z0 (fun H locs hP hS => ?_)
      refine lv_if_eq (tgt := 38) hx hb dX8_policyWord_31 (by decide) (fun c9 => ?_) (fun c9 => ?_)
      · have hJ := ite_t c9 hJ
        refine lv_iconst (v := -1) hx hb dX8_policyWord_38 (by decide) ?_
        exact ro_iret hx hb hr hlocks hS hJ dX8_policyWord_39
      · have hJ := ite_f c9 hJ
        refine lv_iconst (v := 2) hx hb dX8_policyWord_34 (by decide) ?_
        refine lv_goto (tgt := 39) hx hb dX8_policyWord_35 (by decide) ?_
        exact ro_iret hx hb hr hlocks hS hJ dX8_policyWord_39
    · have hJ := ite_f c6 hJ
      refine lv_iconst (v := 1) hx hb dX8_policyWord_22 (by decide) ?_
      exact ro_iret hx hb hr hlocks hS hJ dX8_policyWord_23
  · have hJ := ite_f c3 hJ
    refine lv_iconst (v := 0) hx hb dX8_policyWord_10 (by decide) ?_
    exact ro_iret hx hb hr hlocks hS hJ dX8_policyWord_11
