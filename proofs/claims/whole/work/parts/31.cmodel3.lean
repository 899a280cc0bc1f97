theorem qX8_codesIfEncoded : (yX8_codesIfEncoded.cls = RX8) ∧ yX8_codesIfEncoded.cls ≠ "java/lang/invoke/MethodHandle" ∧ yX8_codesIfEncoded.cls ≠ "java/lang/invoke/VarHandle" ∧ (parseMethodDescriptor yX8_codesIfEncoded.desc).map (fun d => d.parameters.length) = some 1 := by decide +kernel
set_option maxHeartbeats 4000000 in
set_option maxRecDepth 100000 in
theorem c_X8_codesIfEncoded (fu : Nat) (l : Launch) (dC : Nat → ClassId) (dI : Nat → Nat → Nat) (kI kB kZ : ClassId) (a : Nat → Nat) (v_tape : Nat → Int32) (v_taped : Int32) (v_errorAt : Int32) (v_thrown : Int32) (v_world : Nat → Int32) (v_aside : Nat → Int32) (v_undone : Nat → Int32) (v_slots : Nat → Int32) (v_isKept : Nat → Int32) (v_undos : Int32) (v_seenPrefix : Nat → Int32) (v_seenLast : Nat → Int32) (v_seen : Int32) (v_previous : Int32) (v_gained : Nat → Int32) (v_gains : Int32) (v_decoded : Nat → Int32) (v_decodes : Int32) (v_readAt : Int32) (v_start : Int32) (v_kind : Int32) (v_word : Int64) (v_letters : Int32) (v_number : Int32) (v_fine : Int32) (v_text : Nat → Int32) (v_texted : Int32) (p0 : Int32) (sz : Nat) (z : Int32 × Int32) (hJ : J_X8_codesIfEncoded fu v_thrown v_world p0 = some z) : Met l yX8_codesIfEncoded wsX8_codesIfEncoded ({ frames := 7, cells := 0, slots := 0, locals := 150 }) (va_Pc [.ref (a 0), .int p0] (RWp dC dI sz (MWc a kI kB kZ v_tape v_taped v_errorAt v_thrown v_world v_aside v_undone v_slots v_isKept v_undos v_seenPrefix v_seenLast v_seen v_previous v_gained v_gains v_decoded v_decodes v_readAt v_start v_kind v_word v_letters v_number v_fine v_text v_texted) [(kI, .int), (kB, .byte), (kZ, .boolean)])) (rwQi dC dI (va_A (MWc a kI kB kZ v_tape v_taped v_errorAt v_thrown v_world v_aside v_undone v_slots v_isKept v_undos v_seenPrefix v_seenLast v_seen v_previous v_gained v_gains v_decoded v_decodes v_readAt v_start v_kind v_word v_letters v_number v_fine v_text v_texted) sz) (MWc a kI kB kZ v_tape v_taped v_errorAt z.2 v_world v_aside v_undone v_slots v_isKept v_undos v_seenPrefix v_seenLast v_seen v_previous v_gained v_gains v_decoded v_decodes v_readAt v_start v_kind v_word v_letters v_number v_fine v_text v_texted) z.1) 0 0 (va_A (MWc a kI kB kZ v_tape v_taped v_errorAt v_thrown v_world v_aside v_undone v_slots v_isKept v_undos v_seenPrefix v_seenLast v_seen v_previous v_gained v_gains v_decoded v_decodes v_readAt v_start v_kind v_word v_letters v_number v_fine v_text v_texted) sz) := by
  refine rw_start (Qc := fun A => rwQi dC dI A (MWc a kI kB kZ v_tape v_taped v_errorAt z.2 v_world v_aside v_undone v_slots v_isKept v_undos v_seenPrefix v_seenLast v_seen v_previous v_gained v_gains v_decoded v_decodes v_readAt v_start v_kind v_word v_letters v_number v_fine v_text v_texted) z.1) (cc := cX8_codesIfEncoded) (maxL := 2) (ret := (some .int)) (by decide) rfl (Nat.le_of_ble_eq_true rfl) ?_
  intro p e s m args below meth c hx hb hr hml hown hts hlocks hNW hK A hA H locs ls hP hD hS hl
  have hown : s.vm.findClass RX8 = some m.cls := hown
  have hl : lv_has ls 2 [(0, .ref (a 0)), (1, .int p0)] := hl
  unfold J_X8_codesIfEncoded at hJ
  refine lv_aload_n hx hb dX8_codesIfEncoded_0 rfl (lv_at hl 0 rfl) ?_
  refine lv_iload_n hx hb dX8_codesIfEncoded_1 rfl (lv_at hl 1 rfl) ?_
  obtain ⟨z1, e2, hJ⟩ := bnd hJ
  refine roVi (As := [.int p0]) (rest := []) (ci := 8) (q0 := 0) hx hb hml hown hts (c_X8_isSymbol l dC dI kI kB kZ a v_tape v_taped v_errorAt v_thrown v_world v_aside v_undone v_slots v_isKept v_undos v_seenPrefix v_seenLast v_seen v_previous v_gained v_gains v_decoded v_decodes v_readAt v_start v_kind v_word v_letters v_number v_fine v_text v_texted p0 z1 e2) gX8_codesIfEncoded_X8_isSymbol qX8_isSymbol rfl ⟨Nat.le_of_ble_eq_true rfl, Nat.le_of_ble_eq_true rfl⟩ ⟨rfl, rfl⟩ hNW hK hP hS hP hK rfl rfl rfl hl.1 rfl rfl (Nat.le_of_ble_eq_true rfl) dX8_codesIfEncoded_2 z0 (fun H locs hP hS => ?_)
  refine lv_if_ne (tgt := 14) hx hb dX8_codesIfEncoded_5 (by decide) (fun c3 => ?_) (fun c3 => ?_)
  · have hJ := ite_f c3 hJ
    refine lv_aload_n hx hb dX8_codesIfEncoded_14 rfl (lv_at hl 0 rfl) ?_
    refine lv_aload_n hx hb dX8_codesIfEncoded_15 rfl (lv_at hl 0 rfl) ?_
    refine lv_iload_n hx hb dX8_codesIfEncoded_16 rfl (lv_at hl 1 rfl) ?_
    obtain ⟨z4, e5, hJ⟩ := bnd hJ
    refine roVi (As := [.int p0]) (rest := [.ref (a 0)]) (ci := 8) (q0 := 0) hx hb hml hown hts (c_X8_codesBy fu l dC dI kI kB kZ a v_tape v_taped v_errorAt v_thrown v_world v_aside v_undone v_slots v_isKept v_undos v_seenPrefix v_seenLast v_seen v_previous v_gained v_gains v_decoded v_decodes v_readAt v_start v_kind v_word v_letters v_number v_fine v_text v_texted p0 z4 e5) gX8_codesIfEncoded_X8_codesBy qX8_codesBy rfl ⟨Nat.le_of_ble_eq_true rfl, Nat.le_of_ble_eq_true rfl⟩ ⟨rfl, rfl⟩ hNW hK hP hS hP hK rfl rfl rfl hl.1 rfl rfl (Nat.le_of_ble_eq_true rfl) dX8_codesIfEncoded_17 z0 (fun H locs hP hS => ?_)
    obtain ⟨z6, e7, hJ⟩ := bnd hJ
    refine rwViW (As := [.int z4]) (rest := []) (ci := 8) (q0 := 0) hx hb hml hown hts (c_X8_told l dC dI kI kB kZ a v_tape v_taped v_errorAt v_thrown v_world v_aside v_undone v_slots v_isKept v_undos v_seenPrefix v_seenLast v_seen v_previous v_gained v_gains v_decoded v_decodes v_readAt v_start v_kind v_word v_letters v_number v_fine v_text v_texted z4 H.size z6 e7) gX8_codesIfEncoded_X8_told qX8_told rfl ⟨Nat.le_of_ble_eq_true rfl, Nat.le_of_ble_eq_true rfl⟩ ⟨rfl, rfl⟩ hNW hK hP hD hS hA hK rfl rfl rfl hl.1 rfl rfl (Nat.le_of_ble_eq_true rfl) dX8_codesIfEncoded_20 z0 (fun H locs hP hD hS => ?_)
    obtain rfl := Option.some.inj hJ
    exact rw_iret hx hb hr hlocks rfl hP hD hS dX8_codesIfEncoded_23
  · have hJ := ite_t c3 hJ
    refine lv_aload_n hx hb dX8_codesIfEncoded_8 rfl (lv_at hl 0 rfl) ?_
    refine lv_iconst (v := 1) hx hb dX8_codesIfEncoded_9 (by decide) ?_
    obtain ⟨z8, e9, hJ⟩ := bnd hJ
    refine rwViW (As := [.int (1 : Int32)]) (rest := []) (ci := 8) (q0 := 0) hx hb hml hown hts (c_X8_throwing l dC dI kI kB kZ a v_tape v_taped v_errorAt v_thrown v_world v_aside v_undone v_slots v_isKept v_undos v_seenPrefix v_seenLast v_seen v_previous v_gained v_gains v_decoded v_decodes v_readAt v_start v_kind v_word v_letters v_number v_fine v_text v_texted (1 : Int32) H.size z8 e9) gX8_codesIfEncoded_X8_throwing qX8_throwing rfl ⟨Nat.le_of_ble_eq_true rfl, Nat.le_of_ble_eq_true rfl⟩ ⟨rfl, rfl⟩ hNW hK hP hD hS hA hK rfl rfl rfl hl.1 rfl rfl (Nat.le_of_ble_eq_true rfl) dX8_codesIfEncoded_10 z0 (fun H locs hP hD hS => ?_)
    obtain rfl := Option.some.inj hJ
    exact rw_iret hx hb hr hlocks rfl hP hD hS dX8_codesIfEncoded_13
theorem qX8_clearsIfEncoded : (yX8_clearsIfEncoded.cls = RX8) ∧ yX8_clearsIfEncoded.cls ≠ "java/lang/invoke/MethodHandle" ∧ yX8_clearsIfEncoded.cls ≠ "java/lang/invoke/VarHandle" ∧ (parseMethodDescriptor yX8_clearsIfEncoded.desc).map (fun d => d.parameters.length) = some 1 := by decide +kernel
set_option maxHeartbeats 4000000 in
set_option maxRecDepth 100000 in
theorem c_X8_clearsIfEncoded (fu : Nat) (l : Launch) (dC : Nat → ClassId) (dI : Nat → Nat → Nat) (kI kB kZ : ClassId) (a : Nat → Nat) (v_tape : Nat → Int32) (v_taped : Int32) (v_errorAt : Int32) (v_thrown : Int32) (v_world : Nat → Int32) (v_aside : Nat → Int32) (v_undone : Nat → Int32) (v_slots : Nat → Int32) (v_isKept : Nat → Int32) (v_undos : Int32) (v_seenPrefix : Nat → Int32) (v_seenLast : Nat → Int32) (v_seen : Int32) (v_previous : Int32) (v_gained : Nat → Int32) (v_gains : Int32) (v_decoded : Nat → Int32) (v_decodes : Int32) (v_readAt : Int32) (v_start : Int32) (v_kind : Int32) (v_word : Int64) (v_letters : Int32) (v_number : Int32) (v_fine : Int32) (v_text : Nat → Int32) (v_texted : Int32) (p0 : Int32) (sz : Nat) (z : Int32 × Int32) (hJ : J_X8_clearsIfEncoded fu v_thrown v_world p0 = some z) : Met l yX8_clearsIfEncoded wsX8_clearsIfEncoded ({ frames := 6, cells := 0, slots := 0, locals := 129 }) (va_Pc [.ref (a 0), .int p0] (RWp dC dI sz (MWc a kI kB kZ v_tape v_taped v_errorAt v_thrown v_world v_aside v_undone v_slots v_isKept v_undos v_seenPrefix v_seenLast v_seen v_previous v_gained v_gains v_decoded v_decodes v_readAt v_start v_kind v_word v_letters v_number v_fine v_text v_texted) [(kI, .int), (kB, .byte), (kZ, .boolean)])) (rwQi dC dI (va_A (MWc a kI kB kZ v_tape v_taped v_errorAt v_thrown v_world v_aside v_undone v_slots v_isKept v_undos v_seenPrefix v_seenLast v_seen v_previous v_gained v_gains v_decoded v_decodes v_readAt v_start v_kind v_word v_letters v_number v_fine v_text v_texted) sz) (MWc a kI kB kZ v_tape v_taped v_errorAt z.2 v_world v_aside v_undone v_slots v_isKept v_undos v_seenPrefix v_seenLast v_seen v_previous v_gained v_gains v_decoded v_decodes v_readAt v_start v_kind v_word v_letters v_number v_fine v_text v_texted) z.1) 0 0 (va_A (MWc a kI kB kZ v_tape v_taped v_errorAt v_thrown v_world v_aside v_undone v_slots v_isKept v_undos v_seenPrefix v_seenLast v_seen v_previous v_gained v_gains v_decoded v_decodes v_readAt v_start v_kind v_word v_letters v_number v_fine v_text v_texted) sz) := by
  refine rw_start (Qc := fun A => rwQi dC dI A (MWc a kI kB kZ v_tape v_taped v_errorAt z.2 v_world v_aside v_undone v_slots v_isKept v_undos v_seenPrefix v_seenLast v_seen v_previous v_gained v_gains v_decoded v_decodes v_readAt v_start v_kind v_word v_letters v_number v_fine v_text v_texted) z.1) (cc := cX8_clearsIfEncoded) (maxL := 2) (ret := (some .int)) (by decide) rfl (Nat.le_of_ble_eq_true rfl) ?_
  intro p e s m args below meth c hx hb hr hml hown hts hlocks hNW hK A hA H locs ls hP hD hS hl
  have hown : s.vm.findClass RX8 = some m.cls := hown
  have hl : lv_has ls 2 [(0, .ref (a 0)), (1, .int p0)] := hl
  unfold J_X8_clearsIfEncoded at hJ
  refine lv_aload_n hx hb dX8_clearsIfEncoded_0 rfl (lv_at hl 0 rfl) ?_
  refine lv_iload_n hx hb dX8_clearsIfEncoded_1 rfl (lv_at hl 1 rfl) ?_
  obtain ⟨z1, e2, hJ⟩ := bnd hJ
  refine roVi (As := [.int p0]) (rest := []) (ci := 8) (q0 := 0) hx hb hml hown hts (c_X8_isSymbol l dC dI kI kB kZ a v_tape v_taped v_errorAt v_thrown v_world v_aside v_undone v_slots v_isKept v_undos v_seenPrefix v_seenLast v_seen v_previous v_gained v_gains v_decoded v_decodes v_readAt v_start v_kind v_word v_letters v_number v_fine v_text v_texted p0 z1 e2) gX8_clearsIfEncoded_X8_isSymbol qX8_isSymbol rfl ⟨Nat.le_of_ble_eq_true rfl, Nat.le_of_ble_eq_true rfl⟩ ⟨rfl, rfl⟩ hNW hK hP hS hP hK rfl rfl rfl hl.1 rfl rfl (Nat.le_of_ble_eq_true rfl) dX8_clearsIfEncoded_2 z0 (fun H locs hP hS => ?_)
  refine lv_if_ne (tgt := 14) hx hb dX8_clearsIfEncoded_5 (by decide) (fun c3 => ?_) (fun c3 => ?_)
  · have hJ := ite_f c3 hJ
    refine lv_aload_n hx hb dX8_clearsIfEncoded_14 rfl (lv_at hl 0 rfl) ?_
    refine lv_aload_n hx hb dX8_clearsIfEncoded_15 rfl (lv_at hl 0 rfl) ?_
    refine lv_iload_n hx hb dX8_clearsIfEncoded_16 rfl (lv_at hl 1 rfl) ?_
    obtain ⟨z4, e5, hJ⟩ := bnd hJ
    refine roVi (As := [.int p0]) (rest := [.ref (a 0)]) (ci := 8) (q0 := 0) hx hb hml hown hts (c_X8_clearsBy fu l dC dI kI kB kZ a v_tape v_taped v_errorAt v_thrown v_world v_aside v_undone v_slots v_isKept v_undos v_seenPrefix v_seenLast v_seen v_previous v_gained v_gains v_decoded v_decodes v_readAt v_start v_kind v_word v_letters v_number v_fine v_text v_texted p0 z4 e5) gX8_clearsIfEncoded_X8_clearsBy qX8_clearsBy rfl ⟨Nat.le_of_ble_eq_true rfl, Nat.le_of_ble_eq_true rfl⟩ ⟨rfl, rfl⟩ hNW hK hP hS hP hK rfl rfl rfl hl.1 rfl rfl (Nat.le_of_ble_eq_true rfl) dX8_clearsIfEncoded_17 z0 (fun H locs hP hS => ?_)
    obtain ⟨z6, e7, hJ⟩ := bnd hJ
    refine rwViW (As := [.int z4]) (rest := []) (ci := 8) (q0 := 0) hx hb hml hown hts (c_X8_told l dC dI kI kB kZ a v_tape v_taped v_errorAt v_thrown v_world v_aside v_undone v_slots v_isKept v_undos v_seenPrefix v_seenLast v_seen v_previous v_gained v_gains v_decoded v_decodes v_readAt v_start v_kind v_word v_letters v_number v_fine v_text v_texted z4 H.size z6 e7) gX8_clearsIfEncoded_X8_told qX8_told rfl ⟨Nat.le_of_ble_eq_true rfl, Nat.le_of_ble_eq_true rfl⟩ ⟨rfl, rfl⟩ hNW hK hP hD hS hA hK rfl rfl rfl hl.1 rfl rfl (Nat.le_of_ble_eq_true rfl) dX8_clearsIfEncoded_20 z0 (fun H locs hP hD hS => ?_)
    obtain rfl := Option.some.inj hJ
    exact rw_iret hx hb hr hlocks rfl hP hD hS dX8_clearsIfEncoded_23
  · have hJ := ite_t c3 hJ
    refine lv_aload_n hx hb dX8_clearsIfEncoded_8 rfl (lv_at hl 0 rfl) ?_
    refine lv_iconst (v := 1) hx hb dX8_clearsIfEncoded_9 (by decide) ?_
    obtain ⟨z8, e9, hJ⟩ := bnd hJ
    refine rwViW (As := [.int (1 : Int32)]) (rest := []) (ci := 8) (q0 := 0) hx hb hml hown hts (c_X8_throwing l dC dI kI kB kZ a v_tape v_taped v_errorAt v_thrown v_world v_aside v_undone v_slots v_isKept v_undos v_seenPrefix v_seenLast v_seen v_previous v_gained v_gains v_decoded v_decodes v_readAt v_start v_kind v_word v_letters v_number v_fine v_text v_texted (1 : Int32) H.size z8 e9) gX8_clearsIfEncoded_X8_throwing qX8_throwing rfl ⟨Nat.le_of_ble_eq_true rfl, Nat.le_of_ble_eq_true rfl⟩ ⟨rfl, rfl⟩ hNW hK hP hD hS hA hK rfl rfl rfl hl.1 rfl rfl (Nat.le_of_ble_eq_true rfl) dX8_clearsIfEncoded_10 z0 (fun H locs hP hD hS => ?_)
    obtain rfl := Option.some.inj hJ
    exact rw_iret hx hb hr hlocks rfl hP hD hS dX8_clearsIfEncoded_13
theorem qX8_encodedCount : (yX8_encodedCount.cls = RX8) ∧ yX8_encodedCount.cls ≠ "java/lang/invoke/MethodHandle" ∧ yX8_encodedCount.cls ≠ "java/lang/invoke/VarHandle" ∧ (parseMethodDescriptor yX8_encodedCount.desc).map (fun d => d.parameters.length) = some 0 := by decide +kernel
set_option maxHeartbeats 4000000 in
set_option maxRecDepth 100000 in
theorem c_X8_encodedCount (l : Launch) (dC : Nat → ClassId) (dI : Nat → Nat → Nat) (kI kB kZ : ClassId) (a : Nat → Nat) (v_tape : Nat → Int32) (v_taped : Int32) (v_errorAt : Int32) (v_thrown : Int32) (v_world : Nat → Int32) (v_aside : Nat → Int32) (v_undone : Nat → Int32) (v_slots : Nat → Int32) (v_isKept : Nat → Int32) (v_undos : Int32) (v_seenPrefix : Nat → Int32) (v_seenLast : Nat → Int32) (v_seen : Int32) (v_previous : Int32) (v_gained : Nat → Int32) (v_gains : Int32) (v_decoded : Nat → Int32) (v_decodes : Int32) (v_readAt : Int32) (v_start : Int32) (v_kind : Int32) (v_word : Int64) (v_letters : Int32) (v_number : Int32) (v_fine : Int32) (v_text : Nat → Int32) (v_texted : Int32) (sz : Nat) (z : Int32 × Int32) (hJ : J_X8_encodedCount v_thrown v_world = some z) : Met l yX8_encodedCount wsX8_encodedCount ({ frames := 1, cells := 0, slots := 0, locals := 21 }) (va_Pc [.ref (a 0)] (RWp dC dI sz (MWc a kI kB kZ v_tape v_taped v_errorAt v_thrown v_world v_aside v_undone v_slots v_isKept v_undos v_seenPrefix v_seenLast v_seen v_previous v_gained v_gains v_decoded v_decodes v_readAt v_start v_kind v_word v_letters v_number v_fine v_text v_texted) [(kI, .int), (kB, .byte), (kZ, .boolean)])) (rwQi dC dI (va_A (MWc a kI kB kZ v_tape v_taped v_errorAt v_thrown v_world v_aside v_undone v_slots v_isKept v_undos v_seenPrefix v_seenLast v_seen v_previous v_gained v_gains v_decoded v_decodes v_readAt v_start v_kind v_word v_letters v_number v_fine v_text v_texted) sz) (MWc a kI kB kZ v_tape v_taped v_errorAt z.2 v_world v_aside v_undone v_slots v_isKept v_undos v_seenPrefix v_seenLast v_seen v_previous v_gained v_gains v_decoded v_decodes v_readAt v_start v_kind v_word v_letters v_number v_fine v_text v_texted) z.1) 0 0 (va_A (MWc a kI kB kZ v_tape v_taped v_errorAt v_thrown v_world v_aside v_undone v_slots v_isKept v_undos v_seenPrefix v_seenLast v_seen v_previous v_gained v_gains v_decoded v_decodes v_readAt v_start v_kind v_word v_letters v_number v_fine v_text v_texted) sz) := by
  refine rw_start (Qc := fun A => rwQi dC dI A (MWc a kI kB kZ v_tape v_taped v_errorAt z.2 v_world v_aside v_undone v_slots v_isKept v_undos v_seenPrefix v_seenLast v_seen v_previous v_gained v_gains v_decoded v_decodes v_readAt v_start v_kind v_word v_letters v_number v_fine v_text v_texted) z.1) (cc := cX8_encodedCount) (maxL := 1) (ret := (some .int)) (by decide) rfl (Nat.le_of_ble_eq_true rfl) ?_
  intro p e s m args below meth c hx hb hr hml hown hts hlocks hNW hK A hA H locs ls hP hD hS hl
  have hown : s.vm.findClass RX8 = some m.cls := hown
  have hl : lv_has ls 1 [(0, .ref (a 0))] := hl
  unfold J_X8_encodedCount at hJ
  refine lv_aload_n hx hb dX8_encodedCount_0 rfl (lv_at hl 0 rfl) ?_
  refine lv_aload_n hx hb dX8_encodedCount_1 rfl (lv_at hl 0 rfl) ?_
  refine va_get (D := (dC, dI)) (ci := 8) (v := .ref (a 2)) (C := RX8) (T := TX8) (N := 27) hx hb hts (fun _ h => List.mem_cons_of_mem _ (List.mem_append_right _ h)) hown hK hP 0 rfl rfl 4 (by decide) (hts _ (List.mem_of_getElem? (i := 1) rfl)) (fun _ h9 => h9) rfl dX8_encodedCount_2 ?_
  refine lv_bipush (v := 6) hx hb dX8_encodedCount_5 (by decide) ?_
  obtain ⟨z1, e2, hJ⟩ := bnd hJ
  refine rd_int (n := 1726) (f := v_world) hx hb hK hP 2 0 rfl rfl e2 dX8_encodedCount_7 ?_
  obtain ⟨z3, e4, hJ⟩ := bnd hJ
  refine rwViW (As := [.int z1]) (rest := []) (ci := 8) (q0 := 0) hx hb hml hown hts (c_X8_told l dC dI kI kB kZ a v_tape v_taped v_errorAt v_thrown v_world v_aside v_undone v_slots v_isKept v_undos v_seenPrefix v_seenLast v_seen v_previous v_gained v_gains v_decoded v_decodes v_readAt v_start v_kind v_word v_letters v_number v_fine v_text v_texted z1 H.size z3 e4) gX8_encodedCount_X8_told qX8_told rfl ⟨Nat.le_of_ble_eq_true rfl, Nat.le_of_ble_eq_true rfl⟩ ⟨rfl, rfl⟩ hNW hK hP hD hS hA hK rfl rfl rfl hl.1 rfl rfl (Nat.le_of_ble_eq_true rfl) dX8_encodedCount_8 z0 (fun H locs hP hD hS => ?_)
  obtain rfl := Option.some.inj hJ
  exact rw_iret hx hb hr hlocks rfl hP hD hS dX8_encodedCount_11
theorem qX8_encodedSymbol : (yX8_encodedSymbol.cls = RX8) ∧ yX8_encodedSymbol.cls ≠ "java/lang/invoke/MethodHandle" ∧ yX8_encodedSymbol.cls ≠ "java/lang/invoke/VarHandle" ∧ (parseMethodDescriptor yX8_encodedSymbol.desc).map (fun d => d.parameters.length) = some 1 := by decide +kernel
set_option maxHeartbeats 4000000 in
set_option maxRecDepth 100000 in
theorem c_X8_encodedSymbol (l : Launch) (dC : Nat → ClassId) (dI : Nat → Nat → Nat) (kI kB kZ : ClassId) (a : Nat → Nat) (v_tape : Nat → Int32) (v_taped : Int32) (v_errorAt : Int32) (v_thrown : Int32) (v_world : Nat → Int32) (v_aside : Nat → Int32) (v_undone : Nat → Int32) (v_slots : Nat → Int32) (v_isKept : Nat → Int32) (v_undos : Int32) (v_seenPrefix : Nat → Int32) (v_seenLast : Nat → Int32) (v_seen : Int32) (v_previous : Int32) (v_gained : Nat → Int32) (v_gains : Int32) (v_decoded : Nat → Int32) (v_decodes : Int32) (v_readAt : Int32) (v_start : Int32) (v_kind : Int32) (v_word : Int64) (v_letters : Int32) (v_number : Int32) (v_fine : Int32) (v_text : Nat → Int32) (v_texted : Int32) (p0 : Int32) (sz : Nat) (z : Int32 × Int32) (hJ : J_X8_encodedSymbol v_thrown v_world p0 = some z) : Met l yX8_encodedSymbol wsX8_encodedSymbol ({ frames := 1, cells := 0, slots := 0, locals := 22 }) (va_Pc [.ref (a 0), .int p0] (RWp dC dI sz (MWc a kI kB kZ v_tape v_taped v_errorAt v_thrown v_world v_aside v_undone v_slots v_isKept v_undos v_seenPrefix v_seenLast v_seen v_previous v_gained v_gains v_decoded v_decodes v_readAt v_start v_kind v_word v_letters v_number v_fine v_text v_texted) [(kI, .int), (kB, .byte), (kZ, .boolean)])) (rwQi dC dI (va_A (MWc a kI kB kZ v_tape v_taped v_errorAt v_thrown v_world v_aside v_undone v_slots v_isKept v_undos v_seenPrefix v_seenLast v_seen v_previous v_gained v_gains v_decoded v_decodes v_readAt v_start v_kind v_word v_letters v_number v_fine v_text v_texted) sz) (MWc a kI kB kZ v_tape v_taped v_errorAt z.2 v_world v_aside v_undone v_slots v_isKept v_undos v_seenPrefix v_seenLast v_seen v_previous v_gained v_gains v_decoded v_decodes v_readAt v_start v_kind v_word v_letters v_number v_fine v_text v_texted) z.1) 0 0 (va_A (MWc a kI kB kZ v_tape v_taped v_errorAt v_thrown v_world v_aside v_undone v_slots v_isKept v_undos v_seenPrefix v_seenLast v_seen v_previous v_gained v_gains v_decoded v_decodes v_readAt v_start v_kind v_word v_letters v_number v_fine v_text v_texted) sz) := by
  refine rw_start (Qc := fun A => rwQi dC dI A (MWc a kI kB kZ v_tape v_taped v_errorAt z.2 v_world v_aside v_undone v_slots v_isKept v_undos v_seenPrefix v_seenLast v_seen v_previous v_gained v_gains v_decoded v_decodes v_readAt v_start v_kind v_word v_letters v_number v_fine v_text v_texted) z.1) (cc := cX8_encodedSymbol) (maxL := 2) (ret := (some .int)) (by decide) rfl (Nat.le_of_ble_eq_true rfl) ?_
  intro p e s m args below meth c hx hb hr hml hown hts hlocks hNW hK A hA H locs ls hP hD hS hl
  have hown : s.vm.findClass RX8 = some m.cls := hown
  have hl : lv_has ls 2 [(0, .ref (a 0)), (1, .int p0)] := hl
  unfold J_X8_encodedSymbol at hJ
  refine lv_iload_n hx hb dX8_encodedSymbol_0 rfl (lv_at hl 1 rfl) ?_
  refine lv_iconst (v := 0) hx hb dX8_encodedSymbol_1 (by decide) ?_
  refine lv_aload_n hx hb dX8_encodedSymbol_2 rfl (lv_at hl 0 rfl) ?_
  refine va_get (D := (dC, dI)) (ci := 8) (v := .ref (a 2)) (C := RX8) (T := TX8) (N := 27) hx hb hts (fun _ h => List.mem_cons_of_mem _ (List.mem_append_right _ h)) hown hK hP 0 rfl rfl 4 (by decide) (hts _ (List.mem_of_getElem? (i := 1) rfl)) (fun _ h9 => h9) rfl dX8_encodedSymbol_3 ?_
  refine lv_bipush (v := 6) hx hb dX8_encodedSymbol_6 (by decide) ?_
  obtain ⟨z1, e2, hJ⟩ := bnd hJ
  refine rd_int (n := 1726) (f := v_world) hx hb hK hP 2 0 rfl rfl e2 dX8_encodedSymbol_8 ?_
  refine lv_iconst (v := 1) hx hb dX8_encodedSymbol_9 (by decide) ?_
  refine lv_isub hx hb dX8_encodedSymbol_10 ?_
  obtain ⟨z3, e4, hJ⟩ := bnd hJ
  refine roSi (As := [.int p0, .int (0 : Int32), .int (z1 - (1 : Int32))]) (rest := []) hx hb hml hown hts (c_X8_in l dC dI p0 (0 : Int32) (z1 - (1 : Int32)) z3 e4) gX8_encodedSymbol_X8_in qX8_in rfl ⟨Nat.le_of_ble_eq_true rfl, Nat.le_of_ble_eq_true rfl⟩ ⟨rfl, rfl⟩ hNW hK hP hS (hP.sub (ws' := []) [] rfl) (hK.sub (tys' := []) [] rfl) hl.1 rfl rfl (Nat.le_of_ble_eq_true rfl) dX8_encodedSymbol_11 z0 (fun H locs hP hS => ?_)
  refine lv_if_ne (tgt := 23) hx hb dX8_encodedSymbol_14 (by decide) (fun c5 => ?_) (fun c5 => ?_)
  · have hJ := ite_f c5 hJ
    refine lv_aload_n hx hb dX8_encodedSymbol_23 rfl (lv_at hl 0 rfl) ?_
    refine lv_aload_n hx hb dX8_encodedSymbol_24 rfl (lv_at hl 0 rfl) ?_
    refine va_get (D := (dC, dI)) (ci := 8) (v := .ref (a 2)) (C := RX8) (T := TX8) (N := 27) hx hb hts (fun _ h => List.mem_cons_of_mem _ (List.mem_append_right _ h)) hown hK hP 0 rfl rfl 4 (by decide) (hts _ (List.mem_of_getElem? (i := 1) rfl)) (fun _ h9 => h9) rfl dX8_encodedSymbol_25 ?_
    refine lv_sipush (v := 526) hx hb dX8_encodedSymbol_28 (by decide) ?_
    refine lv_iload_n hx hb dX8_encodedSymbol_31 rfl (lv_at hl 1 rfl) ?_
    refine lv_iadd hx hb dX8_encodedSymbol_32 ?_
    obtain ⟨z6, e7, hJ⟩ := bnd hJ
    refine rd_int (n := 1726) (f := v_world) hx hb hK hP 2 0 rfl rfl e7 dX8_encodedSymbol_33 ?_
    obtain ⟨z8, e9, hJ⟩ := bnd hJ
    refine rwViW (As := [.int z6]) (rest := []) (ci := 8) (q0 := 0) hx hb hml hown hts (c_X8_told l dC dI kI kB kZ a v_tape v_taped v_errorAt v_thrown v_world v_aside v_undone v_slots v_isKept v_undos v_seenPrefix v_seenLast v_seen v_previous v_gained v_gains v_decoded v_decodes v_readAt v_start v_kind v_word v_letters v_number v_fine v_text v_texted z6 H.size z8 e9) gX8_encodedSymbol_X8_told qX8_told rfl ⟨Nat.le_of_ble_eq_true rfl, Nat.le_of_ble_eq_true rfl⟩ ⟨rfl, rfl⟩ hNW hK hP hD hS hA hK rfl rfl rfl hl.1 rfl rfl (Nat.le_of_ble_eq_true rfl) dX8_encodedSymbol_34 z0 (fun H locs hP hD hS => ?_)
    obtain rfl := Option.some.inj hJ
    exact rw_iret hx hb hr hlocks rfl hP hD hS dX8_encodedSymbol_37
  · have hJ := ite_t c5 hJ
    refine lv_aload_n hx hb dX8_encodedSymbol_17 rfl (lv_at hl 0 rfl) ?_
    refine lv_iconst (v := 1) hx hb dX8_encodedSymbol_18 (by decide) ?_
    obtain ⟨z10, e11, hJ⟩ := bnd hJ
    refine rwViW (As := [.int (1 : Int32)]) (rest := []) (ci := 8) (q0 := 0) hx hb hml hown hts (c_X8_throwing l dC dI kI kB kZ a v_tape v_taped v_errorAt v_thrown v_world v_aside v_undone v_slots v_isKept v_undos v_seenPrefix v_seenLast v_seen v_previous v_gained v_gains v_decoded v_decodes v_readAt v_start v_kind v_word v_letters v_number v_fine v_text v_texted (1 : Int32) H.size z10 e11) gX8_encodedSymbol_X8_throwing qX8_throwing rfl ⟨Nat.le_of_ble_eq_true rfl, Nat.le_of_ble_eq_true rfl⟩ ⟨rfl, rfl⟩ hNW hK hP hD hS hA hK rfl rfl rfl hl.1 rfl rfl (Nat.le_of_ble_eq_true rfl) dX8_encodedSymbol_19 z0 (fun H locs hP hD hS => ?_)
    obtain rfl := Option.some.inj hJ
    exact rw_iret hx hb hr hlocks rfl hP hD hS dX8_encodedSymbol_22
theorem qX8_writtenCount : (yX8_writtenCount.cls = RX8) ∧ yX8_writtenCount.cls ≠ "java/lang/invoke/MethodHandle" ∧ yX8_writtenCount.cls ≠ "java/lang/invoke/VarHandle" ∧ (parseMethodDescriptor yX8_writtenCount.desc).map (fun d => d.parameters.length) = some 0 := by decide +kernel
set_option maxHeartbeats 4000000 in
set_option maxRecDepth 100000 in
theorem c_X8_writtenCount (l : Launch) (dC : Nat → ClassId) (dI : Nat → Nat → Nat) (kI kB kZ : ClassId) (a : Nat → Nat) (v_tape : Nat → Int32) (v_taped : Int32) (v_errorAt : Int32) (v_thrown : Int32) (v_world : Nat → Int32) (v_aside : Nat → Int32) (v_undone : Nat → Int32) (v_slots : Nat → Int32) (v_isKept : Nat → Int32) (v_undos : Int32) (v_seenPrefix : Nat → Int32) (v_seenLast : Nat → Int32) (v_seen : Int32) (v_previous : Int32) (v_gained : Nat → Int32) (v_gains : Int32) (v_decoded : Nat → Int32) (v_decodes : Int32) (v_readAt : Int32) (v_start : Int32) (v_kind : Int32) (v_word : Int64) (v_letters : Int32) (v_number : Int32) (v_fine : Int32) (v_text : Nat → Int32) (v_texted : Int32) (sz : Nat) (z : Int32 × Int32) (hJ : J_X8_writtenCount v_thrown v_world = some z) : Met l yX8_writtenCount wsX8_writtenCount ({ frames := 1, cells := 0, slots := 0, locals := 21 }) (va_Pc [.ref (a 0)] (RWp dC dI sz (MWc a kI kB kZ v_tape v_taped v_errorAt v_thrown v_world v_aside v_undone v_slots v_isKept v_undos v_seenPrefix v_seenLast v_seen v_previous v_gained v_gains v_decoded v_decodes v_readAt v_start v_kind v_word v_letters v_number v_fine v_text v_texted) [(kI, .int), (kB, .byte), (kZ, .boolean)])) (rwQi dC dI (va_A (MWc a kI kB kZ v_tape v_taped v_errorAt v_thrown v_world v_aside v_undone v_slots v_isKept v_undos v_seenPrefix v_seenLast v_seen v_previous v_gained v_gains v_decoded v_decodes v_readAt v_start v_kind v_word v_letters v_number v_fine v_text v_texted) sz) (MWc a kI kB kZ v_tape v_taped v_errorAt z.2 v_world v_aside v_undone v_slots v_isKept v_undos v_seenPrefix v_seenLast v_seen v_previous v_gained v_gains v_decoded v_decodes v_readAt v_start v_kind v_word v_letters v_number v_fine v_text v_texted) z.1) 0 0 (va_A (MWc a kI kB kZ v_tape v_taped v_errorAt v_thrown v_world v_aside v_undone v_slots v_isKept v_undos v_seenPrefix v_seenLast v_seen v_previous v_gained v_gains v_decoded v_decodes v_readAt v_start v_kind v_word v_letters v_number v_fine v_text v_texted) sz) := by
  refine rw_start (Qc := fun A => rwQi dC dI A (MWc a kI kB kZ v_tape v_taped v_errorAt z.2 v_world v_aside v_undone v_slots v_isKept v_undos v_seenPrefix v_seenLast v_seen v_previous v_gained v_gains v_decoded v_decodes v_readAt v_start v_kind v_word v_letters v_number v_fine v_text v_texted) z.1) (cc := cX8_writtenCount) (maxL := 1) (ret := (some .int)) (by decide) rfl (Nat.le_of_ble_eq_true rfl) ?_
  intro p e s m args below meth c hx hb hr hml hown hts hlocks hNW hK A hA H locs ls hP hD hS hl
  have hown : s.vm.findClass RX8 = some m.cls := hown
  have hl : lv_has ls 1 [(0, .ref (a 0))] := hl
  unfold J_X8_writtenCount at hJ
  refine lv_aload_n hx hb dX8_writtenCount_0 rfl (lv_at hl 0 rfl) ?_
  refine lv_aload_n hx hb dX8_writtenCount_1 rfl (lv_at hl 0 rfl) ?_
  refine va_get (D := (dC, dI)) (ci := 8) (v := .ref (a 2)) (C := RX8) (T := TX8) (N := 27) hx hb hts (fun _ h => List.mem_cons_of_mem _ (List.mem_append_right _ h)) hown hK hP 0 rfl rfl 4 (by decide) (hts _ (List.mem_of_getElem? (i := 1) rfl)) (fun _ h9 => h9) rfl dX8_writtenCount_2 ?_
  refine lv_bipush (v := 7) hx hb dX8_writtenCount_5 (by decide) ?_
  obtain ⟨z1, e2, hJ⟩ := bnd hJ
  refine rd_int (n := 1726) (f := v_world) hx hb hK hP 2 0 rfl rfl e2 dX8_writtenCount_7 ?_
  obtain ⟨z3, e4, hJ⟩ := bnd hJ
  refine rwViW (As := [.int z1]) (rest := []) (ci := 8) (q0 := 0) hx hb hml hown hts (c_X8_told l dC dI kI kB kZ a v_tape v_taped v_errorAt v_thrown v_world v_aside v_undone v_slots v_isKept v_undos v_seenPrefix v_seenLast v_seen v_previous v_gained v_gains v_decoded v_decodes v_readAt v_start v_kind v_word v_letters v_number v_fine v_text v_texted z1 H.size z3 e4) gX8_writtenCount_X8_told qX8_told rfl ⟨Nat.le_of_ble_eq_true rfl, Nat.le_of_ble_eq_true rfl⟩ ⟨rfl, rfl⟩ hNW hK hP hD hS hA hK rfl rfl rfl hl.1 rfl rfl (Nat.le_of_ble_eq_true rfl) dX8_writtenCount_8 z0 (fun H locs hP hD hS => ?_)
  obtain rfl := Option.some.inj hJ
  exact rw_iret hx hb hr hlocks rfl hP hD hS dX8_writtenCount_11
theorem qX8_isWritten : (yX8_isWritten.cls = RX8) ∧ yX8_isWritten.cls ≠ "java/lang/invoke/MethodHandle" ∧ yX8_isWritten.cls ≠ "java/lang/invoke/VarHandle" ∧ (parseMethodDescriptor yX8_isWritten.desc).map (fun d => d.parameters.length) = some 1 := by decide +kernel
set_option maxHeartbeats 4000000 in
set_option maxRecDepth 100000 in
theorem c_X8_isWritten (l : Launch) (dC : Nat → ClassId) (dI : Nat → Nat → Nat) (kI kB kZ : ClassId) (a : Nat → Nat) (v_tape : Nat → Int32) (v_taped : Int32) (v_errorAt : Int32) (v_thrown : Int32) (v_world : Nat → Int32) (v_aside : Nat → Int32) (v_undone : Nat → Int32) (v_slots : Nat → Int32) (v_isKept : Nat → Int32) (v_undos : Int32) (v_seenPrefix : Nat → Int32) (v_seenLast : Nat → Int32) (v_seen : Int32) (v_previous : Int32) (v_gained : Nat → Int32) (v_gains : Int32) (v_decoded : Nat → Int32) (v_decodes : Int32) (v_readAt : Int32) (v_start : Int32) (v_kind : Int32) (v_word : Int64) (v_letters : Int32) (v_number : Int32) (v_fine : Int32) (v_text : Nat → Int32) (v_texted : Int32) (p0 : Int32) (z : Int32) (hJ : J_X8_isWritten v_world p0 = some z) : Met l yX8_isWritten wsX8_isWritten ({ frames := 1, cells := 0, slots := 0, locals := 22 }) (va_Pc [.ref (a 0), .int p0] (ROp dC dI (MWc a kI kB kZ v_tape v_taped v_errorAt v_thrown v_world v_aside v_undone v_slots v_isKept v_undos v_seenPrefix v_seenLast v_seen v_previous v_gained v_gains v_decoded v_decodes v_readAt v_start v_kind v_word v_letters v_number v_fine v_text v_texted) [(kI, .int), (kB, .byte), (kZ, .boolean)])) (roQi z) 0 0 (fun _ => False) := by
  refine ro_start (cc := cX8_isWritten) (maxL := 2) (ret := (some .boolean)) (by decide) rfl (Nat.le_of_ble_eq_true rfl) ?_
  intro p e s m args below meth c hx hb hr hml hown hts hlocks hNW hK H locs ls hP hS hl
  have hown : s.vm.findClass RX8 = some m.cls := hown
  have hl : lv_has ls 2 [(0, .ref (a 0)), (1, .int p0)] := hl
  unfold J_X8_isWritten at hJ
  refine lv_iload_n hx hb dX8_isWritten_0 rfl (lv_at hl 1 rfl) ?_
  refine lv_iconst (v := 0) hx hb dX8_isWritten_1 (by decide) ?_
  refine lv_aload_n hx hb dX8_isWritten_2 rfl (lv_at hl 0 rfl) ?_
  refine va_get (D := (dC, dI)) (ci := 8) (v := .ref (a 2)) (C := RX8) (T := TX8) (N := 27) hx hb hts (fun _ h => List.mem_cons_of_mem _ (List.mem_append_right _ h)) hown hK hP 0 rfl rfl 4 (by decide) (hts _ (List.mem_of_getElem? (i := 1) rfl)) (fun _ h9 => h9) rfl dX8_isWritten_3 ?_
  refine lv_bipush (v := 7) hx hb dX8_isWritten_6 (by decide) ?_
  obtain ⟨z1, e2, hJ⟩ := bnd hJ
  refine rd_int (n := 1726) (f := v_world) hx hb hK hP 2 0 rfl rfl e2 dX8_isWritten_8 ?_
  refine lv_iconst (v := 1) hx hb dX8_isWritten_9 (by decide) ?_
  refine lv_isub hx hb dX8_isWritten_10 ?_
  obtain ⟨z3, e4, hJ⟩ := bnd hJ
  refine roSi (As := [.int p0, .int (0 : Int32), .int (z1 - (1 : Int32))]) (rest := []) hx hb hml hown hts (c_X8_in l dC dI p0 (0 : Int32) (z1 - (1 : Int32)) z3 e4) gX8_isWritten_X8_in qX8_in rfl ⟨Nat.le_of_ble_eq_true rfl, Nat.le_of_ble_eq_true rfl⟩ ⟨rfl, rfl⟩ hNW hK hP hS (hP.sub (ws' := []) [] rfl) (hK.sub (tys' := []) [] rfl) hl.1 rfl rfl (Nat.le_of_ble_eq_true rfl) dX8_isWritten_11 z0 (fun H locs hP hS => ?_)
  obtain ⟨h5, hJ⟩ := ite_some hJ
  exact ro_zret hx hb hr hlocks (nar_z h5) hS hJ dX8_isWritten_14
theorem qX8_writtenCode : (yX8_writtenCode.cls = RX8) ∧ yX8_writtenCode.cls ≠ "java/lang/invoke/MethodHandle" ∧ yX8_writtenCode.cls ≠ "java/lang/invoke/VarHandle" ∧ (parseMethodDescriptor yX8_writtenCode.desc).map (fun d => d.parameters.length) = some 1 := by decide +kernel
set_option maxHeartbeats 4000000 in
set_option maxRecDepth 100000 in
theorem c_X8_writtenCode (l : Launch) (dC : Nat → ClassId) (dI : Nat → Nat → Nat) (kI kB kZ : ClassId) (a : Nat → Nat) (v_tape : Nat → Int32) (v_taped : Int32) (v_errorAt : Int32) (v_thrown : Int32) (v_world : Nat → Int32) (v_aside : Nat → Int32) (v_undone : Nat → Int32) (v_slots : Nat → Int32) (v_isKept : Nat → Int32) (v_undos : Int32) (v_seenPrefix : Nat → Int32) (v_seenLast : Nat → Int32) (v_seen : Int32) (v_previous : Int32) (v_gained : Nat → Int32) (v_gains : Int32) (v_decoded : Nat → Int32) (v_decodes : Int32) (v_readAt : Int32) (v_start : Int32) (v_kind : Int32) (v_word : Int64) (v_letters : Int32) (v_number : Int32) (v_fine : Int32) (v_text : Nat → Int32) (v_texted : Int32) (p0 : Int32) (sz : Nat) (z : Int32 × Int32) (hJ : J_X8_writtenCode v_thrown v_world p0 = some z) : Met l yX8_writtenCode wsX8_writtenCode ({ frames := 2, cells := 0, slots := 0, locals := 43 }) (va_Pc [.ref (a 0), .int p0] (RWp dC dI sz (MWc a kI kB kZ v_tape v_taped v_errorAt v_thrown v_world v_aside v_undone v_slots v_isKept v_undos v_seenPrefix v_seenLast v_seen v_previous v_gained v_gains v_decoded v_decodes v_readAt v_start v_kind v_word v_letters v_number v_fine v_text v_texted) [(kI, .int), (kB, .byte), (kZ, .boolean)])) (rwQi dC dI (va_A (MWc a kI kB kZ v_tape v_taped v_errorAt v_thrown v_world v_aside v_undone v_slots v_isKept v_undos v_seenPrefix v_seenLast v_seen v_previous v_gained v_gains v_decoded v_decodes v_readAt v_start v_kind v_word v_letters v_number v_fine v_text v_texted) sz) (MWc a kI kB kZ v_tape v_taped v_errorAt z.2 v_world v_aside v_undone v_slots v_isKept v_undos v_seenPrefix v_seenLast v_seen v_previous v_gained v_gains v_decoded v_decodes v_readAt v_start v_kind v_word v_letters v_number v_fine v_text v_texted) z.1) 0 0 (va_A (MWc a kI kB kZ v_tape v_taped v_errorAt v_thrown v_world v_aside v_undone v_slots v_isKept v_undos v_seenPrefix v_seenLast v_seen v_previous v_gained v_gains v_decoded v_decodes v_readAt v_start v_kind v_word v_letters v_number v_fine v_text v_texted) sz) := by
  refine rw_start (Qc := fun A => rwQi dC dI A (MWc a kI kB kZ v_tape v_taped v_errorAt z.2 v_world v_aside v_undone v_slots v_isKept v_undos v_seenPrefix v_seenLast v_seen v_previous v_gained v_gains v_decoded v_decodes v_readAt v_start v_kind v_word v_letters v_number v_fine v_text v_texted) z.1) (cc := cX8_writtenCode) (maxL := 2) (ret := (some .int)) (by decide) rfl (Nat.le_of_ble_eq_true rfl) ?_
  intro p e s m args below meth c hx hb hr hml hown hts hlocks hNW hK A hA H locs ls hP hD hS hl
  have hown : s.vm.findClass RX8 = some m.cls := hown
  have hl : lv_has ls 2 [(0, .ref (a 0)), (1, .int p0)] := hl
  unfold J_X8_writtenCode at hJ
  refine lv_aload_n hx hb dX8_writtenCode_0 rfl (lv_at hl 0 rfl) ?_
  refine lv_iload_n hx hb dX8_writtenCode_1 rfl (lv_at hl 1 rfl) ?_
  obtain ⟨z1, e2, hJ⟩ := bnd hJ
  refine roVi (As := [.int p0]) (rest := []) (ci := 8) (q0 := 0) hx hb hml hown hts (c_X8_isWritten l dC dI kI kB kZ a v_tape v_taped v_errorAt v_thrown v_world v_aside v_undone v_slots v_isKept v_undos v_seenPrefix v_seenLast v_seen v_previous v_gained v_gains v_decoded v_decodes v_readAt v_start v_kind v_word v_letters v_number v_fine v_text v_texted p0 z1 e2) gX8_writtenCode_X8_isWritten qX8_isWritten rfl ⟨Nat.le_of_ble_eq_true rfl, Nat.le_of_ble_eq_true rfl⟩ ⟨rfl, rfl⟩ hNW hK hP hS hP hK rfl rfl rfl hl.1 rfl rfl (Nat.le_of_ble_eq_true rfl) dX8_writtenCode_2 z0 (fun H locs hP hS => ?_)
  refine lv_if_ne (tgt := 14) hx hb dX8_writtenCode_5 (by decide) (fun c3 => ?_) (fun c3 => ?_)
  · have hJ := ite_f c3 hJ
    refine lv_aload_n hx hb dX8_writtenCode_14 rfl (lv_at hl 0 rfl) ?_
    refine lv_aload_n hx hb dX8_writtenCode_15 rfl (lv_at hl 0 rfl) ?_
    refine lv_iload_n hx hb dX8_writtenCode_16 rfl (lv_at hl 1 rfl) ?_
    obtain ⟨z4, e5, hJ⟩ := bnd hJ
    refine roVi (As := [.int p0]) (rest := [.ref (a 0)]) (ci := 8) (q0 := 0) hx hb hml hown hts (c_X8_codeAt l dC dI kI kB kZ a v_tape v_taped v_errorAt v_thrown v_world v_aside v_undone v_slots v_isKept v_undos v_seenPrefix v_seenLast v_seen v_previous v_gained v_gains v_decoded v_decodes v_readAt v_start v_kind v_word v_letters v_number v_fine v_text v_texted p0 z4 e5) gX8_writtenCode_X8_codeAt qX8_codeAt rfl ⟨Nat.le_of_ble_eq_true rfl, Nat.le_of_ble_eq_true rfl⟩ ⟨rfl, rfl⟩ hNW hK hP hS hP hK rfl rfl rfl hl.1 rfl rfl (Nat.le_of_ble_eq_true rfl) dX8_writtenCode_17 z0 (fun H locs hP hS => ?_)
    obtain ⟨z6, e7, hJ⟩ := bnd hJ
    refine rwViW (As := [.int z4]) (rest := []) (ci := 8) (q0 := 0) hx hb hml hown hts (c_X8_told l dC dI kI kB kZ a v_tape v_taped v_errorAt v_thrown v_world v_aside v_undone v_slots v_isKept v_undos v_seenPrefix v_seenLast v_seen v_previous v_gained v_gains v_decoded v_decodes v_readAt v_start v_kind v_word v_letters v_number v_fine v_text v_texted z4 H.size z6 e7) gX8_writtenCode_X8_told qX8_told rfl ⟨Nat.le_of_ble_eq_true rfl, Nat.le_of_ble_eq_true rfl⟩ ⟨rfl, rfl⟩ hNW hK hP hD hS hA hK rfl rfl rfl hl.1 rfl rfl (Nat.le_of_ble_eq_true rfl) dX8_writtenCode_20 z0 (fun H locs hP hD hS => ?_)
    obtain rfl := Option.some.inj hJ
    exact rw_iret hx hb hr hlocks rfl hP hD hS dX8_writtenCode_23
  · have hJ := ite_t c3 hJ
    refine lv_aload_n hx hb dX8_writtenCode_8 rfl (lv_at hl 0 rfl) ?_
    refine lv_iconst (v := 1) hx hb dX8_writtenCode_9 (by decide) ?_
    obtain ⟨z8, e9, hJ⟩ := bnd hJ
    refine rwViW (As := [.int (1 : Int32)]) (rest := []) (ci := 8) (q0 := 0) hx hb hml hown hts (c_X8_throwing l dC dI kI kB kZ a v_tape v_taped v_errorAt v_thrown v_world v_aside v_undone v_slots v_isKept v_undos v_seenPrefix v_seenLast v_seen v_previous v_gained v_gains v_decoded v_decodes v_readAt v_start v_kind v_word v_letters v_number v_fine v_text v_texted (1 : Int32) H.size z8 e9) gX8_writtenCode_X8_throwing qX8_throwing rfl ⟨Nat.le_of_ble_eq_true rfl, Nat.le_of_ble_eq_true rfl⟩ ⟨rfl, rfl⟩ hNW hK hP hD hS hA hK rfl rfl rfl hl.1 rfl rfl (Nat.le_of_ble_eq_true rfl) dX8_writtenCode_10 z0 (fun H locs hP hD hS => ?_)
    obtain rfl := Option.some.inj hJ
    exact rw_iret hx hb hr hlocks rfl hP hD hS dX8_writtenCode_13
theorem qX8_writtenWidth : (yX8_writtenWidth.cls = RX8) ∧ yX8_writtenWidth.cls ≠ "java/lang/invoke/MethodHandle" ∧ yX8_writtenWidth.cls ≠ "java/lang/invoke/VarHandle" ∧ (parseMethodDescriptor yX8_writtenWidth.desc).map (fun d => d.parameters.length) = some 1 := by decide +kernel
set_option maxHeartbeats 4000000 in
set_option maxRecDepth 100000 in
theorem c_X8_writtenWidth (l : Launch) (dC : Nat → ClassId) (dI : Nat → Nat → Nat) (kI kB kZ : ClassId) (a : Nat → Nat) (v_tape : Nat → Int32) (v_taped : Int32) (v_errorAt : Int32) (v_thrown : Int32) (v_world : Nat → Int32) (v_aside : Nat → Int32) (v_undone : Nat → Int32) (v_slots : Nat → Int32) (v_isKept : Nat → Int32) (v_undos : Int32) (v_seenPrefix : Nat → Int32) (v_seenLast : Nat → Int32) (v_seen : Int32) (v_previous : Int32) (v_gained : Nat → Int32) (v_gains : Int32) (v_decoded : Nat → Int32) (v_decodes : Int32) (v_readAt : Int32) (v_start : Int32) (v_kind : Int32) (v_word : Int64) (v_letters : Int32) (v_number : Int32) (v_fine : Int32) (v_text : Nat → Int32) (v_texted : Int32) (p0 : Int32) (sz : Nat) (z : Int32 × Int32) (hJ : J_X8_writtenWidth v_thrown v_world p0 = some z) : Met l yX8_writtenWidth wsX8_writtenWidth ({ frames := 2, cells := 0, slots := 0, locals := 43 }) (va_Pc [.ref (a 0), .int p0] (RWp dC dI sz (MWc a kI kB kZ v_tape v_taped v_errorAt v_thrown v_world v_aside v_undone v_slots v_isKept v_undos v_seenPrefix v_seenLast v_seen v_previous v_gained v_gains v_decoded v_decodes v_readAt v_start v_kind v_word v_letters v_number v_fine v_text v_texted) [(kI, .int), (kB, .byte), (kZ, .boolean)])) (rwQi dC dI (va_A (MWc a kI kB kZ v_tape v_taped v_errorAt v_thrown v_world v_aside v_undone v_slots v_isKept v_undos v_seenPrefix v_seenLast v_seen v_previous v_gained v_gains v_decoded v_decodes v_readAt v_start v_kind v_word v_letters v_number v_fine v_text v_texted) sz) (MWc a kI kB kZ v_tape v_taped v_errorAt z.2 v_world v_aside v_undone v_slots v_isKept v_undos v_seenPrefix v_seenLast v_seen v_previous v_gained v_gains v_decoded v_decodes v_readAt v_start v_kind v_word v_letters v_number v_fine v_text v_texted) z.1) 0 0 (va_A (MWc a kI kB kZ v_tape v_taped v_errorAt v_thrown v_world v_aside v_undone v_slots v_isKept v_undos v_seenPrefix v_seenLast v_seen v_previous v_gained v_gains v_decoded v_decodes v_readAt v_start v_kind v_word v_letters v_number v_fine v_text v_texted) sz) := by
  refine rw_start (Qc := fun A => rwQi dC dI A (MWc a kI kB kZ v_tape v_taped v_errorAt z.2 v_world v_aside v_undone v_slots v_isKept v_undos v_seenPrefix v_seenLast v_seen v_previous v_gained v_gains v_decoded v_decodes v_readAt v_start v_kind v_word v_letters v_number v_fine v_text v_texted) z.1) (cc := cX8_writtenWidth) (maxL := 2) (ret := (some .int)) (by decide) rfl (Nat.le_of_ble_eq_true rfl) ?_
  intro p e s m args below meth c hx hb hr hml hown hts hlocks hNW hK A hA H locs ls hP hD hS hl
  have hown : s.vm.findClass RX8 = some m.cls := hown
  have hl : lv_has ls 2 [(0, .ref (a 0)), (1, .int p0)] := hl
  unfold J_X8_writtenWidth at hJ
  refine lv_aload_n hx hb dX8_writtenWidth_0 rfl (lv_at hl 0 rfl) ?_
  refine lv_iload_n hx hb dX8_writtenWidth_1 rfl (lv_at hl 1 rfl) ?_
  obtain ⟨z1, e2, hJ⟩ := bnd hJ
  refine roVi (As := [.int p0]) (rest := []) (ci := 8) (q0 := 0) hx hb hml hown hts (c_X8_isWritten l dC dI kI kB kZ a v_tape v_taped v_errorAt v_thrown v_world v_aside v_undone v_slots v_isKept v_undos v_seenPrefix v_seenLast v_seen v_previous v_gained v_gains v_decoded v_decodes v_readAt v_start v_kind v_word v_letters v_number v_fine v_text v_texted p0 z1 e2) gX8_writtenWidth_X8_isWritten qX8_isWritten rfl ⟨Nat.le_of_ble_eq_true rfl, Nat.le_of_ble_eq_true rfl⟩ ⟨rfl, rfl⟩ hNW hK hP hS hP hK rfl rfl rfl hl.1 rfl rfl (Nat.le_of_ble_eq_true rfl) dX8_writtenWidth_2 z0 (fun H locs hP hS => ?_)
  refine lv_if_ne (tgt := 14) hx hb dX8_writtenWidth_5 (by decide) (fun c3 => ?_) (fun c3 => ?_)
  · have hJ := ite_f c3 hJ
    refine lv_aload_n hx hb dX8_writtenWidth_14 rfl (lv_at hl 0 rfl) ?_
    refine lv_aload_n hx hb dX8_writtenWidth_15 rfl (lv_at hl 0 rfl) ?_
    refine lv_iload_n hx hb dX8_writtenWidth_16 rfl (lv_at hl 1 rfl) ?_
    obtain ⟨z4, e5, hJ⟩ := bnd hJ
    refine roVi (As := [.int p0]) (rest := [.ref (a 0)]) (ci := 8) (q0 := 0) hx hb hml hown hts (c_X8_widthAt l dC dI kI kB kZ a v_tape v_taped v_errorAt v_thrown v_world v_aside v_undone v_slots v_isKept v_undos v_seenPrefix v_seenLast v_seen v_previous v_gained v_gains v_decoded v_decodes v_readAt v_start v_kind v_word v_letters v_number v_fine v_text v_texted p0 z4 e5) gX8_writtenWidth_X8_widthAt qX8_widthAt rfl ⟨Nat.le_of_ble_eq_true rfl, Nat.le_of_ble_eq_true rfl⟩ ⟨rfl, rfl⟩ hNW hK hP hS hP hK rfl rfl rfl hl.1 rfl rfl (Nat.le_of_ble_eq_true rfl) dX8_writtenWidth_17 z0 (fun H locs hP hS => ?_)
    obtain ⟨z6, e7, hJ⟩ := bnd hJ
    refine rwViW (As := [.int z4]) (rest := []) (ci := 8) (q0 := 0) hx hb hml hown hts (c_X8_told l dC dI kI kB kZ a v_tape v_taped v_errorAt v_thrown v_world v_aside v_undone v_slots v_isKept v_undos v_seenPrefix v_seenLast v_seen v_previous v_gained v_gains v_decoded v_decodes v_readAt v_start v_kind v_word v_letters v_number v_fine v_text v_texted z4 H.size z6 e7) gX8_writtenWidth_X8_told qX8_told rfl ⟨Nat.le_of_ble_eq_true rfl, Nat.le_of_ble_eq_true rfl⟩ ⟨rfl, rfl⟩ hNW hK hP hD hS hA hK rfl rfl rfl hl.1 rfl rfl (Nat.le_of_ble_eq_true rfl) dX8_writtenWidth_20 z0 (fun H locs hP hD hS => ?_)
    obtain rfl := Option.some.inj hJ
    exact rw_iret hx hb hr hlocks rfl hP hD hS dX8_writtenWidth_23
  · have hJ := ite_t c3 hJ
    refine lv_aload_n hx hb dX8_writtenWidth_8 rfl (lv_at hl 0 rfl) ?_
    refine lv_iconst (v := 1) hx hb dX8_writtenWidth_9 (by decide) ?_
    obtain ⟨z8, e9, hJ⟩ := bnd hJ
    refine rwViW (As := [.int (1 : Int32)]) (rest := []) (ci := 8) (q0 := 0) hx hb hml hown hts (c_X8_throwing l dC dI kI kB kZ a v_tape v_taped v_errorAt v_thrown v_world v_aside v_undone v_slots v_isKept v_undos v_seenPrefix v_seenLast v_seen v_previous v_gained v_gains v_decoded v_decodes v_readAt v_start v_kind v_word v_letters v_number v_fine v_text v_texted (1 : Int32) H.size z8 e9) gX8_writtenWidth_X8_throwing qX8_throwing rfl ⟨Nat.le_of_ble_eq_true rfl, Nat.le_of_ble_eq_true rfl⟩ ⟨rfl, rfl⟩ hNW hK hP hD hS hA hK rfl rfl rfl hl.1 rfl rfl (Nat.le_of_ble_eq_true rfl) dX8_writtenWidth_10 z0 (fun H locs hP hD hS => ?_)
    obtain rfl := Option.some.inj hJ
    exact rw_iret hx hb hr hlocks rfl hP hD hS dX8_writtenWidth_13
theorem qX8_bitCount : (yX8_bitCount.cls = RX8) ∧ yX8_bitCount.cls ≠ "java/lang/invoke/MethodHandle" ∧ yX8_bitCount.cls ≠ "java/lang/invoke/VarHandle" ∧ (parseMethodDescriptor yX8_bitCount.desc).map (fun d => d.parameters.length) = some 0 := by decide +kernel
set_option maxHeartbeats 4000000 in
set_option maxRecDepth 100000 in
theorem c_X8_bitCount (fu : Nat) (l : Launch) (dC : Nat → ClassId) (dI : Nat → Nat → Nat) (kI kB kZ : ClassId) (a : Nat → Nat) (v_tape : Nat → Int32) (v_taped : Int32) (v_errorAt : Int32) (v_thrown : Int32) (v_world : Nat → Int32) (v_aside : Nat → Int32) (v_undone : Nat → Int32) (v_slots : Nat → Int32) (v_isKept : Nat → Int32) (v_undos : Int32) (v_seenPrefix : Nat → Int32) (v_seenLast : Nat → Int32) (v_seen : Int32) (v_previous : Int32) (v_gained : Nat → Int32) (v_gains : Int32) (v_decoded : Nat → Int32) (v_decodes : Int32) (v_readAt : Int32) (v_start : Int32) (v_kind : Int32) (v_word : Int64) (v_letters : Int32) (v_number : Int32) (v_fine : Int32) (v_text : Nat → Int32) (v_texted : Int32) (sz : Nat) (z : Int32 × Int32) (hJ : J_X8_bitCount fu v_thrown v_world = some z) : Met l yX8_bitCount wsX8_bitCount ({ frames := 3, cells := 0, slots := 0, locals := 64 }) (va_Pc [.ref (a 0)] (RWp dC dI sz (MWc a kI kB kZ v_tape v_taped v_errorAt v_thrown v_world v_aside v_undone v_slots v_isKept v_undos v_seenPrefix v_seenLast v_seen v_previous v_gained v_gains v_decoded v_decodes v_readAt v_start v_kind v_word v_letters v_number v_fine v_text v_texted) [(kI, .int), (kB, .byte), (kZ, .boolean)])) (rwQi dC dI (va_A (MWc a kI kB kZ v_tape v_taped v_errorAt v_thrown v_world v_aside v_undone v_slots v_isKept v_undos v_seenPrefix v_seenLast v_seen v_previous v_gained v_gains v_decoded v_decodes v_readAt v_start v_kind v_word v_letters v_number v_fine v_text v_texted) sz) (MWc a kI kB kZ v_tape v_taped v_errorAt z.2 v_world v_aside v_undone v_slots v_isKept v_undos v_seenPrefix v_seenLast v_seen v_previous v_gained v_gains v_decoded v_decodes v_readAt v_start v_kind v_word v_letters v_number v_fine v_text v_texted) z.1) 0 0 (va_A (MWc a kI kB kZ v_tape v_taped v_errorAt v_thrown v_world v_aside v_undone v_slots v_isKept v_undos v_seenPrefix v_seenLast v_seen v_previous v_gained v_gains v_decoded v_decodes v_readAt v_start v_kind v_word v_letters v_number v_fine v_text v_texted) sz) := by
  refine rw_start (Qc := fun A => rwQi dC dI A (MWc a kI kB kZ v_tape v_taped v_errorAt z.2 v_world v_aside v_undone v_slots v_isKept v_undos v_seenPrefix v_seenLast v_seen v_previous v_gained v_gains v_decoded v_decodes v_readAt v_start v_kind v_word v_letters v_number v_fine v_text v_texted) z.1) (cc := cX8_bitCount) (maxL := 1) (ret := (some .int)) (by decide) rfl (Nat.le_of_ble_eq_true rfl) ?_
  intro p e s m args below meth c hx hb hr hml hown hts hlocks hNW hK A hA H locs ls hP hD hS hl
  have hown : s.vm.findClass RX8 = some m.cls := hown
  have hl : lv_has ls 1 [(0, .ref (a 0))] := hl
  unfold J_X8_bitCount at hJ
  refine lv_aload_n hx hb dX8_bitCount_0 rfl (lv_at hl 0 rfl) ?_
  refine lv_aload_n hx hb dX8_bitCount_1 rfl (lv_at hl 0 rfl) ?_
  obtain ⟨z1, e2, hJ⟩ := bnd hJ
  refine roVi (As := []) (rest := [.ref (a 0)]) (ci := 8) (q0 := 0) hx hb hml hown hts (c_X8_allBits fu l dC dI kI kB kZ a v_tape v_taped v_errorAt v_thrown v_world v_aside v_undone v_slots v_isKept v_undos v_seenPrefix v_seenLast v_seen v_previous v_gained v_gains v_decoded v_decodes v_readAt v_start v_kind v_word v_letters v_number v_fine v_text v_texted z1 e2) gX8_bitCount_X8_allBits qX8_allBits rfl ⟨Nat.le_of_ble_eq_true rfl, Nat.le_of_ble_eq_true rfl⟩ ⟨rfl, rfl⟩ hNW hK hP hS hP hK rfl rfl rfl hl.1 rfl rfl (Nat.le_of_ble_eq_true rfl) dX8_bitCount_2 z0 (fun H locs hP hS => ?_)
  obtain ⟨z3, e4, hJ⟩ := bnd hJ
  refine rwViW (As := [.int z1]) (rest := []) (ci := 8) (q0 := 0) hx hb hml hown hts (c_X8_told l dC dI kI kB kZ a v_tape v_taped v_errorAt v_thrown v_world v_aside v_undone v_slots v_isKept v_undos v_seenPrefix v_seenLast v_seen v_previous v_gained v_gains v_decoded v_decodes v_readAt v_start v_kind v_word v_letters v_number v_fine v_text v_texted z1 H.size z3 e4) gX8_bitCount_X8_told qX8_told rfl ⟨Nat.le_of_ble_eq_true rfl, Nat.le_of_ble_eq_true rfl⟩ ⟨rfl, rfl⟩ hNW hK hP hD hS hA hK rfl rfl rfl hl.1 rfl rfl (Nat.le_of_ble_eq_true rfl) dX8_bitCount_5 z0 (fun H locs hP hD hS => ?_)
  obtain rfl := Option.some.inj hJ
  exact rw_iret hx hb hr hlocks rfl hP hD hS dX8_bitCount_8
theorem qX8_bit : (yX8_bit.cls = RX8) ∧ yX8_bit.cls ≠ "java/lang/invoke/MethodHandle" ∧ yX8_bit.cls ≠ "java/lang/invoke/VarHandle" ∧ (parseMethodDescriptor yX8_bit.desc).map (fun d => d.parameters.length) = some 1 := by decide +kernel
set_option maxHeartbeats 4000000 in
set_option maxRecDepth 100000 in
theorem c_X8_bit (fu : Nat) (l : Launch) (dC : Nat → ClassId) (dI : Nat → Nat → Nat) (kI kB kZ : ClassId) (a : Nat → Nat) (v_tape : Nat → Int32) (v_taped : Int32) (v_errorAt : Int32) (v_thrown : Int32) (v_world : Nat → Int32) (v_aside : Nat → Int32) (v_undone : Nat → Int32) (v_slots : Nat → Int32) (v_isKept : Nat → Int32) (v_undos : Int32) (v_seenPrefix : Nat → Int32) (v_seenLast : Nat → Int32) (v_seen : Int32) (v_previous : Int32) (v_gained : Nat → Int32) (v_gains : Int32) (v_decoded : Nat → Int32) (v_decodes : Int32) (v_readAt : Int32) (v_start : Int32) (v_kind : Int32) (v_word : Int64) (v_letters : Int32) (v_number : Int32) (v_fine : Int32) (v_text : Nat → Int32) (v_texted : Int32) (p0 : Int32) (z : Int32) (hJ : J_X8_bit fu v_world p0 = some z) : Met l yX8_bit wsX8_bit ({ frames := 1, cells := 0, slots := 0, locals := 21 }) (va_Pc [.ref (a 0), .int p0] (ROp dC dI (MWc a kI kB kZ v_tape v_taped v_errorAt v_thrown v_world v_aside v_undone v_slots v_isKept v_undos v_seenPrefix v_seenLast v_seen v_previous v_gained v_gains v_decoded v_decodes v_readAt v_start v_kind v_word v_letters v_number v_fine v_text v_texted) [(kI, .int), (kB, .byte), (kZ, .boolean)])) (roQi z) 0 0 (fun _ => False) := by
  refine ro_start (cc := cX8_bit) (maxL := 5) (ret := (some .int)) (by decide) rfl (Nat.le_of_ble_eq_true rfl) ?_
  intro p e s m args below meth c hx hb hr hml hown hts hlocks hNW hK H locs ls hP hS hl
  have hown : s.vm.findClass RX8 = some m.cls := hown
  have hl : lv_has ls 5 [(0, .ref (a 0)), (1, .int p0)] := hl
  unfold J_X8_bit at hJ
  have L4 : ∀ (n : Nat) (y2 : Int32) (y3 : Int32) (H : Heap) (locs : List Loc) (ls : Array Slot), va_P (dC, dI) vwCl (MWc a kI kB kZ v_tape v_taped v_errorAt v_thrown v_world v_aside v_undone v_slots v_isKept v_undos v_seenPrefix v_seenLast v_seen v_previous v_gained v_gains v_decoded v_decodes v_readAt v_start v_kind v_word v_letters v_number v_fine v_text v_texted) H → va_S (fun _ => False) s.heap H locs → lv_has ls 5 [(0, .ref (a 0)), (2, .int y2), (3, .int y3)] → J_X8_bit_b4 fu v_world n y2 y3 = some z → W p l e ({ frames := 1, cells := 0, slots := 0, locals := 21 }) s m args below meth c H locs 0 0 (MQ below (roQi z) args s 0 0 (fun _ => False)) (F0 m 4 ls []) := by
    intro n
    induction n with
    | zero =>
      intro y2 y3 H locs ls hP hS hl hJ
      rw [J_X8_bit_b4] at hJ; cases hJ
    | succ n ih =>
      intro y2 y3 H locs ls hP hS hl hJ
      rw [J_X8_bit_b4] at hJ
      refine lv_iload_n hx hb dX8_bit_4 rfl (lv_at hl 1 rfl) ?_
      refine lv_aload_n hx hb dX8_bit_5 rfl (lv_at hl 0 rfl) ?_
      refine lv_iload_n hx hb dX8_bit_6 rfl (lv_at hl 2 rfl) ?_
      obtain ⟨z1, e2, hJ⟩ := bnd hJ
      refine roVi (As := [.int y3]) (rest := [.int y2]) (ci := 8) (q0 := 0) hx hb hml hown hts (c_X8_widthAt l dC dI kI kB kZ a v_tape v_taped v_errorAt v_thrown v_world v_aside v_undone v_slots v_isKept v_undos v_seenPrefix v_seenLast v_seen v_previous v_gained v_gains v_decoded v_decodes v_readAt v_start v_kind v_word v_letters v_number v_fine v_text v_texted y3 z1 e2) gX8_bit_X8_widthAt qX8_widthAt rfl ⟨Nat.le_of_ble_eq_true rfl, Nat.le_of_ble_eq_true rfl⟩ ⟨rfl, rfl⟩ hNW hK hP hS hP hK rfl rfl rfl hl.1 rfl rfl (Nat.le_of_ble_eq_true rfl) dX8_bit_7 z0 (fun H locs hP hS => ?_)
      refine lv_icmp_lt (tgt := 27) hx hb dX8_bit_10 (by decide) (fun c3 => ?_) (fun c3 => ?_)
      · have hJ := ite_t c3 hJ
        refine lv_aload_n hx hb dX8_bit_27 rfl (lv_at hl 0 rfl) ?_
        refine lv_iload_n hx hb dX8_bit_28 rfl (lv_at hl 2 rfl) ?_
        obtain ⟨z4, e5, hJ⟩ := bnd hJ
        refine roVi (As := [.int y3]) (rest := []) (ci := 8) (q0 := 0) hx hb hml hown hts (c_X8_widthAt l dC dI kI kB kZ a v_tape v_taped v_errorAt v_thrown v_world v_aside v_undone v_slots v_isKept v_undos v_seenPrefix v_seenLast v_seen v_previous v_gained v_gains v_decoded v_decodes v_readAt v_start v_kind v_word v_letters v_number v_fine v_text v_texted y3 z4 e5) gX8_bit_X8_widthAt qX8_widthAt rfl ⟨Nat.le_of_ble_eq_true rfl, Nat.le_of_ble_eq_true rfl⟩ ⟨rfl, rfl⟩ hNW hK hP hS hP hK rfl rfl rfl hl.1 rfl rfl (Nat.le_of_ble_eq_true rfl) dX8_bit_29 z0 (fun H locs hP hS => ?_)
        refine lv_iconst (v := 1) hx hb dX8_bit_32 (by decide) ?_
        refine lv_isub hx hb dX8_bit_33 ?_
        refine lv_iload_n hx hb dX8_bit_34 rfl (lv_at hl 1 rfl) ?_
        refine lv_isub hx hb dX8_bit_35 ?_
        refine lv_istore (lv' := [(4, .int ((z4 - (1 : Int32)) - y2)), (0, .ref (a 0)), (2, .int y2), (3, .int y3)]) hx hb dX8_bit_36 hl (by decide) rfl (fun ls hl => ?_)
        refine lv_aload_n hx hb dX8_bit_38 rfl (lv_at hl 1 rfl) ?_
        refine lv_iload_n hx hb dX8_bit_39 rfl (lv_at hl 3 rfl) ?_
        obtain ⟨z6, e7, hJ⟩ := bnd hJ
        refine roVi (As := [.int y3]) (rest := []) (ci := 8) (q0 := 0) hx hb hml hown hts (c_X8_codeAt l dC dI kI kB kZ a v_tape v_taped v_errorAt v_thrown v_world v_aside v_undone v_slots v_isKept v_undos v_seenPrefix v_seenLast v_seen v_previous v_gained v_gains v_decoded v_decodes v_readAt v_start v_kind v_word v_letters v_number v_fine v_text v_texted y3 z6 e7) gX8_bit_X8_codeAt qX8_codeAt rfl ⟨Nat.le_of_ble_eq_true rfl, Nat.le_of_ble_eq_true rfl⟩ ⟨rfl, rfl⟩ hNW hK hP hS hP hK rfl rfl rfl hl.1 rfl rfl (Nat.le_of_ble_eq_true rfl) dX8_bit_40 z0 (fun H locs hP hS => ?_)
        refine lv_iload hx hb dX8_bit_43 (lv_at hl 0 rfl) ?_
        refine lv_ishr hx hb dX8_bit_45 ?_
        refine lv_iconst (v := 1) hx hb dX8_bit_46 (by decide) ?_
        refine lv_iand hx hb dX8_bit_47 ?_
        exact ro_iret hx hb hr hlocks hS hJ dX8_bit_48
      · have hJ := ite_f c3 hJ
        refine lv_iload_n hx hb dX8_bit_13 rfl (lv_at hl 1 rfl) ?_
        refine lv_aload_n hx hb dX8_bit_14 rfl (lv_at hl 0 rfl) ?_
        refine lv_iload_n hx hb dX8_bit_15 rfl (lv_at hl 2 rfl) ?_
        obtain ⟨z8, e9, hJ⟩ := bnd hJ
        refine roVi (As := [.int y3]) (rest := [.int y2]) (ci := 8) (q0 := 0) hx hb hml hown hts (c_X8_widthAt l dC dI kI kB kZ a v_tape v_taped v_errorAt v_thrown v_world v_aside v_undone v_slots v_isKept v_undos v_seenPrefix v_seenLast v_seen v_previous v_gained v_gains v_decoded v_decodes v_readAt v_start v_kind v_word v_letters v_number v_fine v_text v_texted y3 z8 e9) gX8_bit_X8_widthAt qX8_widthAt rfl ⟨Nat.le_of_ble_eq_true rfl, Nat.le_of_ble_eq_true rfl⟩ ⟨rfl, rfl⟩ hNW hK hP hS hP hK rfl rfl rfl hl.1 rfl rfl (Nat.le_of_ble_eq_true rfl) dX8_bit_16 z0 (fun H locs hP hS => ?_)
        refine lv_isub hx hb dX8_bit_19 ?_
        refine lv_istore_n (lv' := [(2, .int (y2 - z8)), (0, .ref (a 0)), (3, .int y3)]) hx hb dX8_bit_20 rfl hl (by decide) rfl (fun ls hl => ?_)
        refine lv_iinc (v := y3 + 1) (lv' := [(3, .int (y3 + 1)), (2, .int (y2 - z8)), (0, .ref (a 0))]) hx hb dX8_bit_21 hl (k := 2) rfl rfl (by decide) rfl (fun ls hl => ?_)
        refine lv_goto (tgt := 4) hx hb dX8_bit_24 (by decide) ?_
        exact ih (y2 - z8) (y3 + 1) H locs ls hP hS (lv_sub hl [2, 1, 0] rfl) hJ
  refine lv_iload_n hx hb dX8_bit_0 rfl (lv_at hl 1 rfl) ?_
  refine lv_istore_n (lv' := [(2, .int p0), (0, .ref (a 0)), (1, .int p0)]) hx hb dX8_bit_1 rfl hl (by decide) rfl (fun ls hl => ?_)
  refine lv_iconst (v := 0) hx hb dX8_bit_2 (by decide) ?_
  refine lv_istore_n (lv' := [(3, .int (0 : Int32)), (2, .int p0), (0, .ref (a 0)), (1, .int p0)]) hx hb dX8_bit_3 rfl hl (by decide) rfl (fun ls hl => ?_)
  exact L4 fu p0 (0 : Int32) H locs ls hP hS (lv_sub hl [2, 1, 0] rfl) hJ
theorem qX8_bitAt : (yX8_bitAt.cls = RX8) ∧ yX8_bitAt.cls ≠ "java/lang/invoke/MethodHandle" ∧ yX8_bitAt.cls ≠ "java/lang/invoke/VarHandle" ∧ (parseMethodDescriptor yX8_bitAt.desc).map (fun d => d.parameters.length) = some 1 := by decide +kernel
set_option maxHeartbeats 4000000 in
set_option maxRecDepth 100000 in
theorem c_X8_bitAt (fu : Nat) (l : Launch) (dC : Nat → ClassId) (dI : Nat → Nat → Nat) (kI kB kZ : ClassId) (a : Nat → Nat) (v_tape : Nat → Int32) (v_taped : Int32) (v_errorAt : Int32) (v_thrown : Int32) (v_world : Nat → Int32) (v_aside : Nat → Int32) (v_undone : Nat → Int32) (v_slots : Nat → Int32) (v_isKept : Nat → Int32) (v_undos : Int32) (v_seenPrefix : Nat → Int32) (v_seenLast : Nat → Int32) (v_seen : Int32) (v_previous : Int32) (v_gained : Nat → Int32) (v_gains : Int32) (v_decoded : Nat → Int32) (v_decodes : Int32) (v_readAt : Int32) (v_start : Int32) (v_kind : Int32) (v_word : Int64) (v_letters : Int32) (v_number : Int32) (v_fine : Int32) (v_text : Nat → Int32) (v_texted : Int32) (p0 : Int32) (sz : Nat) (z : Int32 × Int32) (hJ : J_X8_bitAt fu v_thrown v_world p0 = some z) : Met l yX8_bitAt wsX8_bitAt ({ frames := 3, cells := 0, slots := 0, locals := 64 }) (va_Pc [.ref (a 0), .int p0] (RWp dC dI sz (MWc a kI kB kZ v_tape v_taped v_errorAt v_thrown v_world v_aside v_undone v_slots v_isKept v_undos v_seenPrefix v_seenLast v_seen v_previous v_gained v_gains v_decoded v_decodes v_readAt v_start v_kind v_word v_letters v_number v_fine v_text v_texted) [(kI, .int), (kB, .byte), (kZ, .boolean)])) (rwQi dC dI (va_A (MWc a kI kB kZ v_tape v_taped v_errorAt v_thrown v_world v_aside v_undone v_slots v_isKept v_undos v_seenPrefix v_seenLast v_seen v_previous v_gained v_gains v_decoded v_decodes v_readAt v_start v_kind v_word v_letters v_number v_fine v_text v_texted) sz) (MWc a kI kB kZ v_tape v_taped v_errorAt z.2 v_world v_aside v_undone v_slots v_isKept v_undos v_seenPrefix v_seenLast v_seen v_previous v_gained v_gains v_decoded v_decodes v_readAt v_start v_kind v_word v_letters v_number v_fine v_text v_texted) z.1) 0 0 (va_A (MWc a kI kB kZ v_tape v_taped v_errorAt v_thrown v_world v_aside v_undone v_slots v_isKept v_undos v_seenPrefix v_seenLast v_seen v_previous v_gained v_gains v_decoded v_decodes v_readAt v_start v_kind v_word v_letters v_number v_fine v_text v_texted) sz) := by
  refine rw_start (Qc := fun A => rwQi dC dI A (MWc a kI kB kZ v_tape v_taped v_errorAt z.2 v_world v_aside v_undone v_slots v_isKept v_undos v_seenPrefix v_seenLast v_seen v_previous v_gained v_gains v_decoded v_decodes v_readAt v_start v_kind v_word v_letters v_number v_fine v_text v_texted) z.1) (cc := cX8_bitAt) (maxL := 2) (ret := (some .int)) (by decide) rfl (Nat.le_of_ble_eq_true rfl) ?_
  intro p e s m args below meth c hx hb hr hml hown hts hlocks hNW hK A hA H locs ls hP hD hS hl
  have hown : s.vm.findClass RX8 = some m.cls := hown
  have hl : lv_has ls 2 [(0, .ref (a 0)), (1, .int p0)] := hl
  unfold J_X8_bitAt at hJ
  refine lv_iload_n hx hb dX8_bitAt_0 rfl (lv_at hl 1 rfl) ?_
  refine lv_iconst (v := 0) hx hb dX8_bitAt_1 (by decide) ?_
  refine lv_aload_n hx hb dX8_bitAt_2 rfl (lv_at hl 0 rfl) ?_
  obtain ⟨z1, e2, hJ⟩ := bnd hJ
  refine roVi (As := []) (rest := [.int (0 : Int32), .int p0]) (ci := 8) (q0 := 0) hx hb hml hown hts (c_X8_allBits fu l dC dI kI kB kZ a v_tape v_taped v_errorAt v_thrown v_world v_aside v_undone v_slots v_isKept v_undos v_seenPrefix v_seenLast v_seen v_previous v_gained v_gains v_decoded v_decodes v_readAt v_start v_kind v_word v_letters v_number v_fine v_text v_texted z1 e2) gX8_bitAt_X8_allBits qX8_allBits rfl ⟨Nat.le_of_ble_eq_true rfl, Nat.le_of_ble_eq_true rfl⟩ ⟨rfl, rfl⟩ hNW hK hP hS hP hK rfl rfl rfl hl.1 rfl rfl (Nat.le_of_ble_eq_true rfl) dX8_bitAt_3 z0 (fun H locs hP hS => ?_)
  refine lv_iconst (v := 1) hx hb dX8_bitAt_6 (by decide) ?_
  refine lv_isub hx hb dX8_bitAt_7 ?_
  obtain ⟨z3, e4, hJ⟩ := bnd hJ
  refine roSi (As := [.int p0, .int (0 : Int32), .int (z1 - (1 : Int32))]) (rest := []) hx hb hml hown hts (c_X8_in l dC dI p0 (0 : Int32) (z1 - (1 : Int32)) z3 e4) gX8_bitAt_X8_in qX8_in rfl ⟨Nat.le_of_ble_eq_true rfl, Nat.le_of_ble_eq_true rfl⟩ ⟨rfl, rfl⟩ hNW hK hP hS (hP.sub (ws' := []) [] rfl) (hK.sub (tys' := []) [] rfl) hl.1 rfl rfl (Nat.le_of_ble_eq_true rfl) dX8_bitAt_8 z0 (fun H locs hP hS => ?_)
  refine lv_if_ne (tgt := 20) hx hb dX8_bitAt_11 (by decide) (fun c5 => ?_) (fun c5 => ?_)
  · have hJ := ite_f c5 hJ
    refine lv_aload_n hx hb dX8_bitAt_20 rfl (lv_at hl 0 rfl) ?_
    refine lv_aload_n hx hb dX8_bitAt_21 rfl (lv_at hl 0 rfl) ?_
    refine lv_iload_n hx hb dX8_bitAt_22 rfl (lv_at hl 1 rfl) ?_
    obtain ⟨z6, e7, hJ⟩ := bnd hJ
    refine roVi (As := [.int p0]) (rest := [.ref (a 0)]) (ci := 8) (q0 := 0) hx hb hml hown hts (c_X8_bit fu l dC dI kI kB kZ a v_tape v_taped v_errorAt v_thrown v_world v_aside v_undone v_slots v_isKept v_undos v_seenPrefix v_seenLast v_seen v_previous v_gained v_gains v_decoded v_decodes v_readAt v_start v_kind v_word v_letters v_number v_fine v_text v_texted p0 z6 e7) gX8_bitAt_X8_bit qX8_bit rfl ⟨Nat.le_of_ble_eq_true rfl, Nat.le_of_ble_eq_true rfl⟩ ⟨rfl, rfl⟩ hNW hK hP hS hP hK rfl rfl rfl hl.1 rfl rfl (Nat.le_of_ble_eq_true rfl) dX8_bitAt_23 z0 (fun H locs hP hS => ?_)
    obtain ⟨z8, e9, hJ⟩ := bnd hJ
    refine rwViW (As := [.int z6]) (rest := []) (ci := 8) (q0 := 0) hx hb hml hown hts (c_X8_told l dC dI kI kB kZ a v_tape v_taped v_errorAt v_thrown v_world v_aside v_undone v_slots v_isKept v_undos v_seenPrefix v_seenLast v_seen v_previous v_gained v_gains v_decoded v_decodes v_readAt v_start v_kind v_word v_letters v_number v_fine v_text v_texted z6 H.size z8 e9) gX8_bitAt_X8_told qX8_told rfl ⟨Nat.le_of_ble_eq_true rfl, Nat.le_of_ble_eq_true rfl⟩ ⟨rfl, rfl⟩ hNW hK hP hD hS hA hK rfl rfl rfl hl.1 rfl rfl (Nat.le_of_ble_eq_true rfl) dX8_bitAt_26 z0 (fun H locs hP hD hS => ?_)
    obtain rfl := Option.some.inj hJ
    exact rw_iret hx hb hr hlocks rfl hP hD hS dX8_bitAt_29
  · have hJ := ite_t c5 hJ
    refine lv_aload_n hx hb dX8_bitAt_14 rfl (lv_at hl 0 rfl) ?_
    refine lv_iconst (v := 1) hx hb dX8_bitAt_15 (by decide) ?_
    obtain ⟨z10, e11, hJ⟩ := bnd hJ
    refine rwViW (As := [.int (1 : Int32)]) (rest := []) (ci := 8) (q0 := 0) hx hb hml hown hts (c_X8_throwing l dC dI kI kB kZ a v_tape v_taped v_errorAt v_thrown v_world v_aside v_undone v_slots v_isKept v_undos v_seenPrefix v_seenLast v_seen v_previous v_gained v_gains v_decoded v_decodes v_readAt v_start v_kind v_word v_letters v_number v_fine v_text v_texted (1 : Int32) H.size z10 e11) gX8_bitAt_X8_throwing qX8_throwing rfl ⟨Nat.le_of_ble_eq_true rfl, Nat.le_of_ble_eq_true rfl⟩ ⟨rfl, rfl⟩ hNW hK hP hD hS hA hK rfl rfl rfl hl.1 rfl rfl (Nat.le_of_ble_eq_true rfl) dX8_bitAt_16 z0 (fun H locs hP hD hS => ?_)
    obtain rfl := Option.some.inj hJ
    exact rw_iret hx hb hr hlocks rfl hP hD hS dX8_bitAt_19
theorem qX8_bytes : (yX8_bytes.cls = RX8) ∧ yX8_bytes.cls ≠ "java/lang/invoke/MethodHandle" ∧ yX8_bytes.cls ≠ "java/lang/invoke/VarHandle" ∧ (parseMethodDescriptor yX8_bytes.desc).map (fun d => d.parameters.length) = some 0 := by decide +kernel
set_option maxHeartbeats 4000000 in
set_option maxRecDepth 100000 in
theorem c_X8_bytes (fu : Nat) (l : Launch) (dC : Nat → ClassId) (dI : Nat → Nat → Nat) (kI kB kZ : ClassId) (a : Nat → Nat) (v_tape : Nat → Int32) (v_taped : Int32) (v_errorAt : Int32) (v_thrown : Int32) (v_world : Nat → Int32) (v_aside : Nat → Int32) (v_undone : Nat → Int32) (v_slots : Nat → Int32) (v_isKept : Nat → Int32) (v_undos : Int32) (v_seenPrefix : Nat → Int32) (v_seenLast : Nat → Int32) (v_seen : Int32) (v_previous : Int32) (v_gained : Nat → Int32) (v_gains : Int32) (v_decoded : Nat → Int32) (v_decodes : Int32) (v_readAt : Int32) (v_start : Int32) (v_kind : Int32) (v_word : Int64) (v_letters : Int32) (v_number : Int32) (v_fine : Int32) (v_text : Nat → Int32) (v_texted : Int32) (z : Int32) (hJ : J_X8_bytes fu v_world = some z) : Met l yX8_bytes wsX8_bytes ({ frames := 3, cells := 0, slots := 0, locals := 64 }) (va_Pc [.ref (a 0)] (ROp dC dI (MWc a kI kB kZ v_tape v_taped v_errorAt v_thrown v_world v_aside v_undone v_slots v_isKept v_undos v_seenPrefix v_seenLast v_seen v_previous v_gained v_gains v_decoded v_decodes v_readAt v_start v_kind v_word v_letters v_number v_fine v_text v_texted) [(kI, .int), (kB, .byte), (kZ, .boolean)])) (roQi z) 0 0 (fun _ => False) := by
  refine ro_start (cc := cX8_bytes) (maxL := 1) (ret := (some .int)) (by decide) rfl (Nat.le_of_ble_eq_true rfl) ?_
  intro p e s m args below meth c hx hb hr hml hown hts hlocks hNW hK H locs ls hP hS hl
  have hown : s.vm.findClass RX8 = some m.cls := hown
  have hl : lv_has ls 1 [(0, .ref (a 0))] := hl
  unfold J_X8_bytes at hJ
  refine lv_aload_n hx hb dX8_bytes_0 rfl (lv_at hl 0 rfl) ?_
  obtain ⟨z1, e2, hJ⟩ := bnd hJ
  refine roVi (As := []) (rest := []) (ci := 8) (q0 := 0) hx hb hml hown hts (c_X8_allBits fu l dC dI kI kB kZ a v_tape v_taped v_errorAt v_thrown v_world v_aside v_undone v_slots v_isKept v_undos v_seenPrefix v_seenLast v_seen v_previous v_gained v_gains v_decoded v_decodes v_readAt v_start v_kind v_word v_letters v_number v_fine v_text v_texted z1 e2) gX8_bytes_X8_allBits qX8_allBits rfl ⟨Nat.le_of_ble_eq_true rfl, Nat.le_of_ble_eq_true rfl⟩ ⟨rfl, rfl⟩ hNW hK hP hS hP hK rfl rfl rfl hl.1 rfl rfl (Nat.le_of_ble_eq_true rfl) dX8_bytes_1 z0 (fun H locs hP hS => ?_)
  refine lv_bipush (v := 7) hx hb dX8_bytes_4 (by decide) ?_
  refine lv_iadd hx hb dX8_bytes_6 ?_
  refine lv_bipush (v := 8) hx hb dX8_bytes_7 (by decide) ?_
  refine lv_idiv hx hb dX8_bytes_9 (by decide) ?_
  exact ro_iret hx hb hr hlocks hS hJ dX8_bytes_10
theorem qX8_byteCount : (yX8_byteCount.cls = RX8) ∧ yX8_byteCount.cls ≠ "java/lang/invoke/MethodHandle" ∧ yX8_byteCount.cls ≠ "java/lang/invoke/VarHandle" ∧ (parseMethodDescriptor yX8_byteCount.desc).map (fun d => d.parameters.length) = some 0 := by decide +kernel
set_option maxHeartbeats 4000000 in
set_option maxRecDepth 100000 in
theorem c_X8_byteCount (fu : Nat) (l : Launch) (dC : Nat → ClassId) (dI : Nat → Nat → Nat) (kI kB kZ : ClassId) (a : Nat → Nat) (v_tape : Nat → Int32) (v_taped : Int32) (v_errorAt : Int32) (v_thrown : Int32) (v_world : Nat → Int32) (v_aside : Nat → Int32) (v_undone : Nat → Int32) (v_slots : Nat → Int32) (v_isKept : Nat → Int32) (v_undos : Int32) (v_seenPrefix : Nat → Int32) (v_seenLast : Nat → Int32) (v_seen : Int32) (v_previous : Int32) (v_gained : Nat → Int32) (v_gains : Int32) (v_decoded : Nat → Int32) (v_decodes : Int32) (v_readAt : Int32) (v_start : Int32) (v_kind : Int32) (v_word : Int64) (v_letters : Int32) (v_number : Int32) (v_fine : Int32) (v_text : Nat → Int32) (v_texted : Int32) (sz : Nat) (z : Int32 × Int32) (hJ : J_X8_byteCount fu v_thrown v_world = some z) : Met l yX8_byteCount wsX8_byteCount ({ frames := 4, cells := 0, slots := 0, locals := 84 }) (va_Pc [.ref (a 0)] (RWp dC dI sz (MWc a kI kB kZ v_tape v_taped v_errorAt v_thrown v_world v_aside v_undone v_slots v_isKept v_undos v_seenPrefix v_seenLast v_seen v_previous v_gained v_gains v_decoded v_decodes v_readAt v_start v_kind v_word v_letters v_number v_fine v_text v_texted) [(kI, .int), (kB, .byte), (kZ, .boolean)])) (rwQi dC dI (va_A (MWc a kI kB kZ v_tape v_taped v_errorAt v_thrown v_world v_aside v_undone v_slots v_isKept v_undos v_seenPrefix v_seenLast v_seen v_previous v_gained v_gains v_decoded v_decodes v_readAt v_start v_kind v_word v_letters v_number v_fine v_text v_texted) sz) (MWc a kI kB kZ v_tape v_taped v_errorAt z.2 v_world v_aside v_undone v_slots v_isKept v_undos v_seenPrefix v_seenLast v_seen v_previous v_gained v_gains v_decoded v_decodes v_readAt v_start v_kind v_word v_letters v_number v_fine v_text v_texted) z.1) 0 0 (va_A (MWc a kI kB kZ v_tape v_taped v_errorAt v_thrown v_world v_aside v_undone v_slots v_isKept v_undos v_seenPrefix v_seenLast v_seen v_previous v_gained v_gains v_decoded v_decodes v_readAt v_start v_kind v_word v_letters v_number v_fine v_text v_texted) sz) := by
  refine rw_start (Qc := fun A => rwQi dC dI A (MWc a kI kB kZ v_tape v_taped v_errorAt z.2 v_world v_aside v_undone v_slots v_isKept v_undos v_seenPrefix v_seenLast v_seen v_previous v_gained v_gains v_decoded v_decodes v_readAt v_start v_kind v_word v_letters v_number v_fine v_text v_texted) z.1) (cc := cX8_byteCount) (maxL := 1) (ret := (some .int)) (by decide) rfl (Nat.le_of_ble_eq_true rfl) ?_
  intro p e s m args below meth c hx hb hr hml hown hts hlocks hNW hK A hA H locs ls hP hD hS hl
  have hown : s.vm.findClass RX8 = some m.cls := hown
  have hl : lv_has ls 1 [(0, .ref (a 0))] := hl
  unfold J_X8_byteCount at hJ
  refine lv_aload_n hx hb dX8_byteCount_0 rfl (lv_at hl 0 rfl) ?_
  refine lv_aload_n hx hb dX8_byteCount_1 rfl (lv_at hl 0 rfl) ?_
  obtain ⟨z1, e2, hJ⟩ := bnd hJ
  refine roVi (As := []) (rest := [.ref (a 0)]) (ci := 8) (q0 := 0) hx hb hml hown hts (c_X8_bytes fu l dC dI kI kB kZ a v_tape v_taped v_errorAt v_thrown v_world v_aside v_undone v_slots v_isKept v_undos v_seenPrefix v_seenLast v_seen v_previous v_gained v_gains v_decoded v_decodes v_readAt v_start v_kind v_word v_letters v_number v_fine v_text v_texted z1 e2) gX8_byteCount_X8_bytes qX8_bytes rfl ⟨Nat.le_of_ble_eq_true rfl, Nat.le_of_ble_eq_true rfl⟩ ⟨rfl, rfl⟩ hNW hK hP hS hP hK rfl rfl rfl hl.1 rfl rfl (Nat.le_of_ble_eq_true rfl) dX8_byteCount_2 z0 (fun H locs hP hS => ?_)
  obtain ⟨z3, e4, hJ⟩ := bnd hJ
  refine rwViW (As := [.int z1]) (rest := []) (ci := 8) (q0 := 0) hx hb hml hown hts (c_X8_told l dC dI kI kB kZ a v_tape v_taped v_errorAt v_thrown v_world v_aside v_undone v_slots v_isKept v_undos v_seenPrefix v_seenLast v_seen v_previous v_gained v_gains v_decoded v_decodes v_readAt v_start v_kind v_word v_letters v_number v_fine v_text v_texted z1 H.size z3 e4) gX8_byteCount_X8_told qX8_told rfl ⟨Nat.le_of_ble_eq_true rfl, Nat.le_of_ble_eq_true rfl⟩ ⟨rfl, rfl⟩ hNW hK hP hD hS hA hK rfl rfl rfl hl.1 rfl rfl (Nat.le_of_ble_eq_true rfl) dX8_byteCount_5 z0 (fun H locs hP hD hS => ?_)
  obtain rfl := Option.some.inj hJ
  exact rw_iret hx hb hr hlocks rfl hP hD hS dX8_byteCount_8
theorem qX8_byteAt : (yX8_byteAt.cls = RX8) ∧ yX8_byteAt.cls ≠ "java/lang/invoke/MethodHandle" ∧ yX8_byteAt.cls ≠ "java/lang/invoke/VarHandle" ∧ (parseMethodDescriptor yX8_byteAt.desc).map (fun d => d.parameters.length) = some 1 := by decide +kernel
set_option maxHeartbeats 4000000 in
set_option maxRecDepth 100000 in
theorem c_X8_byteAt (fu : Nat) (l : Launch) (dC : Nat → ClassId) (dI : Nat → Nat → Nat) (kI kB kZ : ClassId) (a : Nat → Nat) (v_tape : Nat → Int32) (v_taped : Int32) (v_errorAt : Int32) (v_thrown : Int32) (v_world : Nat → Int32) (v_aside : Nat → Int32) (v_undone : Nat → Int32) (v_slots : Nat → Int32) (v_isKept : Nat → Int32) (v_undos : Int32) (v_seenPrefix : Nat → Int32) (v_seenLast : Nat → Int32) (v_seen : Int32) (v_previous : Int32) (v_gained : Nat → Int32) (v_gains : Int32) (v_decoded : Nat → Int32) (v_decodes : Int32) (v_readAt : Int32) (v_start : Int32) (v_kind : Int32) (v_word : Int64) (v_letters : Int32) (v_number : Int32) (v_fine : Int32) (v_text : Nat → Int32) (v_texted : Int32) (p0 : Int32) (sz : Nat) (z : Int32 × Int32) (hJ : J_X8_byteAt fu v_thrown v_world p0 = some z) : Met l yX8_byteAt wsX8_byteAt ({ frames := 4, cells := 0, slots := 0, locals := 84 }) (va_Pc [.ref (a 0), .int p0] (RWp dC dI sz (MWc a kI kB kZ v_tape v_taped v_errorAt v_thrown v_world v_aside v_undone v_slots v_isKept v_undos v_seenPrefix v_seenLast v_seen v_previous v_gained v_gains v_decoded v_decodes v_readAt v_start v_kind v_word v_letters v_number v_fine v_text v_texted) [(kI, .int), (kB, .byte), (kZ, .boolean)])) (rwQi dC dI (va_A (MWc a kI kB kZ v_tape v_taped v_errorAt v_thrown v_world v_aside v_undone v_slots v_isKept v_undos v_seenPrefix v_seenLast v_seen v_previous v_gained v_gains v_decoded v_decodes v_readAt v_start v_kind v_word v_letters v_number v_fine v_text v_texted) sz) (MWc a kI kB kZ v_tape v_taped v_errorAt z.2 v_world v_aside v_undone v_slots v_isKept v_undos v_seenPrefix v_seenLast v_seen v_previous v_gained v_gains v_decoded v_decodes v_readAt v_start v_kind v_word v_letters v_number v_fine v_text v_texted) z.1) 0 0 (va_A (MWc a kI kB kZ v_tape v_taped v_errorAt v_thrown v_world v_aside v_undone v_slots v_isKept v_undos v_seenPrefix v_seenLast v_seen v_previous v_gained v_gains v_decoded v_decodes v_readAt v_start v_kind v_word v_letters v_number v_fine v_text v_texted) sz) := by
  refine rw_start (Qc := fun A => rwQi dC dI A (MWc a kI kB kZ v_tape v_taped v_errorAt z.2 v_world v_aside v_undone v_slots v_isKept v_undos v_seenPrefix v_seenLast v_seen v_previous v_gained v_gains v_decoded v_decodes v_readAt v_start v_kind v_word v_letters v_number v_fine v_text v_texted) z.1) (cc := cX8_byteAt) (maxL := 6) (ret := (some .int)) (by decide) rfl (Nat.le_of_ble_eq_true rfl) ?_
  intro p e s m args below meth c hx hb hr hml hown hts hlocks hNW hK A hA H locs ls hP hD hS hl
  have hown : s.vm.findClass RX8 = some m.cls := hown
  have hl : lv_has ls 6 [(0, .ref (a 0)), (1, .int p0)] := hl
  unfold J_X8_byteAt at hJ
  have L33 : ∀ (n : Nat) (v_thrown : Int32) (y1 : Int32) (y2 : Int32) (y3 : Int32) (y4 : Int32) (H : Heap) (locs : List Loc) (ls : Array Slot), va_P (dC, dI) vwCl (MWc a kI kB kZ v_tape v_taped v_errorAt v_thrown v_world v_aside v_undone v_slots v_isKept v_undos v_seenPrefix v_seenLast v_seen v_previous v_gained v_gains v_decoded v_decodes v_readAt v_start v_kind v_word v_letters v_number v_fine v_text v_texted) H → va_D A (MWc a kI kB kZ v_tape v_taped v_errorAt v_thrown v_world v_aside v_undone v_slots v_isKept v_undos v_seenPrefix v_seenLast v_seen v_previous v_gained v_gains v_decoded v_decodes v_readAt v_start v_kind v_word v_letters v_number v_fine v_text v_texted) → va_S A s.heap H locs → lv_has ls 6 [(0, .ref (a 0)), (1, .int y1), (2, .int y2), (3, .int y3), (4, .int y4)] → J_X8_byteAt_b33 fu v_world n v_thrown y1 y2 y3 y4 = some z → W p l e ({ frames := 4, cells := 0, slots := 0, locals := 84 }) s m args below meth c H locs 0 0 (MQ below (rwQi dC dI A (MWc a kI kB kZ v_tape v_taped v_errorAt z.2 v_world v_aside v_undone v_slots v_isKept v_undos v_seenPrefix v_seenLast v_seen v_previous v_gained v_gains v_decoded v_decodes v_readAt v_start v_kind v_word v_letters v_number v_fine v_text v_texted) z.1) args s 0 0 (A)) (F0 m 33 ls []) := by
    intro n
    induction n with
    | zero =>
      intro v_thrown y1 y2 y3 y4 H locs ls hP hD hS hl hJ
      rw [J_X8_byteAt_b33] at hJ; cases hJ
    | succ n ih =>
      intro v_thrown y1 y2 y3 y4 H locs ls hP hD hS hl hJ
      rw [J_X8_byteAt_b33] at hJ
      refine lv_iload hx hb dX8_byteAt_33 (lv_at hl 4 rfl) ?_
      refine lv_bipush (v := 8) hx hb dX8_byteAt_35 (by decide) ?_
      refine lv_iload_n hx hb dX8_byteAt_37 rfl (lv_at hl 1 rfl) ?_
      refine lv_imul hx hb dX8_byteAt_38 ?_
      refine lv_bipush (v := 8) hx hb dX8_byteAt_39 (by decide) ?_
      refine lv_iadd hx hb dX8_byteAt_41 ?_
      refine lv_icmp_ge (tgt := 76) hx hb dX8_byteAt_42 (by decide) (fun c10 => ?_) (fun c10 => ?_)
      · have hJ := ite_t c10 hJ
        refine lv_aload_n hx hb dX8_byteAt_76 rfl (lv_at hl 0 rfl) ?_
        refine lv_iload_n hx hb dX8_byteAt_77 rfl (lv_at hl 3 rfl) ?_
        obtain ⟨z11, e12, hJ⟩ := bnd hJ
        refine rwViW (As := [.int y3]) (rest := []) (ci := 8) (q0 := 0) hx hb hml hown hts (c_X8_told l dC dI kI kB kZ a v_tape v_taped v_errorAt v_thrown v_world v_aside v_undone v_slots v_isKept v_undos v_seenPrefix v_seenLast v_seen v_previous v_gained v_gains v_decoded v_decodes v_readAt v_start v_kind v_word v_letters v_number v_fine v_text v_texted y3 H.size z11 e12) gX8_byteAt_X8_told qX8_told rfl ⟨Nat.le_of_ble_eq_true rfl, Nat.le_of_ble_eq_true rfl⟩ ⟨rfl, rfl⟩ hNW hK hP hD hS hA hK rfl rfl rfl hl.1 rfl rfl (Nat.le_of_ble_eq_true rfl) dX8_byteAt_78 z0 (fun H locs hP hD hS => ?_)
        obtain rfl := Option.some.inj hJ
        exact rw_iret hx hb hr hlocks rfl hP hD hS dX8_byteAt_81
      · have hJ := ite_f c10 hJ
        refine lv_iload hx hb dX8_byteAt_45 (lv_at hl 4 rfl) ?_
        refine lv_iload_n hx hb dX8_byteAt_47 rfl (lv_at hl 2 rfl) ?_
        refine lv_icmp_ge (tgt := 60) hx hb dX8_byteAt_48 (by decide) (fun c13 => ?_) (fun c13 => ?_)
        · have hJ := ite_t c13 hJ
          refine lv_iconst (v := 0) hx hb dX8_byteAt_60 (by decide) ?_
          refine lv_istore (lv' := [(5, .int (0 : Int32)), (0, .ref (a 0)), (1, .int y1), (2, .int y2), (3, .int y3), (4, .int y4)]) hx hb dX8_byteAt_61 hl (by decide) rfl (fun ls hl => ?_)
          refine lv_iconst (v := 2) hx hb dX8_byteAt_63 (by decide) ?_
          refine lv_iload_n hx hb dX8_byteAt_64 rfl (lv_at hl 4 rfl) ?_
          refine lv_imul hx hb dX8_byteAt_65 ?_
          refine lv_iload hx hb dX8_byteAt_66 (lv_at hl 0 rfl) ?_
          refine lv_iadd hx hb dX8_byteAt_68 ?_
          refine lv_istore_n (lv' := [(3, .int (((2 : Int32) * y3) + (0 : Int32))), (5, .int (0 : Int32)), (0, .ref (a 0)), (1, .int y1), (2, .int y2), (4, .int y4)]) hx hb dX8_byteAt_69 rfl hl (by decide) rfl (fun ls hl => ?_)
          refine lv_iinc (v := y4 + 1) (lv' := [(4, .int (y4 + 1)), (3, .int (((2 : Int32) * y3) + (0 : Int32))), (5, .int (0 : Int32)), (0, .ref (a 0)), (1, .int y1), (2, .int y2)]) hx hb dX8_byteAt_70 hl (k := 5) rfl rfl (by decide) rfl (fun ls hl => ?_)
          refine lv_goto (tgt := 33) hx hb dX8_byteAt_73 (by decide) ?_
          exact ih v_thrown y1 y2 (((2 : Int32) * y3) + (0 : Int32)) (y4 + 1) H locs ls hP hD hS (lv_sub hl [3, 4, 5, 1, 0] rfl) hJ
        · have hJ := ite_f c13 hJ
          refine lv_aload_n hx hb dX8_byteAt_51 rfl (lv_at hl 0 rfl) ?_
          refine lv_iload hx hb dX8_byteAt_52 (lv_at hl 4 rfl) ?_
          obtain ⟨z14, e15, hJ⟩ := bnd hJ
          refine roVi (As := [.int y4]) (rest := []) (ci := 8) (q0 := 0) hx hb hml hown hts (c_X8_bit fu l dC dI kI kB kZ a v_tape v_taped v_errorAt v_thrown v_world v_aside v_undone v_slots v_isKept v_undos v_seenPrefix v_seenLast v_seen v_previous v_gained v_gains v_decoded v_decodes v_readAt v_start v_kind v_word v_letters v_number v_fine v_text v_texted y4 z14 e15) gX8_byteAt_X8_bit qX8_bit rfl ⟨Nat.le_of_ble_eq_true rfl, Nat.le_of_ble_eq_true rfl⟩ ⟨rfl, rfl⟩ hNW hK hP hS hP hK rfl rfl rfl hl.1 rfl rfl (Nat.le_of_ble_eq_true rfl) dX8_byteAt_54 z0 (fun H locs hP hS => ?_)
          refine lv_goto (tgt := 61) hx hb dX8_byteAt_57 (by decide) ?_
          refine lv_istore (lv' := [(5, .int z14), (0, .ref (a 0)), (1, .int y1), (2, .int y2), (3, .int y3), (4, .int y4)]) hx hb dX8_byteAt_61 hl (by decide) rfl (fun ls hl => ?_)
          refine lv_iconst (v := 2) hx hb dX8_byteAt_63 (by decide) ?_
          refine lv_iload_n hx hb dX8_byteAt_64 rfl (lv_at hl 4 rfl) ?_
          refine lv_imul hx hb dX8_byteAt_65 ?_
          refine lv_iload hx hb dX8_byteAt_66 (lv_at hl 0 rfl) ?_
          refine lv_iadd hx hb dX8_byteAt_68 ?_
          refine lv_istore_n (lv' := [(3, .int (((2 : Int32) * y3) + z14)), (5, .int z14), (0, .ref (a 0)), (1, .int y1), (2, .int y2), (4, .int y4)]) hx hb dX8_byteAt_69 rfl hl (by decide) rfl (fun ls hl => ?_)
          refine lv_iinc (v := y4 + 1) (lv' := [(4, .int (y4 + 1)), (3, .int (((2 : Int32) * y3) + z14)), (5, .int z14), (0, .ref (a 0)), (1, .int y1), (2, .int y2)]) hx hb dX8_byteAt_70 hl (k := 5) rfl rfl (by decide) rfl (fun ls hl => ?_)
          refine lv_goto (tgt := 33) hx hb dX8_byteAt_73 (by decide) ?_
          exact ih v_thrown y1 y2 (((2 : Int32) * y3) + z14) (y4 + 1) H locs ls hP hD hS (lv_sub hl [3, 4, 5, 1, 0] rfl) hJ
  refine lv_iload_n hx hb dX8_byteAt_0 rfl (lv_at hl 1 rfl) ?_
  refine lv_iconst (v := 0) hx hb dX8_byteAt_1 (by decide) ?_
  refine lv_aload_n hx hb dX8_byteAt_2 rfl (lv_at hl 0 rfl) ?_
  obtain ⟨z1, e2, hJ⟩ := bnd hJ
  refine roVi (As := []) (rest := [.int (0 : Int32), .int p0]) (ci := 8) (q0 := 0) hx hb hml hown hts (c_X8_bytes fu l dC dI kI kB kZ a v_tape v_taped v_errorAt v_thrown v_world v_aside v_undone v_slots v_isKept v_undos v_seenPrefix v_seenLast v_seen v_previous v_gained v_gains v_decoded v_decodes v_readAt v_start v_kind v_word v_letters v_number v_fine v_text v_texted z1 e2) gX8_byteAt_X8_bytes qX8_bytes rfl ⟨Nat.le_of_ble_eq_true rfl, Nat.le_of_ble_eq_true rfl⟩ ⟨rfl, rfl⟩ hNW hK hP hS hP hK rfl rfl rfl hl.1 rfl rfl (Nat.le_of_ble_eq_true rfl) dX8_byteAt_3 z0 (fun H locs hP hS => ?_)
  refine lv_iconst (v := 1) hx hb dX8_byteAt_6 (by decide) ?_
  refine lv_isub hx hb dX8_byteAt_7 ?_
  obtain ⟨z3, e4, hJ⟩ := bnd hJ
  refine roSi (As := [.int p0, .int (0 : Int32), .int (z1 - (1 : Int32))]) (rest := []) hx hb hml hown hts (c_X8_in l dC dI p0 (0 : Int32) (z1 - (1 : Int32)) z3 e4) gX8_byteAt_X8_in qX8_in rfl ⟨Nat.le_of_ble_eq_true rfl, Nat.le_of_ble_eq_true rfl⟩ ⟨rfl, rfl⟩ hNW hK hP hS (hP.sub (ws' := []) [] rfl) (hK.sub (tys' := []) [] rfl) hl.1 rfl rfl (Nat.le_of_ble_eq_true rfl) dX8_byteAt_8 z0 (fun H locs hP hS => ?_)
  refine lv_if_ne (tgt := 20) hx hb dX8_byteAt_11 (by decide) (fun c5 => ?_) (fun c5 => ?_)
  · have hJ := ite_f c5 hJ
    refine lv_aload_n hx hb dX8_byteAt_20 rfl (lv_at hl 0 rfl) ?_
    obtain ⟨z6, e7, hJ⟩ := bnd hJ
    refine roVi (As := []) (rest := []) (ci := 8) (q0 := 0) hx hb hml hown hts (c_X8_allBits fu l dC dI kI kB kZ a v_tape v_taped v_errorAt v_thrown v_world v_aside v_undone v_slots v_isKept v_undos v_seenPrefix v_seenLast v_seen v_previous v_gained v_gains v_decoded v_decodes v_readAt v_start v_kind v_word v_letters v_number v_fine v_text v_texted z6 e7) gX8_byteAt_X8_allBits qX8_allBits rfl ⟨Nat.le_of_ble_eq_true rfl, Nat.le_of_ble_eq_true rfl⟩ ⟨rfl, rfl⟩ hNW hK hP hS hP hK rfl rfl rfl hl.1 rfl rfl (Nat.le_of_ble_eq_true rfl) dX8_byteAt_21 z0 (fun H locs hP hS => ?_)
    refine lv_istore_n (lv' := [(2, .int z6), (0, .ref (a 0)), (1, .int p0)]) hx hb dX8_byteAt_24 rfl hl (by decide) rfl (fun ls hl => ?_)
    refine lv_iconst (v := 0) hx hb dX8_byteAt_25 (by decide) ?_
    refine lv_istore_n (lv' := [(3, .int (0 : Int32)), (2, .int z6), (0, .ref (a 0)), (1, .int p0)]) hx hb dX8_byteAt_26 rfl hl (by decide) rfl (fun ls hl => ?_)
    refine lv_bipush (v := 8) hx hb dX8_byteAt_27 (by decide) ?_
    refine lv_iload_n hx hb dX8_byteAt_29 rfl (lv_at hl 3 rfl) ?_
    refine lv_imul hx hb dX8_byteAt_30 ?_
    refine lv_istore (lv' := [(4, .int ((8 : Int32) * p0)), (3, .int (0 : Int32)), (2, .int z6), (0, .ref (a 0)), (1, .int p0)]) hx hb dX8_byteAt_31 hl (by decide) rfl (fun ls hl => ?_)
    exact L33 fu v_thrown p0 z6 (0 : Int32) ((8 : Int32) * p0) H locs ls hP hD hS (lv_sub hl [3, 4, 2, 1, 0] rfl) hJ
  · have hJ := ite_t c5 hJ
    refine lv_aload_n hx hb dX8_byteAt_14 rfl (lv_at hl 0 rfl) ?_
    refine lv_iconst (v := 1) hx hb dX8_byteAt_15 (by decide) ?_
    obtain ⟨z8, e9, hJ⟩ := bnd hJ
    refine rwViW (As := [.int (1 : Int32)]) (rest := []) (ci := 8) (q0 := 0) hx hb hml hown hts (c_X8_throwing l dC dI kI kB kZ a v_tape v_taped v_errorAt v_thrown v_world v_aside v_undone v_slots v_isKept v_undos v_seenPrefix v_seenLast v_seen v_previous v_gained v_gains v_decoded v_decodes v_readAt v_start v_kind v_word v_letters v_number v_fine v_text v_texted (1 : Int32) H.size z8 e9) gX8_byteAt_X8_throwing qX8_throwing rfl ⟨Nat.le_of_ble_eq_true rfl, Nat.le_of_ble_eq_true rfl⟩ ⟨rfl, rfl⟩ hNW hK hP hD hS hA hK rfl rfl rfl hl.1 rfl rfl (Nat.le_of_ble_eq_true rfl) dX8_byteAt_16 z0 (fun H locs hP hD hS => ?_)
    obtain rfl := Option.some.inj hJ
    exact rw_iret hx hb hr hlocks rfl hP hD hS dX8_byteAt_19
theorem qX8_clearCount : (yX8_clearCount.cls = RX8) ∧ yX8_clearCount.cls ≠ "java/lang/invoke/MethodHandle" ∧ yX8_clearCount.cls ≠ "java/lang/invoke/VarHandle" ∧ (parseMethodDescriptor yX8_clearCount.desc).map (fun d => d.parameters.length) = some 0 := by decide +kernel
set_option maxHeartbeats 4000000 in
set_option maxRecDepth 100000 in
theorem c_X8_clearCount (l : Launch) (dC : Nat → ClassId) (dI : Nat → Nat → Nat) (kI kB kZ : ClassId) (a : Nat → Nat) (v_tape : Nat → Int32) (v_taped : Int32) (v_errorAt : Int32) (v_thrown : Int32) (v_world : Nat → Int32) (v_aside : Nat → Int32) (v_undone : Nat → Int32) (v_slots : Nat → Int32) (v_isKept : Nat → Int32) (v_undos : Int32) (v_seenPrefix : Nat → Int32) (v_seenLast : Nat → Int32) (v_seen : Int32) (v_previous : Int32) (v_gained : Nat → Int32) (v_gains : Int32) (v_decoded : Nat → Int32) (v_decodes : Int32) (v_readAt : Int32) (v_start : Int32) (v_kind : Int32) (v_word : Int64) (v_letters : Int32) (v_number : Int32) (v_fine : Int32) (v_text : Nat → Int32) (v_texted : Int32) (sz : Nat) (z : Int32 × Int32) (hJ : J_X8_clearCount v_thrown v_world = some z) : Met l yX8_clearCount wsX8_clearCount ({ frames := 1, cells := 0, slots := 0, locals := 21 }) (va_Pc [.ref (a 0)] (RWp dC dI sz (MWc a kI kB kZ v_tape v_taped v_errorAt v_thrown v_world v_aside v_undone v_slots v_isKept v_undos v_seenPrefix v_seenLast v_seen v_previous v_gained v_gains v_decoded v_decodes v_readAt v_start v_kind v_word v_letters v_number v_fine v_text v_texted) [(kI, .int), (kB, .byte), (kZ, .boolean)])) (rwQi dC dI (va_A (MWc a kI kB kZ v_tape v_taped v_errorAt v_thrown v_world v_aside v_undone v_slots v_isKept v_undos v_seenPrefix v_seenLast v_seen v_previous v_gained v_gains v_decoded v_decodes v_readAt v_start v_kind v_word v_letters v_number v_fine v_text v_texted) sz) (MWc a kI kB kZ v_tape v_taped v_errorAt z.2 v_world v_aside v_undone v_slots v_isKept v_undos v_seenPrefix v_seenLast v_seen v_previous v_gained v_gains v_decoded v_decodes v_readAt v_start v_kind v_word v_letters v_number v_fine v_text v_texted) z.1) 0 0 (va_A (MWc a kI kB kZ v_tape v_taped v_errorAt v_thrown v_world v_aside v_undone v_slots v_isKept v_undos v_seenPrefix v_seenLast v_seen v_previous v_gained v_gains v_decoded v_decodes v_readAt v_start v_kind v_word v_letters v_number v_fine v_text v_texted) sz) := by
  refine rw_start (Qc := fun A => rwQi dC dI A (MWc a kI kB kZ v_tape v_taped v_errorAt z.2 v_world v_aside v_undone v_slots v_isKept v_undos v_seenPrefix v_seenLast v_seen v_previous v_gained v_gains v_decoded v_decodes v_readAt v_start v_kind v_word v_letters v_number v_fine v_text v_texted) z.1) (cc := cX8_clearCount) (maxL := 1) (ret := (some .int)) (by decide) rfl (Nat.le_of_ble_eq_true rfl) ?_
  intro p e s m args below meth c hx hb hr hml hown hts hlocks hNW hK A hA H locs ls hP hD hS hl
  have hown : s.vm.findClass RX8 = some m.cls := hown
  have hl : lv_has ls 1 [(0, .ref (a 0))] := hl
  unfold J_X8_clearCount at hJ
  refine lv_aload_n hx hb dX8_clearCount_0 rfl (lv_at hl 0 rfl) ?_
  refine lv_aload_n hx hb dX8_clearCount_1 rfl (lv_at hl 0 rfl) ?_
  refine va_get (D := (dC, dI)) (ci := 8) (v := .ref (a 2)) (C := RX8) (T := TX8) (N := 27) hx hb hts (fun _ h => List.mem_cons_of_mem _ (List.mem_append_right _ h)) hown hK hP 0 rfl rfl 4 (by decide) (hts _ (List.mem_of_getElem? (i := 1) rfl)) (fun _ h9 => h9) rfl dX8_clearCount_2 ?_
  refine lv_bipush (v := 8) hx hb dX8_clearCount_5 (by decide) ?_
  obtain ⟨z1, e2, hJ⟩ := bnd hJ
  refine rd_int (n := 1726) (f := v_world) hx hb hK hP 2 0 rfl rfl e2 dX8_clearCount_7 ?_
  obtain ⟨z3, e4, hJ⟩ := bnd hJ
  refine rwViW (As := [.int z1]) (rest := []) (ci := 8) (q0 := 0) hx hb hml hown hts (c_X8_told l dC dI kI kB kZ a v_tape v_taped v_errorAt v_thrown v_world v_aside v_undone v_slots v_isKept v_undos v_seenPrefix v_seenLast v_seen v_previous v_gained v_gains v_decoded v_decodes v_readAt v_start v_kind v_word v_letters v_number v_fine v_text v_texted z1 H.size z3 e4) gX8_clearCount_X8_told qX8_told rfl ⟨Nat.le_of_ble_eq_true rfl, Nat.le_of_ble_eq_true rfl⟩ ⟨rfl, rfl⟩ hNW hK hP hD hS hA hK rfl rfl rfl hl.1 rfl rfl (Nat.le_of_ble_eq_true rfl) dX8_clearCount_8 z0 (fun H locs hP hD hS => ?_)
  obtain rfl := Option.some.inj hJ
  exact rw_iret hx hb hr hlocks rfl hP hD hS dX8_clearCount_11
theorem qX8_codesSinceClear : (yX8_codesSinceClear.cls = RX8) ∧ yX8_codesSinceClear.cls ≠ "java/lang/invoke/MethodHandle" ∧ yX8_codesSinceClear.cls ≠ "java/lang/invoke/VarHandle" ∧ (parseMethodDescriptor yX8_codesSinceClear.desc).map (fun d => d.parameters.length) = some 0 := by decide +kernel
set_option maxHeartbeats 4000000 in
set_option maxRecDepth 100000 in
theorem c_X8_codesSinceClear (l : Launch) (dC : Nat → ClassId) (dI : Nat → Nat → Nat) (kI kB kZ : ClassId) (a : Nat → Nat) (v_tape : Nat → Int32) (v_taped : Int32) (v_errorAt : Int32) (v_thrown : Int32) (v_world : Nat → Int32) (v_aside : Nat → Int32) (v_undone : Nat → Int32) (v_slots : Nat → Int32) (v_isKept : Nat → Int32) (v_undos : Int32) (v_seenPrefix : Nat → Int32) (v_seenLast : Nat → Int32) (v_seen : Int32) (v_previous : Int32) (v_gained : Nat → Int32) (v_gains : Int32) (v_decoded : Nat → Int32) (v_decodes : Int32) (v_readAt : Int32) (v_start : Int32) (v_kind : Int32) (v_word : Int64) (v_letters : Int32) (v_number : Int32) (v_fine : Int32) (v_text : Nat → Int32) (v_texted : Int32) (sz : Nat) (z : Int32 × Int32) (hJ : J_X8_codesSinceClear v_thrown v_world = some z) : Met l yX8_codesSinceClear wsX8_codesSinceClear ({ frames := 1, cells := 0, slots := 0, locals := 21 }) (va_Pc [.ref (a 0)] (RWp dC dI sz (MWc a kI kB kZ v_tape v_taped v_errorAt v_thrown v_world v_aside v_undone v_slots v_isKept v_undos v_seenPrefix v_seenLast v_seen v_previous v_gained v_gains v_decoded v_decodes v_readAt v_start v_kind v_word v_letters v_number v_fine v_text v_texted) [(kI, .int), (kB, .byte), (kZ, .boolean)])) (rwQi dC dI (va_A (MWc a kI kB kZ v_tape v_taped v_errorAt v_thrown v_world v_aside v_undone v_slots v_isKept v_undos v_seenPrefix v_seenLast v_seen v_previous v_gained v_gains v_decoded v_decodes v_readAt v_start v_kind v_word v_letters v_number v_fine v_text v_texted) sz) (MWc a kI kB kZ v_tape v_taped v_errorAt z.2 v_world v_aside v_undone v_slots v_isKept v_undos v_seenPrefix v_seenLast v_seen v_previous v_gained v_gains v_decoded v_decodes v_readAt v_start v_kind v_word v_letters v_number v_fine v_text v_texted) z.1) 0 0 (va_A (MWc a kI kB kZ v_tape v_taped v_errorAt v_thrown v_world v_aside v_undone v_slots v_isKept v_undos v_seenPrefix v_seenLast v_seen v_previous v_gained v_gains v_decoded v_decodes v_readAt v_start v_kind v_word v_letters v_number v_fine v_text v_texted) sz) := by
  refine rw_start (Qc := fun A => rwQi dC dI A (MWc a kI kB kZ v_tape v_taped v_errorAt z.2 v_world v_aside v_undone v_slots v_isKept v_undos v_seenPrefix v_seenLast v_seen v_previous v_gained v_gains v_decoded v_decodes v_readAt v_start v_kind v_word v_letters v_number v_fine v_text v_texted) z.1) (cc := cX8_codesSinceClear) (maxL := 1) (ret := (some .int)) (by decide) rfl (Nat.le_of_ble_eq_true rfl) ?_
  intro p e s m args below meth c hx hb hr hml hown hts hlocks hNW hK A hA H locs ls hP hD hS hl
  have hown : s.vm.findClass RX8 = some m.cls := hown
  have hl : lv_has ls 1 [(0, .ref (a 0))] := hl
  unfold J_X8_codesSinceClear at hJ
  refine lv_aload_n hx hb dX8_codesSinceClear_0 rfl (lv_at hl 0 rfl) ?_
  refine lv_aload_n hx hb dX8_codesSinceClear_1 rfl (lv_at hl 0 rfl) ?_
  refine va_get (D := (dC, dI)) (ci := 8) (v := .ref (a 2)) (C := RX8) (T := TX8) (N := 27) hx hb hts (fun _ h => List.mem_cons_of_mem _ (List.mem_append_right _ h)) hown hK hP 0 rfl rfl 4 (by decide) (hts _ (List.mem_of_getElem? (i := 1) rfl)) (fun _ h9 => h9) rfl dX8_codesSinceClear_2 ?_
  refine lv_bipush (v := 7) hx hb dX8_codesSinceClear_5 (by decide) ?_
  obtain ⟨z1, e2, hJ⟩ := bnd hJ
  refine rd_int (n := 1726) (f := v_world) hx hb hK hP 2 0 rfl rfl e2 dX8_codesSinceClear_7 ?_
  refine lv_aload_n hx hb dX8_codesSinceClear_8 rfl (lv_at hl 0 rfl) ?_
  refine va_get (D := (dC, dI)) (ci := 8) (v := .ref (a 2)) (C := RX8) (T := TX8) (N := 27) hx hb hts (fun _ h => List.mem_cons_of_mem _ (List.mem_append_right _ h)) hown hK hP 0 rfl rfl 4 (by decide) (hts _ (List.mem_of_getElem? (i := 1) rfl)) (fun _ h9 => h9) rfl dX8_codesSinceClear_9 ?_
  refine lv_bipush (v := 9) hx hb dX8_codesSinceClear_12 (by decide) ?_
  obtain ⟨z3, e4, hJ⟩ := bnd hJ
  refine rd_int (n := 1726) (f := v_world) hx hb hK hP 2 0 rfl rfl e4 dX8_codesSinceClear_14 ?_
  refine lv_isub hx hb dX8_codesSinceClear_15 ?_
  obtain ⟨z5, e6, hJ⟩ := bnd hJ
  refine rwViW (As := [.int (z1 - z3)]) (rest := []) (ci := 8) (q0 := 0) hx hb hml hown hts (c_X8_told l dC dI kI kB kZ a v_tape v_taped v_errorAt v_thrown v_world v_aside v_undone v_slots v_isKept v_undos v_seenPrefix v_seenLast v_seen v_previous v_gained v_gains v_decoded v_decodes v_readAt v_start v_kind v_word v_letters v_number v_fine v_text v_texted (z1 - z3) H.size z5 e6) gX8_codesSinceClear_X8_told qX8_told rfl ⟨Nat.le_of_ble_eq_true rfl, Nat.le_of_ble_eq_true rfl⟩ ⟨rfl, rfl⟩ hNW hK hP hD hS hA hK rfl rfl rfl hl.1 rfl rfl (Nat.le_of_ble_eq_true rfl) dX8_codesSinceClear_16 z0 (fun H locs hP hD hS => ?_)
  obtain rfl := Option.some.inj hJ
  exact rw_iret hx hb hr hlocks rfl hP hD hS dX8_codesSinceClear_19
theorem qX8_symbolsSinceClear : (yX8_symbolsSinceClear.cls = RX8) ∧ yX8_symbolsSinceClear.cls ≠ "java/lang/invoke/MethodHandle" ∧ yX8_symbolsSinceClear.cls ≠ "java/lang/invoke/VarHandle" ∧ (parseMethodDescriptor yX8_symbolsSinceClear.desc).map (fun d => d.parameters.length) = some 0 := by decide +kernel
set_option maxHeartbeats 4000000 in
set_option maxRecDepth 100000 in
theorem c_X8_symbolsSinceClear (fu : Nat) (l : Launch) (dC : Nat → ClassId) (dI : Nat → Nat → Nat) (kI kB kZ : ClassId) (a : Nat → Nat) (v_tape : Nat → Int32) (v_taped : Int32) (v_errorAt : Int32) (v_thrown : Int32) (v_world : Nat → Int32) (v_aside : Nat → Int32) (v_undone : Nat → Int32) (v_slots : Nat → Int32) (v_isKept : Nat → Int32) (v_undos : Int32) (v_seenPrefix : Nat → Int32) (v_seenLast : Nat → Int32) (v_seen : Int32) (v_previous : Int32) (v_gained : Nat → Int32) (v_gains : Int32) (v_decoded : Nat → Int32) (v_decodes : Int32) (v_readAt : Int32) (v_start : Int32) (v_kind : Int32) (v_word : Int64) (v_letters : Int32) (v_number : Int32) (v_fine : Int32) (v_text : Nat → Int32) (v_texted : Int32) (sz : Nat) (z : Int32 × Int32) (hJ : J_X8_symbolsSinceClear fu v_thrown v_world = some z) : Met l yX8_symbolsSinceClear wsX8_symbolsSinceClear ({ frames := 4, cells := 0, slots := 0, locals := 86 }) (va_Pc [.ref (a 0)] (RWp dC dI sz (MWc a kI kB kZ v_tape v_taped v_errorAt v_thrown v_world v_aside v_undone v_slots v_isKept v_undos v_seenPrefix v_seenLast v_seen v_previous v_gained v_gains v_decoded v_decodes v_readAt v_start v_kind v_word v_letters v_number v_fine v_text v_texted) [(kI, .int), (kB, .byte), (kZ, .boolean)])) (rwQi dC dI (va_A (MWc a kI kB kZ v_tape v_taped v_errorAt v_thrown v_world v_aside v_undone v_slots v_isKept v_undos v_seenPrefix v_seenLast v_seen v_previous v_gained v_gains v_decoded v_decodes v_readAt v_start v_kind v_word v_letters v_number v_fine v_text v_texted) sz) (MWc a kI kB kZ v_tape v_taped v_errorAt z.2 v_world v_aside v_undone v_slots v_isKept v_undos v_seenPrefix v_seenLast v_seen v_previous v_gained v_gains v_decoded v_decodes v_readAt v_start v_kind v_word v_letters v_number v_fine v_text v_texted) z.1) 0 0 (va_A (MWc a kI kB kZ v_tape v_taped v_errorAt v_thrown v_world v_aside v_undone v_slots v_isKept v_undos v_seenPrefix v_seenLast v_seen v_previous v_gained v_gains v_decoded v_decodes v_readAt v_start v_kind v_word v_letters v_number v_fine v_text v_texted) sz) := by
  refine rw_start (Qc := fun A => rwQi dC dI A (MWc a kI kB kZ v_tape v_taped v_errorAt z.2 v_world v_aside v_undone v_slots v_isKept v_undos v_seenPrefix v_seenLast v_seen v_previous v_gained v_gains v_decoded v_decodes v_readAt v_start v_kind v_word v_letters v_number v_fine v_text v_texted) z.1) (cc := cX8_symbolsSinceClear) (maxL := 1) (ret := (some .int)) (by decide) rfl (Nat.le_of_ble_eq_true rfl) ?_
  intro p e s m args below meth c hx hb hr hml hown hts hlocks hNW hK A hA H locs ls hP hD hS hl
  have hown : s.vm.findClass RX8 = some m.cls := hown
  have hl : lv_has ls 1 [(0, .ref (a 0))] := hl
  unfold J_X8_symbolsSinceClear at hJ
  refine lv_aload_n hx hb dX8_symbolsSinceClear_0 rfl (lv_at hl 0 rfl) ?_
  refine lv_aload_n hx hb dX8_symbolsSinceClear_1 rfl (lv_at hl 0 rfl) ?_
  obtain ⟨z1, e2, hJ⟩ := bnd hJ
  refine roVi (As := []) (rest := [.ref (a 0)]) (ci := 8) (q0 := 0) hx hb hml hown hts (c_X8_symbolsSince fu l dC dI kI kB kZ a v_tape v_taped v_errorAt v_thrown v_world v_aside v_undone v_slots v_isKept v_undos v_seenPrefix v_seenLast v_seen v_previous v_gained v_gains v_decoded v_decodes v_readAt v_start v_kind v_word v_letters v_number v_fine v_text v_texted z1 e2) gX8_symbolsSinceClear_X8_symbolsSince qX8_symbolsSince rfl ⟨Nat.le_of_ble_eq_true rfl, Nat.le_of_ble_eq_true rfl⟩ ⟨rfl, rfl⟩ hNW hK hP hS hP hK rfl rfl rfl hl.1 rfl rfl (Nat.le_of_ble_eq_true rfl) dX8_symbolsSinceClear_2 z0 (fun H locs hP hS => ?_)
  obtain ⟨z3, e4, hJ⟩ := bnd hJ
  refine rwViW (As := [.int z1]) (rest := []) (ci := 8) (q0 := 0) hx hb hml hown hts (c_X8_told l dC dI kI kB kZ a v_tape v_taped v_errorAt v_thrown v_world v_aside v_undone v_slots v_isKept v_undos v_seenPrefix v_seenLast v_seen v_previous v_gained v_gains v_decoded v_decodes v_readAt v_start v_kind v_word v_letters v_number v_fine v_text v_texted z1 H.size z3 e4) gX8_symbolsSinceClear_X8_told qX8_told rfl ⟨Nat.le_of_ble_eq_true rfl, Nat.le_of_ble_eq_true rfl⟩ ⟨rfl, rfl⟩ hNW hK hP hD hS hA hK rfl rfl rfl hl.1 rfl rfl (Nat.le_of_ble_eq_true rfl) dX8_symbolsSinceClear_5 z0 (fun H locs hP hD hS => ?_)
  obtain rfl := Option.some.inj hJ
  exact rw_iret hx hb hr hlocks rfl hP hD hS dX8_symbolsSinceClear_8
theorem qX8_bitsSinceClear : (yX8_bitsSinceClear.cls = RX8) ∧ yX8_bitsSinceClear.cls ≠ "java/lang/invoke/MethodHandle" ∧ yX8_bitsSinceClear.cls ≠ "java/lang/invoke/VarHandle" ∧ (parseMethodDescriptor yX8_bitsSinceClear.desc).map (fun d => d.parameters.length) = some 0 := by decide +kernel
set_option maxHeartbeats 4000000 in
set_option maxRecDepth 100000 in
theorem c_X8_bitsSinceClear (fu : Nat) (l : Launch) (dC : Nat → ClassId) (dI : Nat → Nat → Nat) (kI kB kZ : ClassId) (a : Nat → Nat) (v_tape : Nat → Int32) (v_taped : Int32) (v_errorAt : Int32) (v_thrown : Int32) (v_world : Nat → Int32) (v_aside : Nat → Int32) (v_undone : Nat → Int32) (v_slots : Nat → Int32) (v_isKept : Nat → Int32) (v_undos : Int32) (v_seenPrefix : Nat → Int32) (v_seenLast : Nat → Int32) (v_seen : Int32) (v_previous : Int32) (v_gained : Nat → Int32) (v_gains : Int32) (v_decoded : Nat → Int32) (v_decodes : Int32) (v_readAt : Int32) (v_start : Int32) (v_kind : Int32) (v_word : Int64) (v_letters : Int32) (v_number : Int32) (v_fine : Int32) (v_text : Nat → Int32) (v_texted : Int32) (sz : Nat) (z : Int32 × Int32) (hJ : J_X8_bitsSinceClear fu v_thrown v_world = some z) : Met l yX8_bitsSinceClear wsX8_bitsSinceClear ({ frames := 3, cells := 0, slots := 0, locals := 64 }) (va_Pc [.ref (a 0)] (RWp dC dI sz (MWc a kI kB kZ v_tape v_taped v_errorAt v_thrown v_world v_aside v_undone v_slots v_isKept v_undos v_seenPrefix v_seenLast v_seen v_previous v_gained v_gains v_decoded v_decodes v_readAt v_start v_kind v_word v_letters v_number v_fine v_text v_texted) [(kI, .int), (kB, .byte), (kZ, .boolean)])) (rwQi dC dI (va_A (MWc a kI kB kZ v_tape v_taped v_errorAt v_thrown v_world v_aside v_undone v_slots v_isKept v_undos v_seenPrefix v_seenLast v_seen v_previous v_gained v_gains v_decoded v_decodes v_readAt v_start v_kind v_word v_letters v_number v_fine v_text v_texted) sz) (MWc a kI kB kZ v_tape v_taped v_errorAt z.2 v_world v_aside v_undone v_slots v_isKept v_undos v_seenPrefix v_seenLast v_seen v_previous v_gained v_gains v_decoded v_decodes v_readAt v_start v_kind v_word v_letters v_number v_fine v_text v_texted) z.1) 0 0 (va_A (MWc a kI kB kZ v_tape v_taped v_errorAt v_thrown v_world v_aside v_undone v_slots v_isKept v_undos v_seenPrefix v_seenLast v_seen v_previous v_gained v_gains v_decoded v_decodes v_readAt v_start v_kind v_word v_letters v_number v_fine v_text v_texted) sz) := by
  refine rw_start (Qc := fun A => rwQi dC dI A (MWc a kI kB kZ v_tape v_taped v_errorAt z.2 v_world v_aside v_undone v_slots v_isKept v_undos v_seenPrefix v_seenLast v_seen v_previous v_gained v_gains v_decoded v_decodes v_readAt v_start v_kind v_word v_letters v_number v_fine v_text v_texted) z.1) (cc := cX8_bitsSinceClear) (maxL := 1) (ret := (some .int)) (by decide) rfl (Nat.le_of_ble_eq_true rfl) ?_
  intro p e s m args below meth c hx hb hr hml hown hts hlocks hNW hK A hA H locs ls hP hD hS hl
  have hown : s.vm.findClass RX8 = some m.cls := hown
  have hl : lv_has ls 1 [(0, .ref (a 0))] := hl
  unfold J_X8_bitsSinceClear at hJ
  refine lv_aload_n hx hb dX8_bitsSinceClear_0 rfl (lv_at hl 0 rfl) ?_
  refine lv_aload_n hx hb dX8_bitsSinceClear_1 rfl (lv_at hl 0 rfl) ?_
  obtain ⟨z1, e2, hJ⟩ := bnd hJ
  refine roVi (As := []) (rest := [.ref (a 0)]) (ci := 8) (q0 := 0) hx hb hml hown hts (c_X8_bitsSince fu l dC dI kI kB kZ a v_tape v_taped v_errorAt v_thrown v_world v_aside v_undone v_slots v_isKept v_undos v_seenPrefix v_seenLast v_seen v_previous v_gained v_gains v_decoded v_decodes v_readAt v_start v_kind v_word v_letters v_number v_fine v_text v_texted z1 e2) gX8_bitsSinceClear_X8_bitsSince qX8_bitsSince rfl ⟨Nat.le_of_ble_eq_true rfl, Nat.le_of_ble_eq_true rfl⟩ ⟨rfl, rfl⟩ hNW hK hP hS hP hK rfl rfl rfl hl.1 rfl rfl (Nat.le_of_ble_eq_true rfl) dX8_bitsSinceClear_2 z0 (fun H locs hP hS => ?_)
  obtain ⟨z3, e4, hJ⟩ := bnd hJ
  refine rwViW (As := [.int z1]) (rest := []) (ci := 8) (q0 := 0) hx hb hml hown hts (c_X8_told l dC dI kI kB kZ a v_tape v_taped v_errorAt v_thrown v_world v_aside v_undone v_slots v_isKept v_undos v_seenPrefix v_seenLast v_seen v_previous v_gained v_gains v_decoded v_decodes v_readAt v_start v_kind v_word v_letters v_number v_fine v_text v_texted z1 H.size z3 e4) gX8_bitsSinceClear_X8_told qX8_told rfl ⟨Nat.le_of_ble_eq_true rfl, Nat.le_of_ble_eq_true rfl⟩ ⟨rfl, rfl⟩ hNW hK hP hD hS hA hK rfl rfl rfl hl.1 rfl rfl (Nat.le_of_ble_eq_true rfl) dX8_bitsSinceClear_5 z0 (fun H locs hP hD hS => ?_)
  obtain rfl := Option.some.inj hJ
  exact rw_iret hx hb hr hlocks rfl hP hD hS dX8_bitsSinceClear_8
theorem qX8_percentSinceClear : (yX8_percentSinceClear.cls = RX8) ∧ yX8_percentSinceClear.cls ≠ "java/lang/invoke/MethodHandle" ∧ yX8_percentSinceClear.cls ≠ "java/lang/invoke/VarHandle" ∧ (parseMethodDescriptor yX8_percentSinceClear.desc).map (fun d => d.parameters.length) = some 0 := by decide +kernel
set_option maxHeartbeats 4000000 in
set_option maxRecDepth 100000 in
theorem c_X8_percentSinceClear (fu : Nat) (l : Launch) (dC : Nat → ClassId) (dI : Nat → Nat → Nat) (kI kB kZ : ClassId) (a : Nat → Nat) (v_tape : Nat → Int32) (v_taped : Int32) (v_errorAt : Int32) (v_thrown : Int32) (v_world : Nat → Int32) (v_aside : Nat → Int32) (v_undone : Nat → Int32) (v_slots : Nat → Int32) (v_isKept : Nat → Int32) (v_undos : Int32) (v_seenPrefix : Nat → Int32) (v_seenLast : Nat → Int32) (v_seen : Int32) (v_previous : Int32) (v_gained : Nat → Int32) (v_gains : Int32) (v_decoded : Nat → Int32) (v_decodes : Int32) (v_readAt : Int32) (v_start : Int32) (v_kind : Int32) (v_word : Int64) (v_letters : Int32) (v_number : Int32) (v_fine : Int32) (v_text : Nat → Int32) (v_texted : Int32) (sz : Nat) (z : Int32 × Int32) (hJ : J_X8_percentSinceClear fu v_thrown v_world = some z) : Met l yX8_percentSinceClear wsX8_percentSinceClear ({ frames := 5, cells := 0, slots := 0, locals := 106 }) (va_Pc [.ref (a 0)] (RWp dC dI sz (MWc a kI kB kZ v_tape v_taped v_errorAt v_thrown v_world v_aside v_undone v_slots v_isKept v_undos v_seenPrefix v_seenLast v_seen v_previous v_gained v_gains v_decoded v_decodes v_readAt v_start v_kind v_word v_letters v_number v_fine v_text v_texted) [(kI, .int), (kB, .byte), (kZ, .boolean)])) (rwQi dC dI (va_A (MWc a kI kB kZ v_tape v_taped v_errorAt v_thrown v_world v_aside v_undone v_slots v_isKept v_undos v_seenPrefix v_seenLast v_seen v_previous v_gained v_gains v_decoded v_decodes v_readAt v_start v_kind v_word v_letters v_number v_fine v_text v_texted) sz) (MWc a kI kB kZ v_tape v_taped v_errorAt z.2 v_world v_aside v_undone v_slots v_isKept v_undos v_seenPrefix v_seenLast v_seen v_previous v_gained v_gains v_decoded v_decodes v_readAt v_start v_kind v_word v_letters v_number v_fine v_text v_texted) z.1) 0 0 (va_A (MWc a kI kB kZ v_tape v_taped v_errorAt v_thrown v_world v_aside v_undone v_slots v_isKept v_undos v_seenPrefix v_seenLast v_seen v_previous v_gained v_gains v_decoded v_decodes v_readAt v_start v_kind v_word v_letters v_number v_fine v_text v_texted) sz) := by
  refine rw_start (Qc := fun A => rwQi dC dI A (MWc a kI kB kZ v_tape v_taped v_errorAt z.2 v_world v_aside v_undone v_slots v_isKept v_undos v_seenPrefix v_seenLast v_seen v_previous v_gained v_gains v_decoded v_decodes v_readAt v_start v_kind v_word v_letters v_number v_fine v_text v_texted) z.1) (cc := cX8_percentSinceClear) (maxL := 1) (ret := (some .int)) (by decide) rfl (Nat.le_of_ble_eq_true rfl) ?_
  intro p e s m args below meth c hx hb hr hml hown hts hlocks hNW hK A hA H locs ls hP hD hS hl
  have hown : s.vm.findClass RX8 = some m.cls := hown
  have hl : lv_has ls 1 [(0, .ref (a 0))] := hl
  unfold J_X8_percentSinceClear at hJ
  refine lv_aload_n hx hb dX8_percentSinceClear_0 rfl (lv_at hl 0 rfl) ?_
  refine lv_aload_n hx hb dX8_percentSinceClear_1 rfl (lv_at hl 0 rfl) ?_
  obtain ⟨z1, e2, hJ⟩ := bnd hJ
  refine roVi (As := []) (rest := [.ref (a 0)]) (ci := 8) (q0 := 0) hx hb hml hown hts (c_X8_percent fu l dC dI kI kB kZ a v_tape v_taped v_errorAt v_thrown v_world v_aside v_undone v_slots v_isKept v_undos v_seenPrefix v_seenLast v_seen v_previous v_gained v_gains v_decoded v_decodes v_readAt v_start v_kind v_word v_letters v_number v_fine v_text v_texted z1 e2) gX8_percentSinceClear_X8_percent qX8_percent rfl ⟨Nat.le_of_ble_eq_true rfl, Nat.le_of_ble_eq_true rfl⟩ ⟨rfl, rfl⟩ hNW hK hP hS hP hK rfl rfl rfl hl.1 rfl rfl (Nat.le_of_ble_eq_true rfl) dX8_percentSinceClear_2 z0 (fun H locs hP hS => ?_)
  obtain ⟨z3, e4, hJ⟩ := bnd hJ
  refine rwViW (As := [.int z1]) (rest := []) (ci := 8) (q0 := 0) hx hb hml hown hts (c_X8_told l dC dI kI kB kZ a v_tape v_taped v_errorAt v_thrown v_world v_aside v_undone v_slots v_isKept v_undos v_seenPrefix v_seenLast v_seen v_previous v_gained v_gains v_decoded v_decodes v_readAt v_start v_kind v_word v_letters v_number v_fine v_text v_texted z1 H.size z3 e4) gX8_percentSinceClear_X8_told qX8_told rfl ⟨Nat.le_of_ble_eq_true rfl, Nat.le_of_ble_eq_true rfl⟩ ⟨rfl, rfl⟩ hNW hK hP hD hS hA hK rfl rfl rfl hl.1 rfl rfl (Nat.le_of_ble_eq_true rfl) dX8_percentSinceClear_5 z0 (fun H locs hP hD hS => ?_)
  obtain rfl := Option.some.inj hJ
  exact rw_iret hx hb hr hlocks rfl hP hD hS dX8_percentSinceClear_8
theorem qX8_savedBits : (yX8_savedBits.cls = RX8) ∧ yX8_savedBits.cls ≠ "java/lang/invoke/MethodHandle" ∧ yX8_savedBits.cls ≠ "java/lang/invoke/VarHandle" ∧ (parseMethodDescriptor yX8_savedBits.desc).map (fun d => d.parameters.length) = some 0 := by decide +kernel
set_option maxHeartbeats 4000000 in
set_option maxRecDepth 100000 in
theorem c_X8_savedBits (fu : Nat) (l : Launch) (dC : Nat → ClassId) (dI : Nat → Nat → Nat) (kI kB kZ : ClassId) (a : Nat → Nat) (v_tape : Nat → Int32) (v_taped : Int32) (v_errorAt : Int32) (v_thrown : Int32) (v_world : Nat → Int32) (v_aside : Nat → Int32) (v_undone : Nat → Int32) (v_slots : Nat → Int32) (v_isKept : Nat → Int32) (v_undos : Int32) (v_seenPrefix : Nat → Int32) (v_seenLast : Nat → Int32) (v_seen : Int32) (v_previous : Int32) (v_gained : Nat → Int32) (v_gains : Int32) (v_decoded : Nat → Int32) (v_decodes : Int32) (v_readAt : Int32) (v_start : Int32) (v_kind : Int32) (v_word : Int64) (v_letters : Int32) (v_number : Int32) (v_fine : Int32) (v_text : Nat → Int32) (v_texted : Int32) (sz : Nat) (z : Int32 × Int32) (hJ : J_X8_savedBits fu v_thrown v_world = some z) : Met l yX8_savedBits wsX8_savedBits ({ frames := 3, cells := 0, slots := 0, locals := 64 }) (va_Pc [.ref (a 0)] (RWp dC dI sz (MWc a kI kB kZ v_tape v_taped v_errorAt v_thrown v_world v_aside v_undone v_slots v_isKept v_undos v_seenPrefix v_seenLast v_seen v_previous v_gained v_gains v_decoded v_decodes v_readAt v_start v_kind v_word v_letters v_number v_fine v_text v_texted) [(kI, .int), (kB, .byte), (kZ, .boolean)])) (rwQi dC dI (va_A (MWc a kI kB kZ v_tape v_taped v_errorAt v_thrown v_world v_aside v_undone v_slots v_isKept v_undos v_seenPrefix v_seenLast v_seen v_previous v_gained v_gains v_decoded v_decodes v_readAt v_start v_kind v_word v_letters v_number v_fine v_text v_texted) sz) (MWc a kI kB kZ v_tape v_taped v_errorAt z.2 v_world v_aside v_undone v_slots v_isKept v_undos v_seenPrefix v_seenLast v_seen v_previous v_gained v_gains v_decoded v_decodes v_readAt v_start v_kind v_word v_letters v_number v_fine v_text v_texted) z.1) 0 0 (va_A (MWc a kI kB kZ v_tape v_taped v_errorAt v_thrown v_world v_aside v_undone v_slots v_isKept v_undos v_seenPrefix v_seenLast v_seen v_previous v_gained v_gains v_decoded v_decodes v_readAt v_start v_kind v_word v_letters v_number v_fine v_text v_texted) sz) := by
  refine rw_start (Qc := fun A => rwQi dC dI A (MWc a kI kB kZ v_tape v_taped v_errorAt z.2 v_world v_aside v_undone v_slots v_isKept v_undos v_seenPrefix v_seenLast v_seen v_previous v_gained v_gains v_decoded v_decodes v_readAt v_start v_kind v_word v_letters v_number v_fine v_text v_texted) z.1) (cc := cX8_savedBits) (maxL := 1) (ret := (some .int)) (by decide) rfl (Nat.le_of_ble_eq_true rfl) ?_
  intro p e s m args below meth c hx hb hr hml hown hts hlocks hNW hK A hA H locs ls hP hD hS hl
  have hown : s.vm.findClass RX8 = some m.cls := hown
  have hl : lv_has ls 1 [(0, .ref (a 0))] := hl
  unfold J_X8_savedBits at hJ
  refine lv_aload_n hx hb dX8_savedBits_0 rfl (lv_at hl 0 rfl) ?_
  refine lv_aload_n hx hb dX8_savedBits_1 rfl (lv_at hl 0 rfl) ?_
  refine va_get (D := (dC, dI)) (ci := 8) (v := .ref (a 2)) (C := RX8) (T := TX8) (N := 27) hx hb hts (fun _ h => List.mem_cons_of_mem _ (List.mem_append_right _ h)) hown hK hP 0 rfl rfl 4 (by decide) (hts _ (List.mem_of_getElem? (i := 1) rfl)) (fun _ h9 => h9) rfl dX8_savedBits_2 ?_
  refine lv_bipush (v := 13) hx hb dX8_savedBits_5 (by decide) ?_
  obtain ⟨z1, e2, hJ⟩ := bnd hJ
  refine rd_int (n := 1726) (f := v_world) hx hb hK hP 2 0 rfl rfl e2 dX8_savedBits_7 ?_
  refine lv_aload_n hx hb dX8_savedBits_8 rfl (lv_at hl 0 rfl) ?_
  obtain ⟨z3, e4, hJ⟩ := bnd hJ
  refine roVi (As := []) (rest := [.int z1, .ref (a 0)]) (ci := 8) (q0 := 0) hx hb hml hown hts (c_X8_plain fu l dC dI kI kB kZ a v_tape v_taped v_errorAt v_thrown v_world v_aside v_undone v_slots v_isKept v_undos v_seenPrefix v_seenLast v_seen v_previous v_gained v_gains v_decoded v_decodes v_readAt v_start v_kind v_word v_letters v_number v_fine v_text v_texted z3 e4) gX8_savedBits_X8_plain qX8_plain rfl ⟨Nat.le_of_ble_eq_true rfl, Nat.le_of_ble_eq_true rfl⟩ ⟨rfl, rfl⟩ hNW hK hP hS hP hK rfl rfl rfl hl.1 rfl rfl (Nat.le_of_ble_eq_true rfl) dX8_savedBits_9 z0 (fun H locs hP hS => ?_)
  refine lv_imul hx hb dX8_savedBits_12 ?_
  refine lv_aload_n hx hb dX8_savedBits_13 rfl (lv_at hl 0 rfl) ?_
  obtain ⟨z5, e6, hJ⟩ := bnd hJ
  refine roVi (As := []) (rest := [.int (z1 * z3), .ref (a 0)]) (ci := 8) (q0 := 0) hx hb hml hown hts (c_X8_allBits fu l dC dI kI kB kZ a v_tape v_taped v_errorAt v_thrown v_world v_aside v_undone v_slots v_isKept v_undos v_seenPrefix v_seenLast v_seen v_previous v_gained v_gains v_decoded v_decodes v_readAt v_start v_kind v_word v_letters v_number v_fine v_text v_texted z5 e6) gX8_savedBits_X8_allBits qX8_allBits rfl ⟨Nat.le_of_ble_eq_true rfl, Nat.le_of_ble_eq_true rfl⟩ ⟨rfl, rfl⟩ hNW hK hP hS hP hK rfl rfl rfl hl.1 rfl rfl (Nat.le_of_ble_eq_true rfl) dX8_savedBits_14 z0 (fun H locs hP hS => ?_)
  refine lv_isub hx hb dX8_savedBits_17 ?_
  obtain ⟨z7, e8, hJ⟩ := bnd hJ
  refine rwViW (As := [.int ((z1 * z3) - z5)]) (rest := []) (ci := 8) (q0 := 0) hx hb hml hown hts (c_X8_told l dC dI kI kB kZ a v_tape v_taped v_errorAt v_thrown v_world v_aside v_undone v_slots v_isKept v_undos v_seenPrefix v_seenLast v_seen v_previous v_gained v_gains v_decoded v_decodes v_readAt v_start v_kind v_word v_letters v_number v_fine v_text v_texted ((z1 * z3) - z5) H.size z7 e8) gX8_savedBits_X8_told qX8_told rfl ⟨Nat.le_of_ble_eq_true rfl, Nat.le_of_ble_eq_true rfl⟩ ⟨rfl, rfl⟩ hNW hK hP hD hS hA hK rfl rfl rfl hl.1 rfl rfl (Nat.le_of_ble_eq_true rfl) dX8_savedBits_18 z0 (fun H locs hP hD hS => ?_)
  obtain rfl := Option.some.inj hJ
  exact rw_iret hx hb hr hlocks rfl hP hD hS dX8_savedBits_21
theorem qX8_bitsPerSymbol : (yX8_bitsPerSymbol.cls = RX8) ∧ yX8_bitsPerSymbol.cls ≠ "java/lang/invoke/MethodHandle" ∧ yX8_bitsPerSymbol.cls ≠ "java/lang/invoke/VarHandle" ∧ (parseMethodDescriptor yX8_bitsPerSymbol.desc).map (fun d => d.parameters.length) = some 0 := by decide +kernel
set_option maxHeartbeats 4000000 in
set_option maxRecDepth 100000 in
theorem c_X8_bitsPerSymbol (fu : Nat) (l : Launch) (dC : Nat → ClassId) (dI : Nat → Nat → Nat) (kI kB kZ : ClassId) (a : Nat → Nat) (v_tape : Nat → Int32) (v_taped : Int32) (v_errorAt : Int32) (v_thrown : Int32) (v_world : Nat → Int32) (v_aside : Nat → Int32) (v_undone : Nat → Int32) (v_slots : Nat → Int32) (v_isKept : Nat → Int32) (v_undos : Int32) (v_seenPrefix : Nat → Int32) (v_seenLast : Nat → Int32) (v_seen : Int32) (v_previous : Int32) (v_gained : Nat → Int32) (v_gains : Int32) (v_decoded : Nat → Int32) (v_decodes : Int32) (v_readAt : Int32) (v_start : Int32) (v_kind : Int32) (v_word : Int64) (v_letters : Int32) (v_number : Int32) (v_fine : Int32) (v_text : Nat → Int32) (v_texted : Int32) (sz : Nat) (z : UInt64 × Int32) (hJ : J_X8_bitsPerSymbol fu v_thrown v_world = some z) : Met l yX8_bitsPerSymbol wsX8_bitsPerSymbol ({ frames := 3, cells := 0, slots := 0, locals := 64 }) (va_Pc [.ref (a 0)] (RWp dC dI sz (MWc a kI kB kZ v_tape v_taped v_errorAt v_thrown v_world v_aside v_undone v_slots v_isKept v_undos v_seenPrefix v_seenLast v_seen v_previous v_gained v_gains v_decoded v_decodes v_readAt v_start v_kind v_word v_letters v_number v_fine v_text v_texted) [(kI, .int), (kB, .byte), (kZ, .boolean)])) (rwQd dC dI (va_A (MWc a kI kB kZ v_tape v_taped v_errorAt v_thrown v_world v_aside v_undone v_slots v_isKept v_undos v_seenPrefix v_seenLast v_seen v_previous v_gained v_gains v_decoded v_decodes v_readAt v_start v_kind v_word v_letters v_number v_fine v_text v_texted) sz) (MWc a kI kB kZ v_tape v_taped v_errorAt z.2 v_world v_aside v_undone v_slots v_isKept v_undos v_seenPrefix v_seenLast v_seen v_previous v_gained v_gains v_decoded v_decodes v_readAt v_start v_kind v_word v_letters v_number v_fine v_text v_texted) z.1) 0 0 (va_A (MWc a kI kB kZ v_tape v_taped v_errorAt v_thrown v_world v_aside v_undone v_slots v_isKept v_undos v_seenPrefix v_seenLast v_seen v_previous v_gained v_gains v_decoded v_decodes v_readAt v_start v_kind v_word v_letters v_number v_fine v_text v_texted) sz) := by
  refine rw_start (Qc := fun A => rwQd dC dI A (MWc a kI kB kZ v_tape v_taped v_errorAt z.2 v_world v_aside v_undone v_slots v_isKept v_undos v_seenPrefix v_seenLast v_seen v_previous v_gained v_gains v_decoded v_decodes v_readAt v_start v_kind v_word v_letters v_number v_fine v_text v_texted) z.1) (cc := cX8_bitsPerSymbol) (maxL := 1) (ret := (some .double)) (by decide) rfl (Nat.le_of_ble_eq_true rfl) ?_
  intro p e s m args below meth c hx hb hr hml hown hts hlocks hNW hK A hA H locs ls hP hD hS hl
  have hown : s.vm.findClass RX8 = some m.cls := hown
  have hl : lv_has ls 1 [(0, .ref (a 0))] := hl
  unfold J_X8_bitsPerSymbol at hJ
  refine lv_aload_n hx hb dX8_bitsPerSymbol_0 rfl (lv_at hl 0 rfl) ?_
  refine lv_iconst (v := 0) hx hb dX8_bitsPerSymbol_1 (by decide) ?_
  refine va_put (D := (dC, dI)) (ci := 8) (v := .int (0 : Int32)) (ty := .int) (C := RX8) (T := TX8) (N := 27) hx hb hts (fun _ h => List.mem_cons_of_mem _ (List.mem_append_right _ h)) tyX8 tyX8_ok nmX8 hown hK hP hD hS 0 rfl rfl 3 (by decide) (hts _ (List.mem_of_getElem? (i := 1) rfl)) (fun _ h9 => h9) rfl (by decide +kernel) rfl rfl (Nat.le_of_ble_eq_true rfl) dX8_bitsPerSymbol_2 (fun H locs hP hD hS => ?_)
  have hP : va_P (dC, dI) vwCl (MWc a kI kB kZ v_tape v_taped v_errorAt (0 : Int32) v_world v_aside v_undone v_slots v_isKept v_undos v_seenPrefix v_seenLast v_seen v_previous v_gained v_gains v_decoded v_decodes v_readAt v_start v_kind v_word v_letters v_number v_fine v_text v_texted) H := hP
  have hD : va_D A (MWc a kI kB kZ v_tape v_taped v_errorAt (0 : Int32) v_world v_aside v_undone v_slots v_isKept v_undos v_seenPrefix v_seenLast v_seen v_previous v_gained v_gains v_decoded v_decodes v_readAt v_start v_kind v_word v_letters v_number v_fine v_text v_texted) := hD
  refine lv_aload_n hx hb dX8_bitsPerSymbol_5 rfl (lv_at hl 0 rfl) ?_
  refine va_get (D := (dC, dI)) (ci := 8) (v := .ref (a 2)) (C := RX8) (T := TX8) (N := 27) hx hb hts (fun _ h => List.mem_cons_of_mem _ (List.mem_append_right _ h)) hown hK hP 0 rfl rfl 4 (by decide) (hts _ (List.mem_of_getElem? (i := 2) rfl)) (fun _ h9 => h9) rfl dX8_bitsPerSymbol_6 ?_
  refine lv_bipush (v := 13) hx hb dX8_bitsPerSymbol_9 (by decide) ?_
  obtain ⟨z1, e2, hJ⟩ := bnd hJ
  refine rd_int (n := 1726) (f := v_world) hx hb hK hP 2 0 rfl rfl e2 dX8_bitsPerSymbol_11 ?_
  refine lv_if_ne (tgt := 17) hx hb dX8_bitsPerSymbol_12 (by decide) (fun c3 => ?_) (fun c3 => ?_)
  · have hJ := ite_f c3 hJ
    refine lv_aload_n hx hb dX8_bitsPerSymbol_17 rfl (lv_at hl 0 rfl) ?_
    obtain ⟨z4, e5, hJ⟩ := bnd hJ
    refine roVi (As := []) (rest := []) (ci := 8) (q0 := 0) hx hb hml hown hts (c_X8_allBits fu l dC dI kI kB kZ a v_tape v_taped v_errorAt (0 : Int32) v_world v_aside v_undone v_slots v_isKept v_undos v_seenPrefix v_seenLast v_seen v_previous v_gained v_gains v_decoded v_decodes v_readAt v_start v_kind v_word v_letters v_number v_fine v_text v_texted z4 e5) gX8_bitsPerSymbol_X8_allBits qX8_allBits rfl ⟨Nat.le_of_ble_eq_true rfl, Nat.le_of_ble_eq_true rfl⟩ ⟨rfl, rfl⟩ hNW hK hP hS hP hK rfl rfl rfl hl.1 rfl rfl (Nat.le_of_ble_eq_true rfl) dX8_bitsPerSymbol_18 z0 (fun H locs hP hS => ?_)
    refine lv_i2d hx hb dX8_bitsPerSymbol_21 ?_
    refine lv_aload_n hx hb dX8_bitsPerSymbol_22 rfl (lv_at hl 0 rfl) ?_
    refine va_get (D := (dC, dI)) (ci := 8) (v := .ref (a 2)) (C := RX8) (T := TX8) (N := 27) hx hb hts (fun _ h => List.mem_cons_of_mem _ (List.mem_append_right _ h)) hown hK hP 0 rfl rfl 4 (by decide) (hts _ (List.mem_of_getElem? (i := 2) rfl)) (fun _ h9 => h9) rfl dX8_bitsPerSymbol_23 ?_
    refine lv_bipush (v := 13) hx hb dX8_bitsPerSymbol_26 (by decide) ?_
    obtain ⟨z6, e7, hJ⟩ := bnd hJ
    refine rd_int (n := 1726) (f := v_world) hx hb hK hP 2 0 rfl rfl e7 dX8_bitsPerSymbol_28 ?_
    refine lv_i2d hx hb dX8_bitsPerSymbol_29 ?_
    obtain ⟨h8, hJ⟩ := ite_some hJ
    refine lv_ddiv hx hb dX8_bitsPerSymbol_30 h8 ?_
    obtain rfl := Option.some.inj hJ
    exact rw_dret hx hb hr hlocks rfl hP hD hS dX8_bitsPerSymbol_31
  · have hJ := ite_t c3 hJ
    refine lv_dconst0 hx hb dX8_bitsPerSymbol_15 ?_
    obtain rfl := Option.some.inj hJ
    exact rw_dret hx hb hr hlocks rfl hP hD hS dX8_bitsPerSymbol_16
theorem qX8_fillShare : (yX8_fillShare.cls = RX8) ∧ yX8_fillShare.cls ≠ "java/lang/invoke/MethodHandle" ∧ yX8_fillShare.cls ≠ "java/lang/invoke/VarHandle" ∧ (parseMethodDescriptor yX8_fillShare.desc).map (fun d => d.parameters.length) = some 0 := by decide +kernel
set_option maxHeartbeats 4000000 in
set_option maxRecDepth 100000 in
theorem c_X8_fillShare (l : Launch) (dC : Nat → ClassId) (dI : Nat → Nat → Nat) (kI kB kZ : ClassId) (a : Nat → Nat) (v_tape : Nat → Int32) (v_taped : Int32) (v_errorAt : Int32) (v_thrown : Int32) (v_world : Nat → Int32) (v_aside : Nat → Int32) (v_undone : Nat → Int32) (v_slots : Nat → Int32) (v_isKept : Nat → Int32) (v_undos : Int32) (v_seenPrefix : Nat → Int32) (v_seenLast : Nat → Int32) (v_seen : Int32) (v_previous : Int32) (v_gained : Nat → Int32) (v_gains : Int32) (v_decoded : Nat → Int32) (v_decodes : Int32) (v_readAt : Int32) (v_start : Int32) (v_kind : Int32) (v_word : Int64) (v_letters : Int32) (v_number : Int32) (v_fine : Int32) (v_text : Nat → Int32) (v_texted : Int32) (sz : Nat) (z : UInt32 × Int32) (hJ : J_X8_fillShare v_thrown v_world = some z) : Met l yX8_fillShare wsX8_fillShare ({ frames := 1, cells := 0, slots := 0, locals := 20 }) (va_Pc [.ref (a 0)] (RWp dC dI sz (MWc a kI kB kZ v_tape v_taped v_errorAt v_thrown v_world v_aside v_undone v_slots v_isKept v_undos v_seenPrefix v_seenLast v_seen v_previous v_gained v_gains v_decoded v_decodes v_readAt v_start v_kind v_word v_letters v_number v_fine v_text v_texted) [(kI, .int), (kB, .byte), (kZ, .boolean)])) (rwQf dC dI (va_A (MWc a kI kB kZ v_tape v_taped v_errorAt v_thrown v_world v_aside v_undone v_slots v_isKept v_undos v_seenPrefix v_seenLast v_seen v_previous v_gained v_gains v_decoded v_decodes v_readAt v_start v_kind v_word v_letters v_number v_fine v_text v_texted) sz) (MWc a kI kB kZ v_tape v_taped v_errorAt z.2 v_world v_aside v_undone v_slots v_isKept v_undos v_seenPrefix v_seenLast v_seen v_previous v_gained v_gains v_decoded v_decodes v_readAt v_start v_kind v_word v_letters v_number v_fine v_text v_texted) z.1) 0 0 (va_A (MWc a kI kB kZ v_tape v_taped v_errorAt v_thrown v_world v_aside v_undone v_slots v_isKept v_undos v_seenPrefix v_seenLast v_seen v_previous v_gained v_gains v_decoded v_decodes v_readAt v_start v_kind v_word v_letters v_number v_fine v_text v_texted) sz) := by
  refine rw_start (Qc := fun A => rwQf dC dI A (MWc a kI kB kZ v_tape v_taped v_errorAt z.2 v_world v_aside v_undone v_slots v_isKept v_undos v_seenPrefix v_seenLast v_seen v_previous v_gained v_gains v_decoded v_decodes v_readAt v_start v_kind v_word v_letters v_number v_fine v_text v_texted) z.1) (cc := cX8_fillShare) (maxL := 1) (ret := (some .float)) (by decide) rfl (Nat.le_of_ble_eq_true rfl) ?_
  intro p e s m args below meth c hx hb hr hml hown hts hlocks hNW hK A hA H locs ls hP hD hS hl
  have hown : s.vm.findClass RX8 = some m.cls := hown
  have hl : lv_has ls 1 [(0, .ref (a 0))] := hl
  unfold J_X8_fillShare at hJ
  refine lv_aload_n hx hb dX8_fillShare_0 rfl (lv_at hl 0 rfl) ?_
  refine lv_iconst (v := 0) hx hb dX8_fillShare_1 (by decide) ?_
  refine va_put (D := (dC, dI)) (ci := 8) (v := .int (0 : Int32)) (ty := .int) (C := RX8) (T := TX8) (N := 27) hx hb hts (fun _ h => List.mem_cons_of_mem _ (List.mem_append_right _ h)) tyX8 tyX8_ok nmX8 hown hK hP hD hS 0 rfl rfl 3 (by decide) (hts _ (List.mem_of_getElem? (i := 1) rfl)) (fun _ h9 => h9) rfl (by decide +kernel) rfl rfl (Nat.le_of_ble_eq_true rfl) dX8_fillShare_2 (fun H locs hP hD hS => ?_)
  have hP : va_P (dC, dI) vwCl (MWc a kI kB kZ v_tape v_taped v_errorAt (0 : Int32) v_world v_aside v_undone v_slots v_isKept v_undos v_seenPrefix v_seenLast v_seen v_previous v_gained v_gains v_decoded v_decodes v_readAt v_start v_kind v_word v_letters v_number v_fine v_text v_texted) H := hP
  have hD : va_D A (MWc a kI kB kZ v_tape v_taped v_errorAt (0 : Int32) v_world v_aside v_undone v_slots v_isKept v_undos v_seenPrefix v_seenLast v_seen v_previous v_gained v_gains v_decoded v_decodes v_readAt v_start v_kind v_word v_letters v_number v_fine v_text v_texted) := hD
  refine lv_aload_n hx hb dX8_fillShare_5 rfl (lv_at hl 0 rfl) ?_
  refine va_get (D := (dC, dI)) (ci := 8) (v := .ref (a 2)) (C := RX8) (T := TX8) (N := 27) hx hb hts (fun _ h => List.mem_cons_of_mem _ (List.mem_append_right _ h)) hown hK hP 0 rfl rfl 4 (by decide) (hts _ (List.mem_of_getElem? (i := 2) rfl)) (fun _ h9 => h9) rfl dX8_fillShare_6 ?_
  refine lv_iconst (v := 4) hx hb dX8_fillShare_9 (by decide) ?_
  obtain ⟨z1, e2, hJ⟩ := bnd hJ
  refine rd_int (n := 1726) (f := v_world) hx hb hK hP 2 0 rfl rfl e2 dX8_fillShare_10 ?_
  refine lv_i2f hx hb dX8_fillShare_11 ?_
  refine lv_aload_n hx hb dX8_fillShare_12 rfl (lv_at hl 0 rfl) ?_
  obtain ⟨z3, e4, hJ⟩ := bnd hJ
  refine roVi (As := []) (rest := [.float (FP.i2f z1)]) (ci := 8) (q0 := 0) hx hb hml hown hts (c_X8_mostCodes l dC dI kI kB kZ a v_tape v_taped v_errorAt (0 : Int32) v_world v_aside v_undone v_slots v_isKept v_undos v_seenPrefix v_seenLast v_seen v_previous v_gained v_gains v_decoded v_decodes v_readAt v_start v_kind v_word v_letters v_number v_fine v_text v_texted z3 e4) gX8_fillShare_X8_mostCodes qX8_mostCodes rfl ⟨Nat.le_of_ble_eq_true rfl, Nat.le_of_ble_eq_true rfl⟩ ⟨rfl, rfl⟩ hNW hK hP hS hP hK rfl rfl rfl hl.1 rfl rfl (Nat.le_of_ble_eq_true rfl) dX8_fillShare_13 z0 (fun H locs hP hS => ?_)
  refine lv_i2f hx hb dX8_fillShare_16 ?_
  obtain ⟨h5, hJ⟩ := ite_some hJ
  refine lv_fdiv hx hb dX8_fillShare_17 h5 ?_
  obtain rfl := Option.some.inj hJ
  exact rw_fret hx hb hr hlocks rfl hP hD hS dX8_fillShare_18
theorem qX8_decodedCount : (yX8_decodedCount.cls = RX8) ∧ yX8_decodedCount.cls ≠ "java/lang/invoke/MethodHandle" ∧ yX8_decodedCount.cls ≠ "java/lang/invoke/VarHandle" ∧ (parseMethodDescriptor yX8_decodedCount.desc).map (fun d => d.parameters.length) = some 0 := by decide +kernel
set_option maxHeartbeats 4000000 in
set_option maxRecDepth 100000 in
theorem c_X8_decodedCount (l : Launch) (dC : Nat → ClassId) (dI : Nat → Nat → Nat) (kI kB kZ : ClassId) (a : Nat → Nat) (v_tape : Nat → Int32) (v_taped : Int32) (v_errorAt : Int32) (v_thrown : Int32) (v_world : Nat → Int32) (v_aside : Nat → Int32) (v_undone : Nat → Int32) (v_slots : Nat → Int32) (v_isKept : Nat → Int32) (v_undos : Int32) (v_seenPrefix : Nat → Int32) (v_seenLast : Nat → Int32) (v_seen : Int32) (v_previous : Int32) (v_gained : Nat → Int32) (v_gains : Int32) (v_decoded : Nat → Int32) (v_decodes : Int32) (v_readAt : Int32) (v_start : Int32) (v_kind : Int32) (v_word : Int64) (v_letters : Int32) (v_number : Int32) (v_fine : Int32) (v_text : Nat → Int32) (v_texted : Int32) (sz : Nat) (z : Int32 × Int32) (hJ : J_X8_decodedCount v_thrown v_decodes = some z) : Met l yX8_decodedCount wsX8_decodedCount ({ frames := 1, cells := 0, slots := 0, locals := 21 }) (va_Pc [.ref (a 0)] (RWp dC dI sz (MWc a kI kB kZ v_tape v_taped v_errorAt v_thrown v_world v_aside v_undone v_slots v_isKept v_undos v_seenPrefix v_seenLast v_seen v_previous v_gained v_gains v_decoded v_decodes v_readAt v_start v_kind v_word v_letters v_number v_fine v_text v_texted) [(kI, .int), (kB, .byte), (kZ, .boolean)])) (rwQi dC dI (va_A (MWc a kI kB kZ v_tape v_taped v_errorAt v_thrown v_world v_aside v_undone v_slots v_isKept v_undos v_seenPrefix v_seenLast v_seen v_previous v_gained v_gains v_decoded v_decodes v_readAt v_start v_kind v_word v_letters v_number v_fine v_text v_texted) sz) (MWc a kI kB kZ v_tape v_taped v_errorAt z.2 v_world v_aside v_undone v_slots v_isKept v_undos v_seenPrefix v_seenLast v_seen v_previous v_gained v_gains v_decoded v_decodes v_readAt v_start v_kind v_word v_letters v_number v_fine v_text v_texted) z.1) 0 0 (va_A (MWc a kI kB kZ v_tape v_taped v_errorAt v_thrown v_world v_aside v_undone v_slots v_isKept v_undos v_seenPrefix v_seenLast v_seen v_previous v_gained v_gains v_decoded v_decodes v_readAt v_start v_kind v_word v_letters v_number v_fine v_text v_texted) sz) := by
  refine rw_start (Qc := fun A => rwQi dC dI A (MWc a kI kB kZ v_tape v_taped v_errorAt z.2 v_world v_aside v_undone v_slots v_isKept v_undos v_seenPrefix v_seenLast v_seen v_previous v_gained v_gains v_decoded v_decodes v_readAt v_start v_kind v_word v_letters v_number v_fine v_text v_texted) z.1) (cc := cX8_decodedCount) (maxL := 1) (ret := (some .int)) (by decide) rfl (Nat.le_of_ble_eq_true rfl) ?_
  intro p e s m args below meth c hx hb hr hml hown hts hlocks hNW hK A hA H locs ls hP hD hS hl
  have hown : s.vm.findClass RX8 = some m.cls := hown
  have hl : lv_has ls 1 [(0, .ref (a 0))] := hl
  unfold J_X8_decodedCount at hJ
  refine lv_aload_n hx hb dX8_decodedCount_0 rfl (lv_at hl 0 rfl) ?_
  refine lv_aload_n hx hb dX8_decodedCount_1 rfl (lv_at hl 0 rfl) ?_
  refine va_get (D := (dC, dI)) (ci := 8) (v := .int v_decodes) (C := RX8) (T := TX8) (N := 27) hx hb hts (fun _ h => List.mem_cons_of_mem _ (List.mem_append_right _ h)) hown hK hP 0 rfl rfl 17 (by decide) (hts _ (List.mem_of_getElem? (i := 1) rfl)) (fun _ h9 => h9) rfl dX8_decodedCount_2 ?_
  obtain ⟨z1, e2, hJ⟩ := bnd hJ
  refine rwViW (As := [.int v_decodes]) (rest := []) (ci := 8) (q0 := 0) hx hb hml hown hts (c_X8_told l dC dI kI kB kZ a v_tape v_taped v_errorAt v_thrown v_world v_aside v_undone v_slots v_isKept v_undos v_seenPrefix v_seenLast v_seen v_previous v_gained v_gains v_decoded v_decodes v_readAt v_start v_kind v_word v_letters v_number v_fine v_text v_texted v_decodes H.size z1 e2) gX8_decodedCount_X8_told qX8_told rfl ⟨Nat.le_of_ble_eq_true rfl, Nat.le_of_ble_eq_true rfl⟩ ⟨rfl, rfl⟩ hNW hK hP hD hS hA hK rfl rfl rfl hl.1 rfl rfl (Nat.le_of_ble_eq_true rfl) dX8_decodedCount_5 z0 (fun H locs hP hD hS => ?_)
  obtain rfl := Option.some.inj hJ
  exact rw_iret hx hb hr hlocks rfl hP hD hS dX8_decodedCount_8
theorem qX8_decodedSymbol : (yX8_decodedSymbol.cls = RX8) ∧ yX8_decodedSymbol.cls ≠ "java/lang/invoke/MethodHandle" ∧ yX8_decodedSymbol.cls ≠ "java/lang/invoke/VarHandle" ∧ (parseMethodDescriptor yX8_decodedSymbol.desc).map (fun d => d.parameters.length) = some 1 := by decide +kernel
set_option maxHeartbeats 4000000 in
set_option maxRecDepth 100000 in
theorem c_X8_decodedSymbol (l : Launch) (dC : Nat → ClassId) (dI : Nat → Nat → Nat) (kI kB kZ : ClassId) (a : Nat → Nat) (v_tape : Nat → Int32) (v_taped : Int32) (v_errorAt : Int32) (v_thrown : Int32) (v_world : Nat → Int32) (v_aside : Nat → Int32) (v_undone : Nat → Int32) (v_slots : Nat → Int32) (v_isKept : Nat → Int32) (v_undos : Int32) (v_seenPrefix : Nat → Int32) (v_seenLast : Nat → Int32) (v_seen : Int32) (v_previous : Int32) (v_gained : Nat → Int32) (v_gains : Int32) (v_decoded : Nat → Int32) (v_decodes : Int32) (v_readAt : Int32) (v_start : Int32) (v_kind : Int32) (v_word : Int64) (v_letters : Int32) (v_number : Int32) (v_fine : Int32) (v_text : Nat → Int32) (v_texted : Int32) (p0 : Int32) (sz : Nat) (z : Int32 × Int32) (hJ : J_X8_decodedSymbol v_thrown v_decoded v_decodes p0 = some z) : Met l yX8_decodedSymbol wsX8_decodedSymbol ({ frames := 1, cells := 0, slots := 0, locals := 22 }) (va_Pc [.ref (a 0), .int p0] (RWp dC dI sz (MWc a kI kB kZ v_tape v_taped v_errorAt v_thrown v_world v_aside v_undone v_slots v_isKept v_undos v_seenPrefix v_seenLast v_seen v_previous v_gained v_gains v_decoded v_decodes v_readAt v_start v_kind v_word v_letters v_number v_fine v_text v_texted) [(kI, .int), (kB, .byte), (kZ, .boolean)])) (rwQi dC dI (va_A (MWc a kI kB kZ v_tape v_taped v_errorAt v_thrown v_world v_aside v_undone v_slots v_isKept v_undos v_seenPrefix v_seenLast v_seen v_previous v_gained v_gains v_decoded v_decodes v_readAt v_start v_kind v_word v_letters v_number v_fine v_text v_texted) sz) (MWc a kI kB kZ v_tape v_taped v_errorAt z.2 v_world v_aside v_undone v_slots v_isKept v_undos v_seenPrefix v_seenLast v_seen v_previous v_gained v_gains v_decoded v_decodes v_readAt v_start v_kind v_word v_letters v_number v_fine v_text v_texted) z.1) 0 0 (va_A (MWc a kI kB kZ v_tape v_taped v_errorAt v_thrown v_world v_aside v_undone v_slots v_isKept v_undos v_seenPrefix v_seenLast v_seen v_previous v_gained v_gains v_decoded v_decodes v_readAt v_start v_kind v_word v_letters v_number v_fine v_text v_texted) sz) := by
  refine rw_start (Qc := fun A => rwQi dC dI A (MWc a kI kB kZ v_tape v_taped v_errorAt z.2 v_world v_aside v_undone v_slots v_isKept v_undos v_seenPrefix v_seenLast v_seen v_previous v_gained v_gains v_decoded v_decodes v_readAt v_start v_kind v_word v_letters v_number v_fine v_text v_texted) z.1) (cc := cX8_decodedSymbol) (maxL := 2) (ret := (some .int)) (by decide) rfl (Nat.le_of_ble_eq_true rfl) ?_
  intro p e s m args below meth c hx hb hr hml hown hts hlocks hNW hK A hA H locs ls hP hD hS hl
  have hown : s.vm.findClass RX8 = some m.cls := hown
  have hl : lv_has ls 2 [(0, .ref (a 0)), (1, .int p0)] := hl
  unfold J_X8_decodedSymbol at hJ
  refine lv_iload_n hx hb dX8_decodedSymbol_0 rfl (lv_at hl 1 rfl) ?_
  refine lv_iconst (v := 0) hx hb dX8_decodedSymbol_1 (by decide) ?_
  refine lv_aload_n hx hb dX8_decodedSymbol_2 rfl (lv_at hl 0 rfl) ?_
  refine va_get (D := (dC, dI)) (ci := 8) (v := .int v_decodes) (C := RX8) (T := TX8) (N := 27) hx hb hts (fun _ h => List.mem_cons_of_mem _ (List.mem_append_right _ h)) hown hK hP 0 rfl rfl 17 (by decide) (hts _ (List.mem_of_getElem? (i := 1) rfl)) (fun _ h9 => h9) rfl dX8_decodedSymbol_3 ?_
  refine lv_iconst (v := 1) hx hb dX8_decodedSymbol_6 (by decide) ?_
  refine lv_isub hx hb dX8_decodedSymbol_7 ?_
  obtain ⟨z1, e2, hJ⟩ := bnd hJ
  refine roSi (As := [.int p0, .int (0 : Int32), .int (v_decodes - (1 : Int32))]) (rest := []) hx hb hml hown hts (c_X8_in l dC dI p0 (0 : Int32) (v_decodes - (1 : Int32)) z1 e2) gX8_decodedSymbol_X8_in qX8_in rfl ⟨Nat.le_of_ble_eq_true rfl, Nat.le_of_ble_eq_true rfl⟩ ⟨rfl, rfl⟩ hNW hK hP hS (hP.sub (ws' := []) [] rfl) (hK.sub (tys' := []) [] rfl) hl.1 rfl rfl (Nat.le_of_ble_eq_true rfl) dX8_decodedSymbol_8 z0 (fun H locs hP hS => ?_)
  refine lv_if_ne (tgt := 20) hx hb dX8_decodedSymbol_11 (by decide) (fun c3 => ?_) (fun c3 => ?_)
  · have hJ := ite_f c3 hJ
    refine lv_aload_n hx hb dX8_decodedSymbol_20 rfl (lv_at hl 0 rfl) ?_
    refine lv_aload_n hx hb dX8_decodedSymbol_21 rfl (lv_at hl 0 rfl) ?_
    refine va_get (D := (dC, dI)) (ci := 8) (v := .ref (a 10)) (C := RX8) (T := TX8) (N := 27) hx hb hts (fun _ h => List.mem_cons_of_mem _ (List.mem_append_right _ h)) hown hK hP 0 rfl rfl 16 (by decide) (hts _ (List.mem_of_getElem? (i := 2) rfl)) (fun _ h9 => h9) rfl dX8_decodedSymbol_22 ?_
    refine lv_iload_n hx hb dX8_decodedSymbol_25 rfl (lv_at hl 1 rfl) ?_
    obtain ⟨z4, e5, hJ⟩ := bnd hJ
    refine rd_int (n := 400) (f := v_decoded) hx hb hK hP 10 0 rfl rfl e5 dX8_decodedSymbol_26 ?_
    obtain ⟨z6, e7, hJ⟩ := bnd hJ
    refine rwViW (As := [.int z4]) (rest := []) (ci := 8) (q0 := 0) hx hb hml hown hts (c_X8_told l dC dI kI kB kZ a v_tape v_taped v_errorAt v_thrown v_world v_aside v_undone v_slots v_isKept v_undos v_seenPrefix v_seenLast v_seen v_previous v_gained v_gains v_decoded v_decodes v_readAt v_start v_kind v_word v_letters v_number v_fine v_text v_texted z4 H.size z6 e7) gX8_decodedSymbol_X8_told qX8_told rfl ⟨Nat.le_of_ble_eq_true rfl, Nat.le_of_ble_eq_true rfl⟩ ⟨rfl, rfl⟩ hNW hK hP hD hS hA hK rfl rfl rfl hl.1 rfl rfl (Nat.le_of_ble_eq_true rfl) dX8_decodedSymbol_27 z0 (fun H locs hP hD hS => ?_)
    obtain rfl := Option.some.inj hJ
    exact rw_iret hx hb hr hlocks rfl hP hD hS dX8_decodedSymbol_30
  · have hJ := ite_t c3 hJ
    refine lv_aload_n hx hb dX8_decodedSymbol_14 rfl (lv_at hl 0 rfl) ?_
    refine lv_iconst (v := 1) hx hb dX8_decodedSymbol_15 (by decide) ?_
    obtain ⟨z8, e9, hJ⟩ := bnd hJ
    refine rwViW (As := [.int (1 : Int32)]) (rest := []) (ci := 8) (q0 := 0) hx hb hml hown hts (c_X8_throwing l dC dI kI kB kZ a v_tape v_taped v_errorAt v_thrown v_world v_aside v_undone v_slots v_isKept v_undos v_seenPrefix v_seenLast v_seen v_previous v_gained v_gains v_decoded v_decodes v_readAt v_start v_kind v_word v_letters v_number v_fine v_text v_texted (1 : Int32) H.size z8 e9) gX8_decodedSymbol_X8_throwing qX8_throwing rfl ⟨Nat.le_of_ble_eq_true rfl, Nat.le_of_ble_eq_true rfl⟩ ⟨rfl, rfl⟩ hNW hK hP hD hS hA hK rfl rfl rfl hl.1 rfl rfl (Nat.le_of_ble_eq_true rfl) dX8_decodedSymbol_16 z0 (fun H locs hP hD hS => ?_)
    obtain rfl := Option.some.inj hJ
    exact rw_iret hx hb hr hlocks rfl hP hD hS dX8_decodedSymbol_19
theorem qX8_longestDecodedRun : (yX8_longestDecodedRun.cls = RX8) ∧ yX8_longestDecodedRun.cls ≠ "java/lang/invoke/MethodHandle" ∧ yX8_longestDecodedRun.cls ≠ "java/lang/invoke/VarHandle" ∧ (parseMethodDescriptor yX8_longestDecodedRun.desc).map (fun d => d.parameters.length) = some 0 := by decide +kernel
set_option maxHeartbeats 4000000 in
set_option maxRecDepth 100000 in
theorem c_X8_longestDecodedRun (fu : Nat) (l : Launch) (dC : Nat → ClassId) (dI : Nat → Nat → Nat) (kI kB kZ : ClassId) (a : Nat → Nat) (v_tape : Nat → Int32) (v_taped : Int32) (v_errorAt : Int32) (v_thrown : Int32) (v_world : Nat → Int32) (v_aside : Nat → Int32) (v_undone : Nat → Int32) (v_slots : Nat → Int32) (v_isKept : Nat → Int32) (v_undos : Int32) (v_seenPrefix : Nat → Int32) (v_seenLast : Nat → Int32) (v_seen : Int32) (v_previous : Int32) (v_gained : Nat → Int32) (v_gains : Int32) (v_decoded : Nat → Int32) (v_decodes : Int32) (v_readAt : Int32) (v_start : Int32) (v_kind : Int32) (v_word : Int64) (v_letters : Int32) (v_number : Int32) (v_fine : Int32) (v_text : Nat → Int32) (v_texted : Int32) (sz : Nat) (z : Int32 × Int32) (hJ : J_X8_longestDecodedRun fu v_thrown v_decoded v_decodes = some z) : Met l yX8_longestDecodedRun wsX8_longestDecodedRun ({ frames := 1, cells := 0, slots := 0, locals := 21 }) (va_Pc [.ref (a 0)] (RWp dC dI sz (MWc a kI kB kZ v_tape v_taped v_errorAt v_thrown v_world v_aside v_undone v_slots v_isKept v_undos v_seenPrefix v_seenLast v_seen v_previous v_gained v_gains v_decoded v_decodes v_readAt v_start v_kind v_word v_letters v_number v_fine v_text v_texted) [(kI, .int), (kB, .byte), (kZ, .boolean)])) (rwQi dC dI (va_A (MWc a kI kB kZ v_tape v_taped v_errorAt v_thrown v_world v_aside v_undone v_slots v_isKept v_undos v_seenPrefix v_seenLast v_seen v_previous v_gained v_gains v_decoded v_decodes v_readAt v_start v_kind v_word v_letters v_number v_fine v_text v_texted) sz) (MWc a kI kB kZ v_tape v_taped v_errorAt z.2 v_world v_aside v_undone v_slots v_isKept v_undos v_seenPrefix v_seenLast v_seen v_previous v_gained v_gains v_decoded v_decodes v_readAt v_start v_kind v_word v_letters v_number v_fine v_text v_texted) z.1) 0 0 (va_A (MWc a kI kB kZ v_tape v_taped v_errorAt v_thrown v_world v_aside v_undone v_slots v_isKept v_undos v_seenPrefix v_seenLast v_seen v_previous v_gained v_gains v_decoded v_decodes v_readAt v_start v_kind v_word v_letters v_number v_fine v_text v_texted) sz) := by
  refine rw_start (Qc := fun A => rwQi dC dI A (MWc a kI kB kZ v_tape v_taped v_errorAt z.2 v_world v_aside v_undone v_slots v_isKept v_undos v_seenPrefix v_seenLast v_seen v_previous v_gained v_gains v_decoded v_decodes v_readAt v_start v_kind v_word v_letters v_number v_fine v_text v_texted) z.1) (cc := cX8_longestDecodedRun) (maxL := 5) (ret := (some .int)) (by decide) rfl (Nat.le_of_ble_eq_true rfl) ?_
  intro p e s m args below meth c hx hb hr hml hown hts hlocks hNW hK A hA H locs ls hP hD hS hl
  have hown : s.vm.findClass RX8 = some m.cls := hown
  have hl : lv_has ls 5 [(0, .ref (a 0))] := hl
  unfold J_X8_longestDecodedRun at hJ
  have L6 : ∀ (n : Nat) (v_thrown : Int32) (y1 : Int32) (y2 : Int32) (y3 : Int32) (H : Heap) (locs : List Loc) (ls : Array Slot), va_P (dC, dI) vwCl (MWc a kI kB kZ v_tape v_taped v_errorAt v_thrown v_world v_aside v_undone v_slots v_isKept v_undos v_seenPrefix v_seenLast v_seen v_previous v_gained v_gains v_decoded v_decodes v_readAt v_start v_kind v_word v_letters v_number v_fine v_text v_texted) H → va_D A (MWc a kI kB kZ v_tape v_taped v_errorAt v_thrown v_world v_aside v_undone v_slots v_isKept v_undos v_seenPrefix v_seenLast v_seen v_previous v_gained v_gains v_decoded v_decodes v_readAt v_start v_kind v_word v_letters v_number v_fine v_text v_texted) → va_S A s.heap H locs → lv_has ls 5 [(0, .ref (a 0)), (1, .int y1), (2, .int y2), (3, .int y3)] → J_X8_longestDecodedRun_b6 fu v_decoded v_decodes n v_thrown y1 y2 y3 = some z → W p l e ({ frames := 1, cells := 0, slots := 0, locals := 21 }) s m args below meth c H locs 0 0 (MQ below (rwQi dC dI A (MWc a kI kB kZ v_tape v_taped v_errorAt z.2 v_world v_aside v_undone v_slots v_isKept v_undos v_seenPrefix v_seenLast v_seen v_previous v_gained v_gains v_decoded v_decodes v_readAt v_start v_kind v_word v_letters v_number v_fine v_text v_texted) z.1) args s 0 0 (A)) (F0 m 6 ls []) := by
    intro n
    induction n with
    | zero =>
      intro v_thrown y1 y2 y3 H locs ls hP hD hS hl hJ
      rw [J_X8_longestDecodedRun_b6] at hJ; cases hJ
    | succ n ih =>
      intro v_thrown y1 y2 y3 H locs ls hP hD hS hl hJ
      rw [J_X8_longestDecodedRun_b6] at hJ
      refine lv_iload_n hx hb dX8_longestDecodedRun_6 rfl (lv_at hl 3 rfl) ?_
      refine lv_aload_n hx hb dX8_longestDecodedRun_7 rfl (lv_at hl 0 rfl) ?_
      refine va_get (D := (dC, dI)) (ci := 8) (v := .int v_decodes) (C := RX8) (T := TX8) (N := 27) hx hb hts (fun _ h => List.mem_cons_of_mem _ (List.mem_append_right _ h)) hown hK hP 0 rfl rfl 17 (by decide) (hts _ (List.mem_of_getElem? (i := 1) rfl)) (fun _ h9 => h9) rfl dX8_longestDecodedRun_8 ?_
      refine lv_icmp_ge (tgt := 67) hx hb dX8_longestDecodedRun_11 (by decide) (fun c1 => ?_) (fun c1 => ?_)
      · have hJ := ite_t c1 hJ
        refine lv_aload_n hx hb dX8_longestDecodedRun_67 rfl (lv_at hl 0 rfl) ?_
        refine lv_iload_n hx hb dX8_longestDecodedRun_68 rfl (lv_at hl 1 rfl) ?_
        obtain ⟨z2, e3, hJ⟩ := bnd hJ
        refine rwViW (As := [.int y1]) (rest := []) (ci := 8) (q0 := 0) hx hb hml hown hts (c_X8_told l dC dI kI kB kZ a v_tape v_taped v_errorAt v_thrown v_world v_aside v_undone v_slots v_isKept v_undos v_seenPrefix v_seenLast v_seen v_previous v_gained v_gains v_decoded v_decodes v_readAt v_start v_kind v_word v_letters v_number v_fine v_text v_texted y1 H.size z2 e3) gX8_longestDecodedRun_X8_told qX8_told rfl ⟨Nat.le_of_ble_eq_true rfl, Nat.le_of_ble_eq_true rfl⟩ ⟨rfl, rfl⟩ hNW hK hP hD hS hA hK rfl rfl rfl hl.1 rfl rfl (Nat.le_of_ble_eq_true rfl) dX8_longestDecodedRun_69 z0 (fun H locs hP hD hS => ?_)
        obtain rfl := Option.some.inj hJ
        exact rw_iret hx hb hr hlocks rfl hP hD hS dX8_longestDecodedRun_72
      · have hJ := ite_f c1 hJ
        refine lv_iload_n hx hb dX8_longestDecodedRun_14 rfl (lv_at hl 3 rfl) ?_
        refine lv_if_le (tgt := 39) hx hb dX8_longestDecodedRun_15 (by decide) (fun c4 => ?_) (fun c4 => ?_)
        · have hJ := ite_t c4 hJ
          refine lv_iconst (v := 0) hx hb dX8_longestDecodedRun_39 (by decide) ?_
          refine lv_istore (lv' := [(4, .int (0 : Int32)), (0, .ref (a 0)), (1, .int y1), (2, .int y2), (3, .int y3)]) hx hb dX8_longestDecodedRun_40 hl (by decide) rfl (fun ls hl => ?_)
          refine lv_iload hx hb dX8_longestDecodedRun_42 (lv_at hl 0 rfl) ?_
          refine lv_if_eq (tgt := 53) hx hb dX8_longestDecodedRun_44 (by decide) (fun c5 => ?_) (fun c5 => ?_)
          · have hJ := ite_t c5 hJ
            refine lv_iconst (v := 1) hx hb dX8_longestDecodedRun_53 (by decide) ?_
            refine lv_istore_n (lv' := [(2, .int (1 : Int32)), (4, .int (0 : Int32)), (0, .ref (a 0)), (1, .int y1), (3, .int y3)]) hx hb dX8_longestDecodedRun_54 rfl hl (by decide) rfl (fun ls hl => ?_)
            refine lv_iload_n hx hb dX8_longestDecodedRun_55 rfl (lv_at hl 3 rfl) ?_
            refine lv_iload_n hx hb dX8_longestDecodedRun_56 rfl (lv_at hl 0 rfl) ?_
            obtain ⟨z6, e7, hJ⟩ := bnd hJ
            refine roSi (As := [.int y1, .int (1 : Int32)]) (rest := []) hx hb hml hown hts (c_X8_more l dC dI y1 (1 : Int32) z6 e7) gX8_longestDecodedRun_X8_more qX8_more rfl ⟨Nat.le_of_ble_eq_true rfl, Nat.le_of_ble_eq_true rfl⟩ ⟨rfl, rfl⟩ hNW hK hP hS (hP.sub (ws' := []) [] rfl) (hK.sub (tys' := []) [] rfl) hl.1 rfl rfl (Nat.le_of_ble_eq_true rfl) dX8_longestDecodedRun_57 z0 (fun H locs hP hS => ?_)
            refine lv_istore_n (lv' := [(1, .int z6), (2, .int (1 : Int32)), (4, .int (0 : Int32)), (0, .ref (a 0)), (3, .int y3)]) hx hb dX8_longestDecodedRun_60 rfl hl (by decide) rfl (fun ls hl => ?_)
            refine lv_iinc (v := y3 + 1) (lv' := [(3, .int (y3 + 1)), (1, .int z6), (2, .int (1 : Int32)), (4, .int (0 : Int32)), (0, .ref (a 0))]) hx hb dX8_longestDecodedRun_61 hl (k := 4) rfl rfl (by decide) rfl (fun ls hl => ?_)
            refine lv_goto (tgt := 6) hx hb dX8_longestDecodedRun_64 (by decide) ?_
            exact ih v_thrown z6 (1 : Int32) (y3 + 1) H locs ls hP hD hS (lv_sub hl [4, 1, 2, 0] rfl) hJ
          · have hJ := ite_f c5 hJ
            refine lv_iload_n hx hb dX8_longestDecodedRun_47 rfl (lv_at hl 3 rfl) ?_
            refine lv_iconst (v := 1) hx hb dX8_longestDecodedRun_48 (by decide) ?_
            refine lv_iadd hx hb dX8_longestDecodedRun_49 ?_
            refine lv_goto (tgt := 54) hx hb dX8_longestDecodedRun_50 (by decide) ?_
            refine lv_istore_n (lv' := [(2, .int (y2 + (1 : Int32))), (4, .int (0 : Int32)), (0, .ref (a 0)), (1, .int y1), (3, .int y3)]) hx hb dX8_longestDecodedRun_54 rfl hl (by decide) rfl (fun ls hl => ?_)
            refine lv_iload_n hx hb dX8_longestDecodedRun_55 rfl (lv_at hl 3 rfl) ?_
            refine lv_iload_n hx hb dX8_longestDecodedRun_56 rfl (lv_at hl 0 rfl) ?_
            obtain ⟨z8, e9, hJ⟩ := bnd hJ
            refine roSi (As := [.int y1, .int (y2 + (1 : Int32))]) (rest := []) hx hb hml hown hts (c_X8_more l dC dI y1 (y2 + (1 : Int32)) z8 e9) gX8_longestDecodedRun_X8_more qX8_more rfl ⟨Nat.le_of_ble_eq_true rfl, Nat.le_of_ble_eq_true rfl⟩ ⟨rfl, rfl⟩ hNW hK hP hS (hP.sub (ws' := []) [] rfl) (hK.sub (tys' := []) [] rfl) hl.1 rfl rfl (Nat.le_of_ble_eq_true rfl) dX8_longestDecodedRun_57 z0 (fun H locs hP hS => ?_)
            refine lv_istore_n (lv' := [(1, .int z8), (2, .int (y2 + (1 : Int32))), (4, .int (0 : Int32)), (0, .ref (a 0)), (3, .int y3)]) hx hb dX8_longestDecodedRun_60 rfl hl (by decide) rfl (fun ls hl => ?_)
            refine lv_iinc (v := y3 + 1) (lv' := [(3, .int (y3 + 1)), (1, .int z8), (2, .int (y2 + (1 : Int32))), (4, .int (0 : Int32)), (0, .ref (a 0))]) hx hb dX8_longestDecodedRun_61 hl (k := 4) rfl rfl (by decide) rfl (fun ls hl => ?_)
            refine lv_goto (tgt := 6) hx hb dX8_longestDecodedRun_64 (by decide) ?_
            exact ih v_thrown z8 (y2 + (1 : Int32)) (y3 + 1) H locs ls hP hD hS (lv_sub hl [4, 1, 2, 0] rfl) hJ
        · have hJ := ite_f c4 hJ
          refine lv_aload_n hx hb dX8_longestDecodedRun_18 rfl (lv_at hl 0 rfl) ?_
          refine va_get (D := (dC, dI)) (ci := 8) (v := .ref (a 10)) (C := RX8) (T := TX8) (N := 27) hx hb hts (fun _ h => List.mem_cons_of_mem _ (List.mem_append_right _ h)) hown hK hP 0 rfl rfl 16 (by decide) (hts _ (List.mem_of_getElem? (i := 2) rfl)) (fun _ h9 => h9) rfl dX8_longestDecodedRun_19 ?_
          refine lv_iload_n hx hb dX8_longestDecodedRun_22 rfl (lv_at hl 3 rfl) ?_
          obtain ⟨z10, e11, hJ⟩ := bnd hJ
          refine rd_int (n := 400) (f := v_decoded) hx hb hK hP 10 0 rfl rfl e11 dX8_longestDecodedRun_23 ?_
          refine lv_aload_n hx hb dX8_longestDecodedRun_24 rfl (lv_at hl 0 rfl) ?_
          refine va_get (D := (dC, dI)) (ci := 8) (v := .ref (a 10)) (C := RX8) (T := TX8) (N := 27) hx hb hts (fun _ h => List.mem_cons_of_mem _ (List.mem_append_right _ h)) hown hK hP 0 rfl rfl 16 (by decide) (hts _ (List.mem_of_getElem? (i := 2) rfl)) (fun _ h9 => h9) rfl dX8_longestDecodedRun_25 ?_
          refine lv_iload_n hx hb dX8_longestDecodedRun_28 rfl (lv_at hl 3 rfl) ?_
          refine lv_iconst (v := 1) hx hb dX8_longestDecodedRun_29 (by decide) ?_
          refine lv_isub hx hb dX8_longestDecodedRun_30 ?_
          obtain ⟨z12, e13, hJ⟩ := bnd hJ
          refine rd_int (n := 400) (f := v_decoded) hx hb hK hP 10 0 rfl rfl e13 dX8_longestDecodedRun_31 ?_
          refine lv_icmp_ne (tgt := 39) hx hb dX8_longestDecodedRun_32 (by decide) (fun c14 => ?_) (fun c14 => ?_)
          · have hJ := ite_f c14 hJ
            refine lv_iconst (v := 0) hx hb dX8_longestDecodedRun_39 (by decide) ?_
            refine lv_istore (lv' := [(4, .int (0 : Int32)), (0, .ref (a 0)), (1, .int y1), (2, .int y2), (3, .int y3)]) hx hb dX8_longestDecodedRun_40 hl (by decide) rfl (fun ls hl => ?_)
            refine lv_iload hx hb dX8_longestDecodedRun_42 (lv_at hl 0 rfl) ?_
            refine lv_if_eq (tgt := 53) hx hb dX8_longestDecodedRun_44 (by decide) (fun c15 => ?_) (fun c15 => ?_)
            · have hJ := ite_t c15 hJ
              refine lv_iconst (v := 1) hx hb dX8_longestDecodedRun_53 (by decide) ?_
              refine lv_istore_n (lv' := [(2, .int (1 : Int32)), (4, .int (0 : Int32)), (0, .ref (a 0)), (1, .int y1), (3, .int y3)]) hx hb dX8_longestDecodedRun_54 rfl hl (by decide) rfl (fun ls hl => ?_)
              refine lv_iload_n hx hb dX8_longestDecodedRun_55 rfl (lv_at hl 3 rfl) ?_
              refine lv_iload_n hx hb dX8_longestDecodedRun_56 rfl (lv_at hl 0 rfl) ?_
              obtain ⟨z16, e17, hJ⟩ := bnd hJ
              refine roSi (As := [.int y1, .int (1 : Int32)]) (rest := []) hx hb hml hown hts (c_X8_more l dC dI y1 (1 : Int32) z16 e17) gX8_longestDecodedRun_X8_more qX8_more rfl ⟨Nat.le_of_ble_eq_true rfl, Nat.le_of_ble_eq_true rfl⟩ ⟨rfl, rfl⟩ hNW hK hP hS (hP.sub (ws' := []) [] rfl) (hK.sub (tys' := []) [] rfl) hl.1 rfl rfl (Nat.le_of_ble_eq_true rfl) dX8_longestDecodedRun_57 z0 (fun H locs hP hS => ?_)
              refine lv_istore_n (lv' := [(1, .int z16), (2, .int (1 : Int32)), (4, .int (0 : Int32)), (0, .ref (a 0)), (3, .int y3)]) hx hb dX8_longestDecodedRun_60 rfl hl (by decide) rfl (fun ls hl => ?_)
              refine lv_iinc (v := y3 + 1) (lv' := [(3, .int (y3 + 1)), (1, .int z16), (2, .int (1 : Int32)), (4, .int (0 : Int32)), (0, .ref (a 0))]) hx hb dX8_longestDecodedRun_61 hl (k := 4) rfl rfl (by decide) rfl (fun ls hl => ?_)
              refine lv_goto (tgt := 6) hx hb dX8_longestDecodedRun_64 (by decide) ?_
              exact ih v_thrown z16 (1 : Int32) (y3 + 1) H locs ls hP hD hS (lv_sub hl [4, 1, 2, 0] rfl) hJ
            · have hJ := ite_f c15 hJ
              refine lv_iload_n hx hb dX8_longestDecodedRun_47 rfl (lv_at hl 3 rfl) ?_
              refine lv_iconst (v := 1) hx hb dX8_longestDecodedRun_48 (by decide) ?_
              refine lv_iadd hx hb dX8_longestDecodedRun_49 ?_
              refine lv_goto (tgt := 54) hx hb dX8_longestDecodedRun_50 (by decide) ?_
              refine lv_istore_n (lv' := [(2, .int (y2 + (1 : Int32))), (4, .int (0 : Int32)), (0, .ref (a 0)), (1, .int y1), (3, .int y3)]) hx hb dX8_longestDecodedRun_54 rfl hl (by decide) rfl (fun ls hl => ?_)
              refine lv_iload_n hx hb dX8_longestDecodedRun_55 rfl (lv_at hl 3 rfl) ?_
              refine lv_iload_n hx hb dX8_longestDecodedRun_56 rfl (lv_at hl 0 rfl) ?_
              obtain ⟨z18, e19, hJ⟩ := bnd hJ
              refine roSi (As := [.int y1, .int (y2 + (1 : Int32))]) (rest := []) hx hb hml hown hts (c_X8_more l dC dI y1 (y2 + (1 : Int32)) z18 e19) gX8_longestDecodedRun_X8_more qX8_more rfl ⟨Nat.le_of_ble_eq_true rfl, Nat.le_of_ble_eq_true rfl⟩ ⟨rfl, rfl⟩ hNW hK hP hS (hP.sub (ws' := []) [] rfl) (hK.sub (tys' := []) [] rfl) hl.1 rfl rfl (Nat.le_of_ble_eq_true rfl) dX8_longestDecodedRun_57 z0 (fun H locs hP hS => ?_)
              refine lv_istore_n (lv' := [(1, .int z18), (2, .int (y2 + (1 : Int32))), (4, .int (0 : Int32)), (0, .ref (a 0)), (3, .int y3)]) hx hb dX8_longestDecodedRun_60 rfl hl (by decide) rfl (fun ls hl => ?_)
              refine lv_iinc (v := y3 + 1) (lv' := [(3, .int (y3 + 1)), (1, .int z18), (2, .int (y2 + (1 : Int32))), (4, .int (0 : Int32)), (0, .ref (a 0))]) hx hb dX8_longestDecodedRun_61 hl (k := 4) rfl rfl (by decide) rfl (fun ls hl => ?_)
              refine lv_goto (tgt := 6) hx hb dX8_longestDecodedRun_64 (by decide) ?_
              exact ih v_thrown z18 (y2 + (1 : Int32)) (y3 + 1) H locs ls hP hD hS (lv_sub hl [4, 1, 2, 0] rfl) hJ
          · have hJ := ite_t c14 hJ
            refine lv_iconst (v := 1) hx hb dX8_longestDecodedRun_35 (by decide) ?_
            refine lv_goto (tgt := 40) hx hb dX8_longestDecodedRun_36 (by decide) ?_
            refine lv_istore (lv' := [(4, .int (1 : Int32)), (0, .ref (a 0)), (1, .int y1), (2, .int y2), (3, .int y3)]) hx hb dX8_longestDecodedRun_40 hl (by decide) rfl (fun ls hl => ?_)
            refine lv_iload hx hb dX8_longestDecodedRun_42 (lv_at hl 0 rfl) ?_
            refine lv_if_eq (tgt := 53) hx hb dX8_longestDecodedRun_44 (by decide) (fun c20 => ?_) (fun c20 => ?_)
            · have hJ := ite_t c20 hJ
              refine lv_iconst (v := 1) hx hb dX8_longestDecodedRun_53 (by decide) ?_
              refine lv_istore_n (lv' := [(2, .int (1 : Int32)), (4, .int (1 : Int32)), (0, .ref (a 0)), (1, .int y1), (3, .int y3)]) hx hb dX8_longestDecodedRun_54 rfl hl (by decide) rfl (fun ls hl => ?_)
              refine lv_iload_n hx hb dX8_longestDecodedRun_55 rfl (lv_at hl 3 rfl) ?_
              refine lv_iload_n hx hb dX8_longestDecodedRun_56 rfl (lv_at hl 0 rfl) ?_
              obtain ⟨z21, e22, hJ⟩ := bnd hJ
              refine roSi (As := [.int y1, .int (1 : Int32)]) (rest := []) hx hb hml hown hts (c_X8_more l dC dI y1 (1 : Int32) z21 e22) gX8_longestDecodedRun_X8_more qX8_more rfl ⟨Nat.le_of_ble_eq_true rfl, Nat.le_of_ble_eq_true rfl⟩ ⟨rfl, rfl⟩ hNW hK hP hS (hP.sub (ws' := []) [] rfl) (hK.sub (tys' := []) [] rfl) hl.1 rfl rfl (Nat.le_of_ble_eq_true rfl) dX8_longestDecodedRun_57 z0 (fun H locs hP hS => ?_)
              refine lv_istore_n (lv' := [(1, .int z21), (2, .int (1 : Int32)), (4, .int (1 : Int32)), (0, .ref (a 0)), (3, .int y3)]) hx hb dX8_longestDecodedRun_60 rfl hl (by decide) rfl (fun ls hl => ?_)
              refine lv_iinc (v := y3 + 1) (lv' := [(3, .int (y3 + 1)), (1, .int z21), (2, .int (1 : Int32)), (4, .int (1 : Int32)), (0, .ref (a 0))]) hx hb dX8_longestDecodedRun_61 hl (k := 4) rfl rfl (by decide) rfl (fun ls hl => ?_)
              refine lv_goto (tgt := 6) hx hb dX8_longestDecodedRun_64 (by decide) ?_
              exact ih v_thrown z21 (1 : Int32) (y3 + 1) H locs ls hP hD hS (lv_sub hl [4, 1, 2, 0] rfl) hJ
            · have hJ := ite_f c20 hJ
              refine lv_iload_n hx hb dX8_longestDecodedRun_47 rfl (lv_at hl 3 rfl) ?_
              refine lv_iconst (v := 1) hx hb dX8_longestDecodedRun_48 (by decide) ?_
              refine lv_iadd hx hb dX8_longestDecodedRun_49 ?_
              refine lv_goto (tgt := 54) hx hb dX8_longestDecodedRun_50 (by decide) ?_
              refine lv_istore_n (lv' := [(2, .int (y2 + (1 : Int32))), (4, .int (1 : Int32)), (0, .ref (a 0)), (1, .int y1), (3, .int y3)]) hx hb dX8_longestDecodedRun_54 rfl hl (by decide) rfl (fun ls hl => ?_)
              refine lv_iload_n hx hb dX8_longestDecodedRun_55 rfl (lv_at hl 3 rfl) ?_
              refine lv_iload_n hx hb dX8_longestDecodedRun_56 rfl (lv_at hl 0 rfl) ?_
              obtain ⟨z23, e24, hJ⟩ := bnd hJ
              refine roSi (As := [.int y1, .int (y2 + (1 : Int32))]) (rest := []) hx hb hml hown hts (c_X8_more l dC dI y1 (y2 + (1 : Int32)) z23 e24) gX8_longestDecodedRun_X8_more qX8_more rfl ⟨Nat.le_of_ble_eq_true rfl, Nat.le_of_ble_eq_true rfl⟩ ⟨rfl, rfl⟩ hNW hK hP hS (hP.sub (ws' := []) [] rfl) (hK.sub (tys' := []) [] rfl) hl.1 rfl rfl (Nat.le_of_ble_eq_true rfl) dX8_longestDecodedRun_57 z0 (fun H locs hP hS => ?_)
              refine lv_istore_n (lv' := [(1, .int z23), (2, .int (y2 + (1 : Int32))), (4, .int (1 : Int32)), (0, .ref (a 0)), (3, .int y3)]) hx hb dX8_longestDecodedRun_60 rfl hl (by decide) rfl (fun ls hl => ?_)
              refine lv_iinc (v := y3 + 1) (lv' := [(3, .int (y3 + 1)), (1, .int z23), (2, .int (y2 + (1 : Int32))), (4, .int (1 : Int32)), (0, .ref (a 0))]) hx hb dX8_longestDecodedRun_61 hl (k := 4) rfl rfl (by decide) rfl (fun ls hl => ?_)
              refine lv_goto (tgt := 6) hx hb dX8_longestDecodedRun_64 (by decide) ?_
              exact ih v_thrown z23 (y2 + (1 : Int32)) (y3 + 1) H locs ls hP hD hS (lv_sub hl [4, 1, 2, 0] rfl) hJ
  refine lv_iconst (v := 0) hx hb dX8_longestDecodedRun_0 (by decide) ?_
  refine lv_istore_n (lv' := [(1, .int (0 : Int32)), (0, .ref (a 0))]) hx hb dX8_longestDecodedRun_1 rfl hl (by decide) rfl (fun ls hl => ?_)
  refine lv_iconst (v := 0) hx hb dX8_longestDecodedRun_2 (by decide) ?_
  refine lv_istore_n (lv' := [(2, .int (0 : Int32)), (1, .int (0 : Int32)), (0, .ref (a 0))]) hx hb dX8_longestDecodedRun_3 rfl hl (by decide) rfl (fun ls hl => ?_)
  refine lv_iconst (v := 0) hx hb dX8_longestDecodedRun_4 (by decide) ?_
  refine lv_istore_n (lv' := [(3, .int (0 : Int32)), (2, .int (0 : Int32)), (1, .int (0 : Int32)), (0, .ref (a 0))]) hx hb dX8_longestDecodedRun_5 rfl hl (by decide) rfl (fun ls hl => ?_)
  exact L6 fu v_thrown (0 : Int32) (0 : Int32) (0 : Int32) H locs ls hP hD hS (lv_sub hl [3, 2, 1, 0] rfl) hJ
theorem qX8_restoredCount : (yX8_restoredCount.cls = RX8) ∧ yX8_restoredCount.cls ≠ "java/lang/invoke/MethodHandle" ∧ yX8_restoredCount.cls ≠ "java/lang/invoke/VarHandle" ∧ (parseMethodDescriptor yX8_restoredCount.desc).map (fun d => d.parameters.length) = some 0 := by decide +kernel
set_option maxHeartbeats 4000000 in
set_option maxRecDepth 100000 in
theorem c_X8_restoredCount (fu : Nat) (l : Launch) (dC : Nat → ClassId) (dI : Nat → Nat → Nat) (kI kB kZ : ClassId) (a : Nat → Nat) (v_tape : Nat → Int32) (v_taped : Int32) (v_errorAt : Int32) (v_thrown : Int32) (v_world : Nat → Int32) (v_aside : Nat → Int32) (v_undone : Nat → Int32) (v_slots : Nat → Int32) (v_isKept : Nat → Int32) (v_undos : Int32) (v_seenPrefix : Nat → Int32) (v_seenLast : Nat → Int32) (v_seen : Int32) (v_previous : Int32) (v_gained : Nat → Int32) (v_gains : Int32) (v_decoded : Nat → Int32) (v_decodes : Int32) (v_readAt : Int32) (v_start : Int32) (v_kind : Int32) (v_word : Int64) (v_letters : Int32) (v_number : Int32) (v_fine : Int32) (v_text : Nat → Int32) (v_texted : Int32) (sz : Nat) (z : Int32 × Int32 × (Nat → Int32) × (Nat → Int32) × Int32 × Int32 × (Nat → Int32) × Int32) (hJ : J_X8_restoredCount fu v_thrown v_world v_seenPrefix v_seenLast v_seen v_previous v_gained v_gains = some z) : Met l yX8_restoredCount wsX8_restoredCount ({ frames := 6, cells := 0, slots := 0, locals := 132 }) (va_Pc [.ref (a 0)] (RWp dC dI sz (MWc a kI kB kZ v_tape v_taped v_errorAt v_thrown v_world v_aside v_undone v_slots v_isKept v_undos v_seenPrefix v_seenLast v_seen v_previous v_gained v_gains v_decoded v_decodes v_readAt v_start v_kind v_word v_letters v_number v_fine v_text v_texted) [(kI, .int), (kB, .byte), (kZ, .boolean)])) (rwQi dC dI (va_A (MWc a kI kB kZ v_tape v_taped v_errorAt v_thrown v_world v_aside v_undone v_slots v_isKept v_undos v_seenPrefix v_seenLast v_seen v_previous v_gained v_gains v_decoded v_decodes v_readAt v_start v_kind v_word v_letters v_number v_fine v_text v_texted) sz) (MWc a kI kB kZ v_tape v_taped v_errorAt z.2.1 v_world v_aside v_undone v_slots v_isKept v_undos z.2.2.1 z.2.2.2.1 z.2.2.2.2.1 z.2.2.2.2.2.1 z.2.2.2.2.2.2.1 z.2.2.2.2.2.2.2 v_decoded v_decodes v_readAt v_start v_kind v_word v_letters v_number v_fine v_text v_texted) z.1) 0 0 (va_A (MWc a kI kB kZ v_tape v_taped v_errorAt v_thrown v_world v_aside v_undone v_slots v_isKept v_undos v_seenPrefix v_seenLast v_seen v_previous v_gained v_gains v_decoded v_decodes v_readAt v_start v_kind v_word v_letters v_number v_fine v_text v_texted) sz) := by
  refine rw_start (Qc := fun A => rwQi dC dI A (MWc a kI kB kZ v_tape v_taped v_errorAt z.2.1 v_world v_aside v_undone v_slots v_isKept v_undos z.2.2.1 z.2.2.2.1 z.2.2.2.2.1 z.2.2.2.2.2.1 z.2.2.2.2.2.2.1 z.2.2.2.2.2.2.2 v_decoded v_decodes v_readAt v_start v_kind v_word v_letters v_number v_fine v_text v_texted) z.1) (cc := cX8_restoredCount) (maxL := 1) (ret := (some .int)) (by decide) rfl (Nat.le_of_ble_eq_true rfl) ?_
  intro p e s m args below meth c hx hb hr hml hown hts hlocks hNW hK A hA H locs ls hP hD hS hl
  have hown : s.vm.findClass RX8 = some m.cls := hown
  have hl : lv_has ls 1 [(0, .ref (a 0))] := hl
  unfold J_X8_restoredCount at hJ
  refine lv_aload_n hx hb dX8_restoredCount_0 rfl (lv_at hl 0 rfl) ?_
  obtain ⟨z1, e2, hJ⟩ := bnd hJ
  refine rwVvW (As := []) (rest := []) (ci := 8) (q0 := 0) hx hb hml hown hts (c_X8_decodesWritten fu l dC dI kI kB kZ a v_tape v_taped v_errorAt v_thrown v_world v_aside v_undone v_slots v_isKept v_undos v_seenPrefix v_seenLast v_seen v_previous v_gained v_gains v_decoded v_decodes v_readAt v_start v_kind v_word v_letters v_number v_fine v_text v_texted H.size z1 e2) gX8_restoredCount_X8_decodesWritten qX8_decodesWritten rfl ⟨Nat.le_of_ble_eq_true rfl, Nat.le_of_ble_eq_true rfl⟩ ⟨rfl, rfl⟩ hNW hK hP hD hS hA hK rfl rfl rfl hl.1 rfl rfl (Nat.le_of_ble_eq_true rfl) dX8_restoredCount_1 z0 (fun H locs hP hD hS => ?_)
  refine lv_aload_n hx hb dX8_restoredCount_4 rfl (lv_at hl 0 rfl) ?_
  refine lv_aload_n hx hb dX8_restoredCount_5 rfl (lv_at hl 0 rfl) ?_
  refine va_get (D := (dC, dI)) (ci := 8) (v := .int z1.2.2.2.2.2) (C := RX8) (T := TX8) (N := 27) hx hb hts (fun _ h => List.mem_cons_of_mem _ (List.mem_append_right _ h)) hown hK hP 0 rfl rfl 15 (by decide) (hts _ (List.mem_of_getElem? (i := 1) rfl)) (fun _ h9 => h9) rfl dX8_restoredCount_6 ?_
  obtain ⟨z3, e4, hJ⟩ := bnd hJ
  refine rwViW (As := [.int z1.2.2.2.2.2]) (rest := []) (ci := 8) (q0 := 0) hx hb hml hown hts (c_X8_told l dC dI kI kB kZ a v_tape v_taped v_errorAt v_thrown v_world v_aside v_undone v_slots v_isKept v_undos z1.1 z1.2.1 z1.2.2.1 z1.2.2.2.1 z1.2.2.2.2.1 z1.2.2.2.2.2 v_decoded v_decodes v_readAt v_start v_kind v_word v_letters v_number v_fine v_text v_texted z1.2.2.2.2.2 H.size z3 e4) gX8_restoredCount_X8_told qX8_told rfl ⟨Nat.le_of_ble_eq_true rfl, Nat.le_of_ble_eq_true rfl⟩ ⟨rfl, rfl⟩ hNW hK hP hD hS hA hK rfl rfl rfl hl.1 rfl rfl (Nat.le_of_ble_eq_true rfl) dX8_restoredCount_9 z0 (fun H locs hP hD hS => ?_)
  obtain rfl := Option.some.inj hJ
  exact rw_iret hx hb hr hlocks rfl hP hD hS dX8_restoredCount_12
theorem qX8_areEncoded : (yX8_areEncoded.cls = RX8) ∧ yX8_areEncoded.cls ≠ "java/lang/invoke/MethodHandle" ∧ yX8_areEncoded.cls ≠ "java/lang/invoke/VarHandle" ∧ (parseMethodDescriptor yX8_areEncoded.desc).map (fun d => d.parameters.length) = some 0 := by decide +kernel
set_option maxHeartbeats 4000000 in
set_option maxRecDepth 100000 in
theorem c_X8_areEncoded (fu : Nat) (l : Launch) (dC : Nat → ClassId) (dI : Nat → Nat → Nat) (kI kB kZ : ClassId) (a : Nat → Nat) (v_tape : Nat → Int32) (v_taped : Int32) (v_errorAt : Int32) (v_thrown : Int32) (v_world : Nat → Int32) (v_aside : Nat → Int32) (v_undone : Nat → Int32) (v_slots : Nat → Int32) (v_isKept : Nat → Int32) (v_undos : Int32) (v_seenPrefix : Nat → Int32) (v_seenLast : Nat → Int32) (v_seen : Int32) (v_previous : Int32) (v_gained : Nat → Int32) (v_gains : Int32) (v_decoded : Nat → Int32) (v_decodes : Int32) (v_readAt : Int32) (v_start : Int32) (v_kind : Int32) (v_word : Int64) (v_letters : Int32) (v_number : Int32) (v_fine : Int32) (v_text : Nat → Int32) (v_texted : Int32) (z : Int32) (hJ : J_X8_areEncoded fu v_world v_gained v_gains = some z) : Met l yX8_areEncoded wsX8_areEncoded ({ frames := 0, cells := 0, slots := 0, locals := 0 }) (va_Pc [.ref (a 0)] (ROp dC dI (MWc a kI kB kZ v_tape v_taped v_errorAt v_thrown v_world v_aside v_undone v_slots v_isKept v_undos v_seenPrefix v_seenLast v_seen v_previous v_gained v_gains v_decoded v_decodes v_readAt v_start v_kind v_word v_letters v_number v_fine v_text v_texted) [(kI, .int), (kB, .byte), (kZ, .boolean)])) (roQi z) 0 0 (fun _ => False) := by
  refine ro_start (cc := cX8_areEncoded) (maxL := 3) (ret := (some .boolean)) (by decide) rfl (Nat.le_of_ble_eq_true rfl) ?_
  intro p e s m args below meth c hx hb hr hml hown hts hlocks hNW hK H locs ls hP hS hl
  have hown : s.vm.findClass RX8 = some m.cls := hown
  have hl : lv_has ls 3 [(0, .ref (a 0))] := hl
  unfold J_X8_areEncoded at hJ
  have L4 : ∀ (n : Nat) (y1 : Int32) (y2 : Int32) (H : Heap) (locs : List Loc) (ls : Array Slot), va_P (dC, dI) vwCl (MWc a kI kB kZ v_tape v_taped v_errorAt v_thrown v_world v_aside v_undone v_slots v_isKept v_undos v_seenPrefix v_seenLast v_seen v_previous v_gained v_gains v_decoded v_decodes v_readAt v_start v_kind v_word v_letters v_number v_fine v_text v_texted) H → va_S (fun _ => False) s.heap H locs → lv_has ls 3 [(0, .ref (a 0)), (1, .int y1), (2, .int y2)] → J_X8_areEncoded_b4 fu v_world v_gained v_gains n y1 y2 = some z → W p l e ({ frames := 0, cells := 0, slots := 0, locals := 0 }) s m args below meth c H locs 0 0 (MQ below (roQi z) args s 0 0 (fun _ => False)) (F0 m 4 ls []) := by
    intro n
    induction n with
    | zero =>
      intro y1 y2 H locs ls hP hS hl hJ
      rw [J_X8_areEncoded_b4] at hJ; cases hJ
    | succ n ih =>
      intro y1 y2 H locs ls hP hS hl hJ
      rw [J_X8_areEncoded_b4] at hJ
      refine lv_iload_n hx hb dX8_areEncoded_4 rfl (lv_at hl 2 rfl) ?_
      refine lv_aload_n hx hb dX8_areEncoded_5 rfl (lv_at hl 0 rfl) ?_
      refine va_get (D := (dC, dI)) (ci := 8) (v := .int v_gains) (C := RX8) (T := TX8) (N := 27) hx hb hts (fun _ h => List.mem_cons_of_mem _ (List.mem_append_right _ h)) hown hK hP 0 rfl rfl 15 (by decide) (hts _ (List.mem_of_getElem? (i := 1) rfl)) (fun _ h9 => h9) rfl dX8_areEncoded_6 ?_
      refine lv_icmp_ge (tgt := 47) hx hb dX8_areEncoded_9 (by decide) (fun c1 => ?_) (fun c1 => ?_)
      · have hJ := ite_t c1 hJ
        refine lv_iload_n hx hb dX8_areEncoded_47 rfl (lv_at hl 1 rfl) ?_
        obtain ⟨h2, hJ⟩ := ite_some hJ
        exact ro_zret hx hb hr hlocks (nar_z h2) hS hJ dX8_areEncoded_48
      · have hJ := ite_f c1 hJ
        refine lv_iload_n hx hb dX8_areEncoded_12 rfl (lv_at hl 1 rfl) ?_
        refine lv_if_eq (tgt := 47) hx hb dX8_areEncoded_13 (by decide) (fun c3 => ?_) (fun c3 => ?_)
        · have hJ := ite_t c3 hJ
          refine lv_iload_n hx hb dX8_areEncoded_47 rfl (lv_at hl 1 rfl) ?_
          obtain ⟨h4, hJ⟩ := ite_some hJ
          exact ro_zret hx hb hr hlocks (nar_z h4) hS hJ dX8_areEncoded_48
        · have hJ := ite_f c3 hJ
          refine lv_aload_n hx hb dX8_areEncoded_16 rfl (lv_at hl 0 rfl) ?_
          refine va_get (D := (dC, dI)) (ci := 8) (v := .ref (a 9)) (C := RX8) (T := TX8) (N := 27) hx hb hts (fun _ h => List.mem_cons_of_mem _ (List.mem_append_right _ h)) hown hK hP 0 rfl rfl 14 (by decide) (hts _ (List.mem_of_getElem? (i := 2) rfl)) (fun _ h9 => h9) rfl dX8_areEncoded_17 ?_
          refine lv_iload_n hx hb dX8_areEncoded_20 rfl (lv_at hl 2 rfl) ?_
          obtain ⟨z5, e6, hJ⟩ := bnd hJ
          refine rd_int (n := 400) (f := v_gained) hx hb hK hP 9 0 rfl rfl e6 dX8_areEncoded_21 ?_
          refine lv_aload_n hx hb dX8_areEncoded_22 rfl (lv_at hl 0 rfl) ?_
          refine va_get (D := (dC, dI)) (ci := 8) (v := .ref (a 2)) (C := RX8) (T := TX8) (N := 27) hx hb hts (fun _ h => List.mem_cons_of_mem _ (List.mem_append_right _ h)) hown hK hP 0 rfl rfl 4 (by decide) (hts _ (List.mem_of_getElem? (i := 3) rfl)) (fun _ h9 => h9) rfl dX8_areEncoded_23 ?_
          refine lv_sipush (v := 526) hx hb dX8_areEncoded_26 (by decide) ?_
          refine lv_iload_n hx hb dX8_areEncoded_29 rfl (lv_at hl 2 rfl) ?_
          refine lv_iadd hx hb dX8_areEncoded_30 ?_
          obtain ⟨z7, e8, hJ⟩ := bnd hJ
          refine rd_int (n := 1726) (f := v_world) hx hb hK hP 2 0 rfl rfl e8 dX8_areEncoded_31 ?_
          refine lv_icmp_ne (tgt := 39) hx hb dX8_areEncoded_32 (by decide) (fun c9 => ?_) (fun c9 => ?_)
          · have hJ := ite_f c9 hJ
            refine lv_iconst (v := 0) hx hb dX8_areEncoded_39 (by decide) ?_
            refine lv_istore_n (lv' := [(1, .int (0 : Int32)), (0, .ref (a 0)), (2, .int y2)]) hx hb dX8_areEncoded_40 rfl hl (by decide) rfl (fun ls hl => ?_)
            refine lv_iinc (v := y2 + 1) (lv' := [(2, .int (y2 + 1)), (1, .int (0 : Int32)), (0, .ref (a 0))]) hx hb dX8_areEncoded_41 hl (k := 2) rfl rfl (by decide) rfl (fun ls hl => ?_)
            refine lv_goto (tgt := 4) hx hb dX8_areEncoded_44 (by decide) ?_
            exact ih (0 : Int32) (y2 + 1) H locs ls hP hS (lv_sub hl [2, 1, 0] rfl) hJ
          · have hJ := ite_t c9 hJ
            refine lv_iconst (v := 1) hx hb dX8_areEncoded_35 (by decide) ?_
            refine lv_goto (tgt := 40) hx hb dX8_areEncoded_36 (by decide) ?_
            refine lv_istore_n (lv' := [(1, .int (1 : Int32)), (0, .ref (a 0)), (2, .int y2)]) hx hb dX8_areEncoded_40 rfl hl (by decide) rfl (fun ls hl => ?_)
            refine lv_iinc (v := y2 + 1) (lv' := [(2, .int (y2 + 1)), (1, .int (1 : Int32)), (0, .ref (a 0))]) hx hb dX8_areEncoded_41 hl (k := 2) rfl rfl (by decide) rfl (fun ls hl => ?_)
            refine lv_goto (tgt := 4) hx hb dX8_areEncoded_44 (by decide) ?_
            exact ih (1 : Int32) (y2 + 1) H locs ls hP hS (lv_sub hl [2, 1, 0] rfl) hJ
  refine lv_iconst (v := 1) hx hb dX8_areEncoded_0 (by decide) ?_
  refine lv_istore_n (lv' := [(1, .int (1 : Int32)), (0, .ref (a 0))]) hx hb dX8_areEncoded_1 rfl hl (by decide) rfl (fun ls hl => ?_)
  refine lv_iconst (v := 0) hx hb dX8_areEncoded_2 (by decide) ?_
  refine lv_istore_n (lv' := [(2, .int (0 : Int32)), (1, .int (1 : Int32)), (0, .ref (a 0))]) hx hb dX8_areEncoded_3 rfl hl (by decide) rfl (fun ls hl => ?_)
  exact L4 fu (1 : Int32) (0 : Int32) H locs ls hP hS (lv_sub hl [2, 1, 0] rfl) hJ
theorem qX8_isRestored : (yX8_isRestored.cls = RX8) ∧ yX8_isRestored.cls ≠ "java/lang/invoke/MethodHandle" ∧ yX8_isRestored.cls ≠ "java/lang/invoke/VarHandle" ∧ (parseMethodDescriptor yX8_isRestored.desc).map (fun d => d.parameters.length) = some 0 := by decide +kernel
set_option maxHeartbeats 4000000 in
set_option maxRecDepth 100000 in
theorem c_X8_isRestored (fu : Nat) (l : Launch) (dC : Nat → ClassId) (dI : Nat → Nat → Nat) (kI kB kZ : ClassId) (a : Nat → Nat) (v_tape : Nat → Int32) (v_taped : Int32) (v_errorAt : Int32) (v_thrown : Int32) (v_world : Nat → Int32) (v_aside : Nat → Int32) (v_undone : Nat → Int32) (v_slots : Nat → Int32) (v_isKept : Nat → Int32) (v_undos : Int32) (v_seenPrefix : Nat → Int32) (v_seenLast : Nat → Int32) (v_seen : Int32) (v_previous : Int32) (v_gained : Nat → Int32) (v_gains : Int32) (v_decoded : Nat → Int32) (v_decodes : Int32) (v_readAt : Int32) (v_start : Int32) (v_kind : Int32) (v_word : Int64) (v_letters : Int32) (v_number : Int32) (v_fine : Int32) (v_text : Nat → Int32) (v_texted : Int32) (sz : Nat) (z : Int32 × Int32 × (Nat → Int32) × (Nat → Int32) × Int32 × Int32 × (Nat → Int32) × Int32) (hJ : J_X8_isRestored fu v_thrown v_world v_seenPrefix v_seenLast v_seen v_previous v_gained v_gains = some z) : Met l yX8_isRestored wsX8_isRestored ({ frames := 6, cells := 0, slots := 0, locals := 132 }) (va_Pc [.ref (a 0)] (RWp dC dI sz (MWc a kI kB kZ v_tape v_taped v_errorAt v_thrown v_world v_aside v_undone v_slots v_isKept v_undos v_seenPrefix v_seenLast v_seen v_previous v_gained v_gains v_decoded v_decodes v_readAt v_start v_kind v_word v_letters v_number v_fine v_text v_texted) [(kI, .int), (kB, .byte), (kZ, .boolean)])) (rwQi dC dI (va_A (MWc a kI kB kZ v_tape v_taped v_errorAt v_thrown v_world v_aside v_undone v_slots v_isKept v_undos v_seenPrefix v_seenLast v_seen v_previous v_gained v_gains v_decoded v_decodes v_readAt v_start v_kind v_word v_letters v_number v_fine v_text v_texted) sz) (MWc a kI kB kZ v_tape v_taped v_errorAt z.2.1 v_world v_aside v_undone v_slots v_isKept v_undos z.2.2.1 z.2.2.2.1 z.2.2.2.2.1 z.2.2.2.2.2.1 z.2.2.2.2.2.2.1 z.2.2.2.2.2.2.2 v_decoded v_decodes v_readAt v_start v_kind v_word v_letters v_number v_fine v_text v_texted) z.1) 0 0 (va_A (MWc a kI kB kZ v_tape v_taped v_errorAt v_thrown v_world v_aside v_undone v_slots v_isKept v_undos v_seenPrefix v_seenLast v_seen v_previous v_gained v_gains v_decoded v_decodes v_readAt v_start v_kind v_word v_letters v_number v_fine v_text v_texted) sz) := by
  refine rw_start (Qc := fun A => rwQi dC dI A (MWc a kI kB kZ v_tape v_taped v_errorAt z.2.1 v_world v_aside v_undone v_slots v_isKept v_undos z.2.2.1 z.2.2.2.1 z.2.2.2.2.1 z.2.2.2.2.2.1 z.2.2.2.2.2.2.1 z.2.2.2.2.2.2.2 v_decoded v_decodes v_readAt v_start v_kind v_word v_letters v_number v_fine v_text v_texted) z.1) (cc := cX8_isRestored) (maxL := 1) (ret := (some .boolean)) (by decide) rfl (Nat.le_of_ble_eq_true rfl) ?_
  intro p e s m args below meth c hx hb hr hml hown hts hlocks hNW hK A hA H locs ls hP hD hS hl
  have hown : s.vm.findClass RX8 = some m.cls := hown
  have hl : lv_has ls 1 [(0, .ref (a 0))] := hl
  unfold J_X8_isRestored at hJ
  refine lv_aload_n hx hb dX8_isRestored_0 rfl (lv_at hl 0 rfl) ?_
  obtain ⟨z1, e2, hJ⟩ := bnd hJ
  refine rwVvW (As := []) (rest := []) (ci := 8) (q0 := 0) hx hb hml hown hts (c_X8_decodesWritten fu l dC dI kI kB kZ a v_tape v_taped v_errorAt v_thrown v_world v_aside v_undone v_slots v_isKept v_undos v_seenPrefix v_seenLast v_seen v_previous v_gained v_gains v_decoded v_decodes v_readAt v_start v_kind v_word v_letters v_number v_fine v_text v_texted H.size z1 e2) gX8_isRestored_X8_decodesWritten qX8_decodesWritten rfl ⟨Nat.le_of_ble_eq_true rfl, Nat.le_of_ble_eq_true rfl⟩ ⟨rfl, rfl⟩ hNW hK hP hD hS hA hK rfl rfl rfl hl.1 rfl rfl (Nat.le_of_ble_eq_true rfl) dX8_isRestored_1 z0 (fun H locs hP hD hS => ?_)
  refine lv_aload_n hx hb dX8_isRestored_4 rfl (lv_at hl 0 rfl) ?_
  refine va_get (D := (dC, dI)) (ci := 8) (v := .int z1.2.2.2.2.2) (C := RX8) (T := TX8) (N := 27) hx hb hts (fun _ h => List.mem_cons_of_mem _ (List.mem_append_right _ h)) hown hK hP 0 rfl rfl 15 (by decide) (hts _ (List.mem_of_getElem? (i := 1) rfl)) (fun _ h9 => h9) rfl dX8_isRestored_5 ?_
  refine lv_aload_n hx hb dX8_isRestored_8 rfl (lv_at hl 0 rfl) ?_
  refine va_get (D := (dC, dI)) (ci := 8) (v := .ref (a 2)) (C := RX8) (T := TX8) (N := 27) hx hb hts (fun _ h => List.mem_cons_of_mem _ (List.mem_append_right _ h)) hown hK hP 0 rfl rfl 4 (by decide) (hts _ (List.mem_of_getElem? (i := 2) rfl)) (fun _ h9 => h9) rfl dX8_isRestored_9 ?_
  refine lv_bipush (v := 13) hx hb dX8_isRestored_12 (by decide) ?_
  obtain ⟨z3, e4, hJ⟩ := bnd hJ
  refine rd_int (n := 1726) (f := v_world) hx hb hK hP 2 0 rfl rfl e4 dX8_isRestored_14 ?_
  refine lv_icmp_eq (tgt := 24) hx hb dX8_isRestored_15 (by decide) (fun c5 => ?_) (fun c5 => ?_)
  · have hJ := ite_t c5 hJ
    refine lv_aload_n hx hb dX8_isRestored_24 rfl (lv_at hl 0 rfl) ?_
    refine lv_aload_n hx hb dX8_isRestored_25 rfl (lv_at hl 0 rfl) ?_
    obtain ⟨z6, e7, hJ⟩ := bnd hJ
    refine roVi (As := []) (rest := [.ref (a 0)]) (ci := 8) (q0 := 0) hx hb hml hown hts (c_X8_areEncoded fu l dC dI kI kB kZ a v_tape v_taped v_errorAt v_thrown v_world v_aside v_undone v_slots v_isKept v_undos z1.1 z1.2.1 z1.2.2.1 z1.2.2.2.1 z1.2.2.2.2.1 z1.2.2.2.2.2 v_decoded v_decodes v_readAt v_start v_kind v_word v_letters v_number v_fine v_text v_texted z6 e7) gX8_isRestored_X8_areEncoded qX8_areEncoded rfl ⟨Nat.le_of_ble_eq_true rfl, Nat.le_of_ble_eq_true rfl⟩ ⟨rfl, rfl⟩ hNW hK hP hS hP hK rfl rfl rfl hl.1 rfl rfl (Nat.le_of_ble_eq_true rfl) dX8_isRestored_26 z0 (fun H locs hP hS => ?_)
    obtain ⟨z8, e9, hJ⟩ := bnd hJ
    refine rwViW (As := [.int z6]) (rest := []) (ci := 8) (q0 := 0) hx hb hml hown hts (c_X8_toldIf l dC dI kI kB kZ a v_tape v_taped v_errorAt v_thrown v_world v_aside v_undone v_slots v_isKept v_undos z1.1 z1.2.1 z1.2.2.1 z1.2.2.2.1 z1.2.2.2.2.1 z1.2.2.2.2.2 v_decoded v_decodes v_readAt v_start v_kind v_word v_letters v_number v_fine v_text v_texted z6 H.size z8 e9) gX8_isRestored_X8_toldIf qX8_toldIf rfl ⟨Nat.le_of_ble_eq_true rfl, Nat.le_of_ble_eq_true rfl⟩ ⟨rfl, rfl⟩ hNW hK hP hD hS hA hK rfl rfl rfl hl.1 rfl rfl (Nat.le_of_ble_eq_true rfl) dX8_isRestored_29 z0 (fun H locs hP hD hS => ?_)
    obtain ⟨h10, hJ⟩ := ite_some hJ
    obtain rfl := Option.some.inj hJ
    exact rw_zret hx hb hr hlocks (nar_z h10) rfl hP hD hS dX8_isRestored_32
  · have hJ := ite_f c5 hJ
    refine lv_aload_n hx hb dX8_isRestored_18 rfl (lv_at hl 0 rfl) ?_
    refine lv_iconst (v := 0) hx hb dX8_isRestored_19 (by decide) ?_
    obtain ⟨z11, e12, hJ⟩ := bnd hJ
    refine rwViW (As := [.int (0 : Int32)]) (rest := []) (ci := 8) (q0 := 0) hx hb hml hown hts (c_X8_toldIf l dC dI kI kB kZ a v_tape v_taped v_errorAt v_thrown v_world v_aside v_undone v_slots v_isKept v_undos z1.1 z1.2.1 z1.2.2.1 z1.2.2.2.1 z1.2.2.2.2.1 z1.2.2.2.2.2 v_decoded v_decodes v_readAt v_start v_kind v_word v_letters v_number v_fine v_text v_texted (0 : Int32) H.size z11 e12) gX8_isRestored_X8_toldIf qX8_toldIf rfl ⟨Nat.le_of_ble_eq_true rfl, Nat.le_of_ble_eq_true rfl⟩ ⟨rfl, rfl⟩ hNW hK hP hD hS hA hK rfl rfl rfl hl.1 rfl rfl (Nat.le_of_ble_eq_true rfl) dX8_isRestored_20 z0 (fun H locs hP hD hS => ?_)
    obtain ⟨h13, hJ⟩ := ite_some hJ
    obtain rfl := Option.some.inj hJ
    exact rw_zret hx hb hr hlocks (nar_z h13) rfl hP hD hS dX8_isRestored_23
theorem qX8_says : (yX8_says.cls = RX8) ∧ yX8_says.cls ≠ "java/lang/invoke/MethodHandle" ∧ yX8_says.cls ≠ "java/lang/invoke/VarHandle" ∧ (parseMethodDescriptor yX8_says.desc).map (fun d => d.parameters.length) = some 1 := by decide +kernel
set_option maxHeartbeats 4000000 in
set_option maxRecDepth 100000 in
theorem c_X8_says (l : Launch) (dC : Nat → ClassId) (dI : Nat → Nat → Nat) (kI kB kZ : ClassId) (a : Nat → Nat) (v_tape : Nat → Int32) (v_taped : Int32) (v_errorAt : Int32) (v_thrown : Int32) (v_world : Nat → Int32) (v_aside : Nat → Int32) (v_undone : Nat → Int32) (v_slots : Nat → Int32) (v_isKept : Nat → Int32) (v_undos : Int32) (v_seenPrefix : Nat → Int32) (v_seenLast : Nat → Int32) (v_seen : Int32) (v_previous : Int32) (v_gained : Nat → Int32) (v_gains : Int32) (v_decoded : Nat → Int32) (v_decodes : Int32) (v_readAt : Int32) (v_start : Int32) (v_kind : Int32) (v_word : Int64) (v_letters : Int32) (v_number : Int32) (v_fine : Int32) (v_text : Nat → Int32) (v_texted : Int32) (p0 : Int32) (sz : Nat) (z : (Nat → Int32) × Int32) (hJ : J_X8_says v_text v_texted p0 = some z) : Met l yX8_says wsX8_says ({ frames := 0, cells := 0, slots := 0, locals := 0 }) (va_Pc [.ref (a 0), .int p0] (RWp dC dI sz (MWc a kI kB kZ v_tape v_taped v_errorAt v_thrown v_world v_aside v_undone v_slots v_isKept v_undos v_seenPrefix v_seenLast v_seen v_previous v_gained v_gains v_decoded v_decodes v_readAt v_start v_kind v_word v_letters v_number v_fine v_text v_texted) [(kI, .int), (kB, .byte), (kZ, .boolean)])) (rwQv dC dI (va_A (MWc a kI kB kZ v_tape v_taped v_errorAt v_thrown v_world v_aside v_undone v_slots v_isKept v_undos v_seenPrefix v_seenLast v_seen v_previous v_gained v_gains v_decoded v_decodes v_readAt v_start v_kind v_word v_letters v_number v_fine v_text v_texted) sz) (MWc a kI kB kZ v_tape v_taped v_errorAt v_thrown v_world v_aside v_undone v_slots v_isKept v_undos v_seenPrefix v_seenLast v_seen v_previous v_gained v_gains v_decoded v_decodes v_readAt v_start v_kind v_word v_letters v_number v_fine z.1 z.2)) 0 0 (va_A (MWc a kI kB kZ v_tape v_taped v_errorAt v_thrown v_world v_aside v_undone v_slots v_isKept v_undos v_seenPrefix v_seenLast v_seen v_previous v_gained v_gains v_decoded v_decodes v_readAt v_start v_kind v_word v_letters v_number v_fine v_text v_texted) sz) := by
  refine rw_start (Qc := fun A => rwQv dC dI A (MWc a kI kB kZ v_tape v_taped v_errorAt v_thrown v_world v_aside v_undone v_slots v_isKept v_undos v_seenPrefix v_seenLast v_seen v_previous v_gained v_gains v_decoded v_decodes v_readAt v_start v_kind v_word v_letters v_number v_fine z.1 z.2)) (cc := cX8_says) (maxL := 2) (ret := none) (by decide) rfl (Nat.le_of_ble_eq_true rfl) ?_
  intro p e s m args below meth c hx hb hr hml hown hts hlocks hNW hK A hA H locs ls hP hD hS hl
  have hown : s.vm.findClass RX8 = some m.cls := hown
  have hl : lv_has ls 2 [(0, .ref (a 0)), (1, .int p0)] := hl
  unfold J_X8_says at hJ
  refine lv_aload_n hx hb dX8_says_0 rfl (lv_at hl 0 rfl) ?_
  refine va_get (D := (dC, dI)) (ci := 8) (v := .ref (a 11)) (C := RX8) (T := TX8) (N := 27) hx hb hts (fun _ h => List.mem_cons_of_mem _ (List.mem_append_right _ h)) hown hK hP 0 rfl rfl 25 (by decide) (hts _ (List.mem_of_getElem? (i := 1) rfl)) (fun _ h9 => h9) rfl dX8_says_1 ?_
  refine lv_aload_n hx hb dX8_says_4 rfl (lv_at hl 0 rfl) ?_
  refine va_get (D := (dC, dI)) (ci := 8) (v := .int v_texted) (C := RX8) (T := TX8) (N := 27) hx hb hts (fun _ h => List.mem_cons_of_mem _ (List.mem_append_right _ h)) hown hK hP 0 rfl rfl 26 (by decide) (hts _ (List.mem_of_getElem? (i := 2) rfl)) (fun _ h9 => h9) rfl dX8_says_5 ?_
  refine lv_iload_n hx hb dX8_says_8 rfl (lv_at hl 1 rfl) ?_
  refine lv_i2b (v := p0.toInt8.toInt32) hx hb dX8_says_9 rfl ?_
  obtain ⟨g1, e2, hJ⟩ := bnd hJ
  refine wr_byte (n := 500) (f := v_text) (x := p0.toInt8.toInt32) hx hb hK hP hD hS 11 1 rfl rfl e2 dX8_says_10 (fun H locs hP hD hS => ?_)
  have hP : va_P (dC, dI) vwCl (MWc a kI kB kZ v_tape v_taped v_errorAt v_thrown v_world v_aside v_undone v_slots v_isKept v_undos v_seenPrefix v_seenLast v_seen v_previous v_gained v_gains v_decoded v_decodes v_readAt v_start v_kind v_word v_letters v_number v_fine g1 v_texted) H := hP
  have hD : va_D A (MWc a kI kB kZ v_tape v_taped v_errorAt v_thrown v_world v_aside v_undone v_slots v_isKept v_undos v_seenPrefix v_seenLast v_seen v_previous v_gained v_gains v_decoded v_decodes v_readAt v_start v_kind v_word v_letters v_number v_fine g1 v_texted) := hD
  refine lv_aload_n hx hb dX8_says_11 rfl (lv_at hl 0 rfl) ?_
  refine lv_dup hx hb dX8_says_12 rfl ?_
  refine va_get (D := (dC, dI)) (ci := 8) (v := .int v_texted) (C := RX8) (T := TX8) (N := 27) hx hb hts (fun _ h => List.mem_cons_of_mem _ (List.mem_append_right _ h)) hown hK hP 0 rfl rfl 26 (by decide) (hts _ (List.mem_of_getElem? (i := 2) rfl)) (fun _ h9 => h9) rfl dX8_says_13 ?_
  refine lv_iconst (v := 1) hx hb dX8_says_16 (by decide) ?_
  refine lv_iadd hx hb dX8_says_17 ?_
  refine va_put (D := (dC, dI)) (ci := 8) (v := .int (v_texted + (1 : Int32))) (ty := .int) (C := RX8) (T := TX8) (N := 27) hx hb hts (fun _ h => List.mem_cons_of_mem _ (List.mem_append_right _ h)) tyX8 tyX8_ok nmX8 hown hK hP hD hS 0 rfl rfl 26 (by decide) (hts _ (List.mem_of_getElem? (i := 2) rfl)) (fun _ h9 => h9) rfl (by decide +kernel) rfl rfl (Nat.le_of_ble_eq_true rfl) dX8_says_18 (fun H locs hP hD hS => ?_)
  have hP : va_P (dC, dI) vwCl (MWc a kI kB kZ v_tape v_taped v_errorAt v_thrown v_world v_aside v_undone v_slots v_isKept v_undos v_seenPrefix v_seenLast v_seen v_previous v_gained v_gains v_decoded v_decodes v_readAt v_start v_kind v_word v_letters v_number v_fine g1 (v_texted + (1 : Int32))) H := hP
  have hD : va_D A (MWc a kI kB kZ v_tape v_taped v_errorAt v_thrown v_world v_aside v_undone v_slots v_isKept v_undos v_seenPrefix v_seenLast v_seen v_previous v_gained v_gains v_decoded v_decodes v_readAt v_start v_kind v_word v_letters v_number v_fine g1 (v_texted + (1 : Int32))) := hD
  obtain rfl := Option.some.inj hJ
  exact rw_vret hx hb hr hlocks hP hD hS dX8_says_21
theorem qX8_saysWord : (yX8_saysWord.cls = RX8) ∧ yX8_saysWord.cls ≠ "java/lang/invoke/MethodHandle" ∧ yX8_saysWord.cls ≠ "java/lang/invoke/VarHandle" ∧ (parseMethodDescriptor yX8_saysWord.desc).map (fun d => d.parameters.length) = some 1 := by decide +kernel
set_option maxHeartbeats 4000000 in
set_option maxRecDepth 100000 in
theorem c_X8_saysWord (fu : Nat) (l : Launch) (dC : Nat → ClassId) (dI : Nat → Nat → Nat) (kI kB kZ : ClassId) (a : Nat → Nat) (v_tape : Nat → Int32) (v_taped : Int32) (v_errorAt : Int32) (v_thrown : Int32) (v_world : Nat → Int32) (v_aside : Nat → Int32) (v_undone : Nat → Int32) (v_slots : Nat → Int32) (v_isKept : Nat → Int32) (v_undos : Int32) (v_seenPrefix : Nat → Int32) (v_seenLast : Nat → Int32) (v_seen : Int32) (v_previous : Int32) (v_gained : Nat → Int32) (v_gains : Int32) (v_decoded : Nat → Int32) (v_decodes : Int32) (v_readAt : Int32) (v_start : Int32) (v_kind : Int32) (v_word : Int64) (v_letters : Int32) (v_number : Int32) (v_fine : Int32) (v_text : Nat → Int32) (v_texted : Int32) (p0 : Int64) (sz : Nat) (z : (Nat → Int32) × Int32) (hJ : J_X8_saysWord fu v_text v_texted p0 = some z) : Met l yX8_saysWord wsX8_saysWord ({ frames := 1, cells := 0, slots := 0, locals := 21 }) (va_Pc [.ref (a 0), .long p0] (RWp dC dI sz (MWc a kI kB kZ v_tape v_taped v_errorAt v_thrown v_world v_aside v_undone v_slots v_isKept v_undos v_seenPrefix v_seenLast v_seen v_previous v_gained v_gains v_decoded v_decodes v_readAt v_start v_kind v_word v_letters v_number v_fine v_text v_texted) [(kI, .int), (kB, .byte), (kZ, .boolean)])) (rwQv dC dI (va_A (MWc a kI kB kZ v_tape v_taped v_errorAt v_thrown v_world v_aside v_undone v_slots v_isKept v_undos v_seenPrefix v_seenLast v_seen v_previous v_gained v_gains v_decoded v_decodes v_readAt v_start v_kind v_word v_letters v_number v_fine v_text v_texted) sz) (MWc a kI kB kZ v_tape v_taped v_errorAt v_thrown v_world v_aside v_undone v_slots v_isKept v_undos v_seenPrefix v_seenLast v_seen v_previous v_gained v_gains v_decoded v_decodes v_readAt v_start v_kind v_word v_letters v_number v_fine z.1 z.2)) 0 0 (va_A (MWc a kI kB kZ v_tape v_taped v_errorAt v_thrown v_world v_aside v_undone v_slots v_isKept v_undos v_seenPrefix v_seenLast v_seen v_previous v_gained v_gains v_decoded v_decodes v_readAt v_start v_kind v_word v_letters v_number v_fine v_text v_texted) sz) := by
  refine rw_start (Qc := fun A => rwQv dC dI A (MWc a kI kB kZ v_tape v_taped v_errorAt v_thrown v_world v_aside v_undone v_slots v_isKept v_undos v_seenPrefix v_seenLast v_seen v_previous v_gained v_gains v_decoded v_decodes v_readAt v_start v_kind v_word v_letters v_number v_fine z.1 z.2)) (cc := cX8_saysWord) (maxL := 4) (ret := none) (by decide) rfl (Nat.le_of_ble_eq_true rfl) ?_
  intro p e s m args below meth c hx hb hr hml hown hts hlocks hNW hK A hA H locs ls hP hD hS hl
  have hown : s.vm.findClass RX8 = some m.cls := hown
  have hl : lv_has ls 4 [(0, .ref (a 0)), (1, .long p0)] := hl
  unfold J_X8_saysWord at hJ
  have L18 : ∀ (n : Nat) (v_text : Nat → Int32) (v_texted : Int32) (y1 : Int64) (y3 : Int32) (H : Heap) (locs : List Loc) (ls : Array Slot), va_P (dC, dI) vwCl (MWc a kI kB kZ v_tape v_taped v_errorAt v_thrown v_world v_aside v_undone v_slots v_isKept v_undos v_seenPrefix v_seenLast v_seen v_previous v_gained v_gains v_decoded v_decodes v_readAt v_start v_kind v_word v_letters v_number v_fine v_text v_texted) H → va_D A (MWc a kI kB kZ v_tape v_taped v_errorAt v_thrown v_world v_aside v_undone v_slots v_isKept v_undos v_seenPrefix v_seenLast v_seen v_previous v_gained v_gains v_decoded v_decodes v_readAt v_start v_kind v_word v_letters v_number v_fine v_text v_texted) → va_S A s.heap H locs → lv_has ls 4 [(0, .ref (a 0)), (1, .long y1), (3, .int y3)] → J_X8_saysWord_b18 fu n v_text v_texted y1 y3 = some z → W p l e ({ frames := 1, cells := 0, slots := 0, locals := 21 }) s m args below meth c H locs 0 0 (MQ below (rwQv dC dI A (MWc a kI kB kZ v_tape v_taped v_errorAt v_thrown v_world v_aside v_undone v_slots v_isKept v_undos v_seenPrefix v_seenLast v_seen v_previous v_gained v_gains v_decoded v_decodes v_readAt v_start v_kind v_word v_letters v_number v_fine z.1 z.2)) args s 0 0 (A)) (F0 m 18 ls []) := by
    intro n
    induction n with
    | zero =>
      intro v_text v_texted y1 y3 H locs ls hP hD hS hl hJ
      rw [J_X8_saysWord_b18] at hJ; cases hJ
    | succ n ih =>
      intro v_text v_texted y1 y3 H locs ls hP hD hS hl hJ
      rw [J_X8_saysWord_b18] at hJ
      refine lv_iload_n hx hb dX8_saysWord_18 rfl (lv_at hl 2 rfl) ?_
      refine lv_if_lt (tgt := 43) hx hb dX8_saysWord_19 (by decide) (fun c2 => ?_) (fun c2 => ?_)
      · have hJ := ite_t c2 hJ
        obtain rfl := Option.some.inj hJ
        exact rw_vret hx hb hr hlocks hP hD hS dX8_saysWord_43
      · have hJ := ite_f c2 hJ
        refine lv_aload_n hx hb dX8_saysWord_22 rfl (lv_at hl 0 rfl) ?_
        refine lv_bipush (v := 96) hx hb dX8_saysWord_23 (by decide) ?_
        refine lv_lload_n hx hb dX8_saysWord_25 rfl (lv_at hl 1 rfl) ?_
        refine lv_iload_n hx hb dX8_saysWord_26 rfl (lv_at hl 2 rfl) ?_
        refine lv_lshr (v := y1 >>> (y3.toInt64 &&& 63)) hx hb dX8_saysWord_27 rfl ?_
        refine lv_ldc2 (v := 31) hx hb hown (hts _ (List.mem_of_getElem? (i := 1) rfl)) dX8_saysWord_28 ?_
        refine lv_land hx hb dX8_saysWord_31 ?_
        refine lv_l2i (v := ((y1 >>> (y3.toInt64 &&& 63)) &&& (31 : Int64)).toInt32) hx hb dX8_saysWord_32 rfl ?_
        refine lv_iadd hx hb dX8_saysWord_33 ?_
        obtain ⟨z3, e4, hJ⟩ := bnd hJ
        refine rwVvW (As := [.int ((96 : Int32) + (((y1 >>> (y3.toInt64 &&& 63)) &&& (31 : Int64)).toInt32))]) (rest := []) (ci := 8) (q0 := 0) hx hb hml hown hts (c_X8_says l dC dI kI kB kZ a v_tape v_taped v_errorAt v_thrown v_world v_aside v_undone v_slots v_isKept v_undos v_seenPrefix v_seenLast v_seen v_previous v_gained v_gains v_decoded v_decodes v_readAt v_start v_kind v_word v_letters v_number v_fine v_text v_texted ((96 : Int32) + (((y1 >>> (y3.toInt64 &&& 63)) &&& (31 : Int64)).toInt32)) H.size z3 e4) gX8_saysWord_X8_says qX8_says rfl ⟨Nat.le_of_ble_eq_true rfl, Nat.le_of_ble_eq_true rfl⟩ ⟨rfl, rfl⟩ hNW hK hP hD hS hA hK rfl rfl rfl hl.1 rfl rfl (Nat.le_of_ble_eq_true rfl) dX8_saysWord_34 z0 (fun H locs hP hD hS => ?_)
        refine lv_iinc (v := y3 + (-5)) (lv' := [(3, .int (y3 + (-5))), (0, .ref (a 0)), (1, .long y1)]) hx hb dX8_saysWord_37 hl (k := 2) rfl rfl (by decide) rfl (fun ls hl => ?_)
        refine lv_goto (tgt := 18) hx hb dX8_saysWord_40 (by decide) ?_
        exact ih z3.1 z3.2 y1 (y3 + (-5)) H locs ls hP hD hS (lv_sub hl [1, 2, 0] rfl) hJ
  have L2 : ∀ (n : Nat) (v_text : Nat → Int32) (v_texted : Int32) (y1 : Int64) (y3 : Int32) (H : Heap) (locs : List Loc) (ls : Array Slot), va_P (dC, dI) vwCl (MWc a kI kB kZ v_tape v_taped v_errorAt v_thrown v_world v_aside v_undone v_slots v_isKept v_undos v_seenPrefix v_seenLast v_seen v_previous v_gained v_gains v_decoded v_decodes v_readAt v_start v_kind v_word v_letters v_number v_fine v_text v_texted) H → va_D A (MWc a kI kB kZ v_tape v_taped v_errorAt v_thrown v_world v_aside v_undone v_slots v_isKept v_undos v_seenPrefix v_seenLast v_seen v_previous v_gained v_gains v_decoded v_decodes v_readAt v_start v_kind v_word v_letters v_number v_fine v_text v_texted) → va_S A s.heap H locs → lv_has ls 4 [(0, .ref (a 0)), (1, .long y1), (3, .int y3)] → J_X8_saysWord_b2 fu n v_text v_texted y1 y3 = some z → W p l e ({ frames := 1, cells := 0, slots := 0, locals := 21 }) s m args below meth c H locs 0 0 (MQ below (rwQv dC dI A (MWc a kI kB kZ v_tape v_taped v_errorAt v_thrown v_world v_aside v_undone v_slots v_isKept v_undos v_seenPrefix v_seenLast v_seen v_previous v_gained v_gains v_decoded v_decodes v_readAt v_start v_kind v_word v_letters v_number v_fine z.1 z.2)) args s 0 0 (A)) (F0 m 2 ls []) := by
    intro n
    induction n with
    | zero =>
      intro v_text v_texted y1 y3 H locs ls hP hD hS hl hJ
      rw [J_X8_saysWord_b2] at hJ; cases hJ
    | succ n ih =>
      intro v_text v_texted y1 y3 H locs ls hP hD hS hl hJ
      rw [J_X8_saysWord_b2] at hJ
      refine lv_lload_n hx hb dX8_saysWord_2 rfl (lv_at hl 1 rfl) ?_
      refine lv_iload_n hx hb dX8_saysWord_3 rfl (lv_at hl 2 rfl) ?_
      refine lv_iconst (v := 5) hx hb dX8_saysWord_4 (by decide) ?_
      refine lv_iadd hx hb dX8_saysWord_5 ?_
      refine lv_lshr (v := y1 >>> ((y3 + (5 : Int32)).toInt64 &&& 63)) hx hb dX8_saysWord_6 rfl ?_
      refine lv_lconst (v := 0) hx hb dX8_saysWord_7 (by decide) ?_
      refine W.lcmp hx hb dX8_saysWord_8 ?_
      refine lv_if_le (tgt := 18) hx hb dX8_saysWord_9 (by decide) (fun c1 => ?_) (fun c1 => ?_)
      · have hJ := ite_t c1 hJ
        exact L18 fu v_text v_texted y1 y3 H locs ls hP hD hS (lv_sub hl [0, 1, 2] rfl) hJ
      · have hJ := ite_f c1 hJ
        refine lv_iinc (v := y3 + 5) (lv' := [(3, .int (y3 + 5)), (0, .ref (a 0)), (1, .long y1)]) hx hb dX8_saysWord_12 hl (k := 2) rfl rfl (by decide) rfl (fun ls hl => ?_)
        refine lv_goto (tgt := 2) hx hb dX8_saysWord_15 (by decide) ?_
        exact ih v_text v_texted y1 (y3 + 5) H locs ls hP hD hS (lv_sub hl [1, 2, 0] rfl) hJ
  refine lv_iconst (v := 0) hx hb dX8_saysWord_0 (by decide) ?_
  refine lv_istore_n (lv' := [(3, .int (0 : Int32)), (0, .ref (a 0)), (1, .long p0)]) hx hb dX8_saysWord_1 rfl hl (by decide) rfl (fun ls hl => ?_)
  exact L2 fu v_text v_texted p0 (0 : Int32) H locs ls hP hD hS (lv_sub hl [1, 2, 0] rfl) hJ
theorem qX8_saysPart : (yX8_saysPart.cls = RX8) ∧ yX8_saysPart.cls ≠ "java/lang/invoke/MethodHandle" ∧ yX8_saysPart.cls ≠ "java/lang/invoke/VarHandle" ∧ (parseMethodDescriptor yX8_saysPart.desc).map (fun d => d.parameters.length) = some 1 := by decide +kernel
set_option maxHeartbeats 4000000 in
set_option maxRecDepth 100000 in
theorem c_X8_saysPart (fu : Nat) (l : Launch) (dC : Nat → ClassId) (dI : Nat → Nat → Nat) (kI kB kZ : ClassId) (a : Nat → Nat) (v_tape : Nat → Int32) (v_taped : Int32) (v_errorAt : Int32) (v_thrown : Int32) (v_world : Nat → Int32) (v_aside : Nat → Int32) (v_undone : Nat → Int32) (v_slots : Nat → Int32) (v_isKept : Nat → Int32) (v_undos : Int32) (v_seenPrefix : Nat → Int32) (v_seenLast : Nat → Int32) (v_seen : Int32) (v_previous : Int32) (v_gained : Nat → Int32) (v_gains : Int32) (v_decoded : Nat → Int32) (v_decodes : Int32) (v_readAt : Int32) (v_start : Int32) (v_kind : Int32) (v_word : Int64) (v_letters : Int32) (v_number : Int32) (v_fine : Int32) (v_text : Nat → Int32) (v_texted : Int32) (p0 : Int32) (sz : Nat) (z : (Nat → Int32) × Int32) (hJ : J_X8_saysPart fu v_text v_texted p0 = some z) : Met l yX8_saysPart wsX8_saysPart ({ frames := 1, cells := 0, slots := 0, locals := 21 }) (va_Pc [.ref (a 0), .int p0] (RWp dC dI sz (MWc a kI kB kZ v_tape v_taped v_errorAt v_thrown v_world v_aside v_undone v_slots v_isKept v_undos v_seenPrefix v_seenLast v_seen v_previous v_gained v_gains v_decoded v_decodes v_readAt v_start v_kind v_word v_letters v_number v_fine v_text v_texted) [(kI, .int), (kB, .byte), (kZ, .boolean)])) (rwQv dC dI (va_A (MWc a kI kB kZ v_tape v_taped v_errorAt v_thrown v_world v_aside v_undone v_slots v_isKept v_undos v_seenPrefix v_seenLast v_seen v_previous v_gained v_gains v_decoded v_decodes v_readAt v_start v_kind v_word v_letters v_number v_fine v_text v_texted) sz) (MWc a kI kB kZ v_tape v_taped v_errorAt v_thrown v_world v_aside v_undone v_slots v_isKept v_undos v_seenPrefix v_seenLast v_seen v_previous v_gained v_gains v_decoded v_decodes v_readAt v_start v_kind v_word v_letters v_number v_fine z.1 z.2)) 0 0 (va_A (MWc a kI kB kZ v_tape v_taped v_errorAt v_thrown v_world v_aside v_undone v_slots v_isKept v_undos v_seenPrefix v_seenLast v_seen v_previous v_gained v_gains v_decoded v_decodes v_readAt v_start v_kind v_word v_letters v_number v_fine v_text v_texted) sz) := by
  refine rw_start (Qc := fun A => rwQv dC dI A (MWc a kI kB kZ v_tape v_taped v_errorAt v_thrown v_world v_aside v_undone v_slots v_isKept v_undos v_seenPrefix v_seenLast v_seen v_previous v_gained v_gains v_decoded v_decodes v_readAt v_start v_kind v_word v_letters v_number v_fine z.1 z.2)) (cc := cX8_saysPart) (maxL := 3) (ret := none) (by decide) rfl (Nat.le_of_ble_eq_true rfl) ?_
  intro p e s m args below meth c hx hb hr hml hown hts hlocks hNW hK A hA H locs ls hP hD hS hl
  have hown : s.vm.findClass RX8 = some m.cls := hown
  have hl : lv_has ls 3 [(0, .ref (a 0)), (1, .int p0)] := hl
  unfold J_X8_saysPart at hJ
  have L24 : ∀ (n : Nat) (v_text : Nat → Int32) (v_texted : Int32) (y1 : Int32) (y2 : Int32) (H : Heap) (locs : List Loc) (ls : Array Slot), va_P (dC, dI) vwCl (MWc a kI kB kZ v_tape v_taped v_errorAt v_thrown v_world v_aside v_undone v_slots v_isKept v_undos v_seenPrefix v_seenLast v_seen v_previous v_gained v_gains v_decoded v_decodes v_readAt v_start v_kind v_word v_letters v_number v_fine v_text v_texted) H → va_D A (MWc a kI kB kZ v_tape v_taped v_errorAt v_thrown v_world v_aside v_undone v_slots v_isKept v_undos v_seenPrefix v_seenLast v_seen v_previous v_gained v_gains v_decoded v_decodes v_readAt v_start v_kind v_word v_letters v_number v_fine v_text v_texted) → va_S A s.heap H locs → lv_has ls 3 [(0, .ref (a 0)), (1, .int y1), (2, .int y2)] → J_X8_saysPart_b24 fu n v_text v_texted y1 y2 = some z → W p l e ({ frames := 1, cells := 0, slots := 0, locals := 21 }) s m args below meth c H locs 0 0 (MQ below (rwQv dC dI A (MWc a kI kB kZ v_tape v_taped v_errorAt v_thrown v_world v_aside v_undone v_slots v_isKept v_undos v_seenPrefix v_seenLast v_seen v_previous v_gained v_gains v_decoded v_decodes v_readAt v_start v_kind v_word v_letters v_number v_fine z.1 z.2)) args s 0 0 (A)) (F0 m 24 ls []) := by
    intro n
    induction n with
    | zero =>
      intro v_text v_texted y1 y2 H locs ls hP hD hS hl hJ
      rw [J_X8_saysPart_b24] at hJ; cases hJ
    | succ n ih =>
      intro v_text v_texted y1 y2 H locs ls hP hD hS hl hJ
      rw [J_X8_saysPart_b24] at hJ
      refine lv_iload_n hx hb dX8_saysPart_24 rfl (lv_at hl 2 rfl) ?_
      refine lv_if_le (tgt := 49) hx hb dX8_saysPart_25 (by decide) (fun c5 => ?_) (fun c5 => ?_)
      · have hJ := ite_t c5 hJ
        obtain rfl := Option.some.inj hJ
        exact rw_vret hx hb hr hlocks hP hD hS dX8_saysPart_49
      · have hJ := ite_f c5 hJ
        refine lv_aload_n hx hb dX8_saysPart_28 rfl (lv_at hl 0 rfl) ?_
        refine lv_bipush (v := 48) hx hb dX8_saysPart_29 (by decide) ?_
        refine lv_iload_n hx hb dX8_saysPart_31 rfl (lv_at hl 1 rfl) ?_
        refine lv_iload_n hx hb dX8_saysPart_32 rfl (lv_at hl 2 rfl) ?_
        obtain ⟨h6, hJ⟩ := ite_none hJ
        refine lv_idiv hx hb dX8_saysPart_33 h6 ?_
        refine lv_bipush (v := 10) hx hb dX8_saysPart_34 (by decide) ?_
        refine lv_irem hx hb dX8_saysPart_36 (by decide) ?_
        refine lv_iadd hx hb dX8_saysPart_37 ?_
        obtain ⟨z7, e8, hJ⟩ := bnd hJ
        refine rwVvW (As := [.int ((48 : Int32) + ((y1 / y2) - (y1 / y2) / (10 : Int32) * (10 : Int32)))]) (rest := []) (ci := 8) (q0 := 0) hx hb hml hown hts (c_X8_says l dC dI kI kB kZ a v_tape v_taped v_errorAt v_thrown v_world v_aside v_undone v_slots v_isKept v_undos v_seenPrefix v_seenLast v_seen v_previous v_gained v_gains v_decoded v_decodes v_readAt v_start v_kind v_word v_letters v_number v_fine v_text v_texted ((48 : Int32) + ((y1 / y2) - (y1 / y2) / (10 : Int32) * (10 : Int32))) H.size z7 e8) gX8_saysPart_X8_says qX8_says rfl ⟨Nat.le_of_ble_eq_true rfl, Nat.le_of_ble_eq_true rfl⟩ ⟨rfl, rfl⟩ hNW hK hP hD hS hA hK rfl rfl rfl hl.1 rfl rfl (Nat.le_of_ble_eq_true rfl) dX8_saysPart_38 z0 (fun H locs hP hD hS => ?_)
        refine lv_iload_n hx hb dX8_saysPart_41 rfl (lv_at hl 2 rfl) ?_
        refine lv_bipush (v := 10) hx hb dX8_saysPart_42 (by decide) ?_
        refine lv_idiv hx hb dX8_saysPart_44 (by decide) ?_
        refine lv_istore_n (lv' := [(2, .int (y2 / (10 : Int32))), (0, .ref (a 0)), (1, .int y1)]) hx hb dX8_saysPart_45 rfl hl (by decide) rfl (fun ls hl => ?_)
        refine lv_goto (tgt := 24) hx hb dX8_saysPart_46 (by decide) ?_
        exact ih z7.1 z7.2 y1 (y2 / (10 : Int32)) H locs ls hP hD hS (lv_sub hl [1, 2, 0] rfl) hJ
  have L2 : ∀ (n : Nat) (v_text : Nat → Int32) (v_texted : Int32) (y1 : Int32) (y2 : Int32) (H : Heap) (locs : List Loc) (ls : Array Slot), va_P (dC, dI) vwCl (MWc a kI kB kZ v_tape v_taped v_errorAt v_thrown v_world v_aside v_undone v_slots v_isKept v_undos v_seenPrefix v_seenLast v_seen v_previous v_gained v_gains v_decoded v_decodes v_readAt v_start v_kind v_word v_letters v_number v_fine v_text v_texted) H → va_D A (MWc a kI kB kZ v_tape v_taped v_errorAt v_thrown v_world v_aside v_undone v_slots v_isKept v_undos v_seenPrefix v_seenLast v_seen v_previous v_gained v_gains v_decoded v_decodes v_readAt v_start v_kind v_word v_letters v_number v_fine v_text v_texted) → va_S A s.heap H locs → lv_has ls 3 [(0, .ref (a 0)), (1, .int y1), (2, .int y2)] → J_X8_saysPart_b2 fu n v_text v_texted y1 y2 = some z → W p l e ({ frames := 1, cells := 0, slots := 0, locals := 21 }) s m args below meth c H locs 0 0 (MQ below (rwQv dC dI A (MWc a kI kB kZ v_tape v_taped v_errorAt v_thrown v_world v_aside v_undone v_slots v_isKept v_undos v_seenPrefix v_seenLast v_seen v_previous v_gained v_gains v_decoded v_decodes v_readAt v_start v_kind v_word v_letters v_number v_fine z.1 z.2)) args s 0 0 (A)) (F0 m 2 ls []) := by
    intro n
    induction n with
    | zero =>
      intro v_text v_texted y1 y2 H locs ls hP hD hS hl hJ
      rw [J_X8_saysPart_b2] at hJ; cases hJ
    | succ n ih =>
      intro v_text v_texted y1 y2 H locs ls hP hD hS hl hJ
      rw [J_X8_saysPart_b2] at hJ
      refine lv_iload_n hx hb dX8_saysPart_2 rfl (lv_at hl 1 rfl) ?_
      refine lv_iload_n hx hb dX8_saysPart_3 rfl (lv_at hl 2 rfl) ?_
      obtain ⟨h1, hJ⟩ := ite_none hJ
      refine lv_idiv hx hb dX8_saysPart_4 h1 ?_
      refine lv_bipush (v := 9) hx hb dX8_saysPart_5 (by decide) ?_
      refine lv_icmp_le (tgt := 18) hx hb dX8_saysPart_7 (by decide) (fun c2 => ?_) (fun c2 => ?_)
      · have hJ := ite_t c2 hJ
        refine lv_aload_n hx hb dX8_saysPart_18 rfl (lv_at hl 0 rfl) ?_
        refine lv_bipush (v := 32) hx hb dX8_saysPart_19 (by decide) ?_
        obtain ⟨z3, e4, hJ⟩ := bnd hJ
        refine rwVvW (As := [.int (32 : Int32)]) (rest := []) (ci := 8) (q0 := 0) hx hb hml hown hts (c_X8_says l dC dI kI kB kZ a v_tape v_taped v_errorAt v_thrown v_world v_aside v_undone v_slots v_isKept v_undos v_seenPrefix v_seenLast v_seen v_previous v_gained v_gains v_decoded v_decodes v_readAt v_start v_kind v_word v_letters v_number v_fine v_text v_texted (32 : Int32) H.size z3 e4) gX8_saysPart_X8_says qX8_says rfl ⟨Nat.le_of_ble_eq_true rfl, Nat.le_of_ble_eq_true rfl⟩ ⟨rfl, rfl⟩ hNW hK hP hD hS hA hK rfl rfl rfl hl.1 rfl rfl (Nat.le_of_ble_eq_true rfl) dX8_saysPart_21 z0 (fun H locs hP hD hS => ?_)
        exact L24 fu z3.1 z3.2 y1 y2 H locs ls hP hD hS (lv_sub hl [0, 1, 2] rfl) hJ
      · have hJ := ite_f c2 hJ
        refine lv_iload_n hx hb dX8_saysPart_10 rfl (lv_at hl 2 rfl) ?_
        refine lv_bipush (v := 10) hx hb dX8_saysPart_11 (by decide) ?_
        refine lv_imul hx hb dX8_saysPart_13 ?_
        refine lv_istore_n (lv' := [(2, .int (y2 * (10 : Int32))), (0, .ref (a 0)), (1, .int y1)]) hx hb dX8_saysPart_14 rfl hl (by decide) rfl (fun ls hl => ?_)
        refine lv_goto (tgt := 2) hx hb dX8_saysPart_15 (by decide) ?_
        exact ih v_text v_texted y1 (y2 * (10 : Int32)) H locs ls hP hD hS (lv_sub hl [1, 2, 0] rfl) hJ
  refine lv_iconst (v := 1) hx hb dX8_saysPart_0 (by decide) ?_
  refine lv_istore_n (lv' := [(2, .int (1 : Int32)), (0, .ref (a 0)), (1, .int p0)]) hx hb dX8_saysPart_1 rfl hl (by decide) rfl (fun ls hl => ?_)
  exact L2 fu v_text v_texted p0 (1 : Int32) H locs ls hP hD hS (lv_sub hl [1, 2, 0] rfl) hJ
theorem qX8_policyKey : (yX8_policyKey.cls = RX8) ∧ yX8_policyKey.cls ≠ "java/lang/invoke/MethodHandle" ∧ yX8_policyKey.cls ≠ "java/lang/invoke/VarHandle" ∧ (parseMethodDescriptor yX8_policyKey.desc).map (fun d => d.parameters.length) = some 0 := by decide +kernel
set_option maxHeartbeats 4000000 in
set_option maxRecDepth 100000 in
theorem c_X8_policyKey (l : Launch) (dC : Nat → ClassId) (dI : Nat → Nat → Nat) (kI kB kZ : ClassId) (a : Nat → Nat) (v_tape : Nat → Int32) (v_taped : Int32) (v_errorAt : Int32) (v_thrown : Int32) (v_world : Nat → Int32) (v_aside : Nat → Int32) (v_undone : Nat → Int32) (v_slots : Nat → Int32) (v_isKept : Nat → Int32) (v_undos : Int32) (v_seenPrefix : Nat → Int32) (v_seenLast : Nat → Int32) (v_seen : Int32) (v_previous : Int32) (v_gained : Nat → Int32) (v_gains : Int32) (v_decoded : Nat → Int32) (v_decodes : Int32) (v_readAt : Int32) (v_start : Int32) (v_kind : Int32) (v_word : Int64) (v_letters : Int32) (v_number : Int32) (v_fine : Int32) (v_text : Nat → Int32) (v_texted : Int32) (z : Int64) (hJ : J_X8_policyKey v_world = some z) : Met l yX8_policyKey wsX8_policyKey ({ frames := 0, cells := 0, slots := 0, locals := 0 }) (va_Pc [.ref (a 0)] (ROp dC dI (MWc a kI kB kZ v_tape v_taped v_errorAt v_thrown v_world v_aside v_undone v_slots v_isKept v_undos v_seenPrefix v_seenLast v_seen v_previous v_gained v_gains v_decoded v_decodes v_readAt v_start v_kind v_word v_letters v_number v_fine v_text v_texted) [(kI, .int), (kB, .byte), (kZ, .boolean)])) (roQl z) 0 0 (fun _ => False) := by
  refine ro_start (cc := cX8_policyKey) (maxL := 1) (ret := (some .long)) (by decide) rfl (Nat.le_of_ble_eq_true rfl) ?_
  intro p e s m args below meth c hx hb hr hml hown hts hlocks hNW hK H locs ls hP hS hl
  have hown : s.vm.findClass RX8 = some m.cls := hown
  have hl : lv_has ls 1 [(0, .ref (a 0))] := hl
  unfold J_X8_policyKey at hJ
  refine lv_aload_n hx hb dX8_policyKey_0 rfl (lv_at hl 0 rfl) ?_
  refine va_get (D := (dC, dI)) (ci := 8) (v := .ref (a 2)) (C := RX8) (T := TX8) (N := 27) hx hb hts (fun _ h => List.mem_cons_of_mem _ (List.mem_append_right _ h)) hown hK hP 0 rfl rfl 4 (by decide) (hts _ (List.mem_of_getElem? (i := 1) rfl)) (fun _ h9 => h9) rfl dX8_policyKey_1 ?_
  refine lv_iconst (v := 2) hx hb dX8_policyKey_4 (by decide) ?_
  obtain ⟨z1, e2, hJ⟩ := bnd hJ
  refine rd_int (n := 1726) (f := v_world) hx hb hK hP 2 0 rfl rfl e2 dX8_policyKey_5 ?_
  refine lv_if_ne (tgt := 13) hx hb dX8_policyKey_6 (by decide) (fun c3 => ?_) (fun c3 => ?_)
  · have hJ := ite_f c3 hJ
    refine lv_aload_n hx hb dX8_policyKey_13 rfl (lv_at hl 0 rfl) ?_
    refine va_get (D := (dC, dI)) (ci := 8) (v := .ref (a 2)) (C := RX8) (T := TX8) (N := 27) hx hb hts (fun _ h => List.mem_cons_of_mem _ (List.mem_append_right _ h)) hown hK hP 0 rfl rfl 4 (by decide) (hts _ (List.mem_of_getElem? (i := 1) rfl)) (fun _ h9 => h9) rfl dX8_policyKey_14 ?_
    refine lv_iconst (v := 2) hx hb dX8_policyKey_17 (by decide) ?_
    obtain ⟨z4, e5, hJ⟩ := bnd hJ
    refine rd_int (n := 1726) (f := v_world) hx hb hK hP 2 0 rfl rfl e5 dX8_policyKey_18 ?_
    refine lv_iconst (v := 1) hx hb dX8_policyKey_19 (by decide) ?_
    refine lv_icmp_ne (tgt := 27) hx hb dX8_policyKey_20 (by decide) (fun c6 => ?_) (fun c6 => ?_)
    · have hJ := ite_f c6 hJ
      refine lv_ldc2 (v := 24170600) hx hb hown (hts _ (List.mem_of_getElem? (i := 4) rfl)) dX8_policyKey_27 ?_
      exact ro_lret hx hb hr hlocks hS hJ dX8_policyKey_30
    · have hJ := ite_t c6 hJ
      refine lv_ldc2 (v := 19057844) hx hb hown (hts _ (List.mem_of_getElem? (i := 3) rfl)) dX8_policyKey_23 ?_
      exact ro_lret hx hb hr hlocks hS hJ dX8_policyKey_26
  · have hJ := ite_t c3 hJ
    refine lv_ldc2 (v := 220370757) hx hb hown (hts _ (List.mem_of_getElem? (i := 2) rfl)) dX8_policyKey_9 ?_
    exact ro_lret hx hb hr hlocks hS hJ dX8_policyKey_12
theorem qX8_writesSettings : (yX8_writesSettings.cls = RX8) ∧ yX8_writesSettings.cls ≠ "java/lang/invoke/MethodHandle" ∧ yX8_writesSettings.cls ≠ "java/lang/invoke/VarHandle" ∧ (parseMethodDescriptor yX8_writesSettings.desc).map (fun d => d.parameters.length) = some 0 := by decide +kernel
set_option maxHeartbeats 4000000 in
set_option maxRecDepth 100000 in
theorem c_X8_writesSettings (fu : Nat) (l : Launch) (dC : Nat → ClassId) (dI : Nat → Nat → Nat) (kI kB kZ : ClassId) (a : Nat → Nat) (v_tape : Nat → Int32) (v_taped : Int32) (v_errorAt : Int32) (v_thrown : Int32) (v_world : Nat → Int32) (v_aside : Nat → Int32) (v_undone : Nat → Int32) (v_slots : Nat → Int32) (v_isKept : Nat → Int32) (v_undos : Int32) (v_seenPrefix : Nat → Int32) (v_seenLast : Nat → Int32) (v_seen : Int32) (v_previous : Int32) (v_gained : Nat → Int32) (v_gains : Int32) (v_decoded : Nat → Int32) (v_decodes : Int32) (v_readAt : Int32) (v_start : Int32) (v_kind : Int32) (v_word : Int64) (v_letters : Int32) (v_number : Int32) (v_fine : Int32) (v_text : Nat → Int32) (v_texted : Int32) (sz : Nat) (z : (Nat → Int32) × Int32) (hJ : J_X8_writesSettings fu v_world v_text v_texted = some z) : Met l yX8_writesSettings wsX8_writesSettings ({ frames := 2, cells := 0, slots := 0, locals := 44 }) (va_Pc [.ref (a 0)] (RWp dC dI sz (MWc a kI kB kZ v_tape v_taped v_errorAt v_thrown v_world v_aside v_undone v_slots v_isKept v_undos v_seenPrefix v_seenLast v_seen v_previous v_gained v_gains v_decoded v_decodes v_readAt v_start v_kind v_word v_letters v_number v_fine v_text v_texted) [(kI, .int), (kB, .byte), (kZ, .boolean)])) (rwQv dC dI (va_A (MWc a kI kB kZ v_tape v_taped v_errorAt v_thrown v_world v_aside v_undone v_slots v_isKept v_undos v_seenPrefix v_seenLast v_seen v_previous v_gained v_gains v_decoded v_decodes v_readAt v_start v_kind v_word v_letters v_number v_fine v_text v_texted) sz) (MWc a kI kB kZ v_tape v_taped v_errorAt v_thrown v_world v_aside v_undone v_slots v_isKept v_undos v_seenPrefix v_seenLast v_seen v_previous v_gained v_gains v_decoded v_decodes v_readAt v_start v_kind v_word v_letters v_number v_fine z.1 z.2)) 0 0 (va_A (MWc a kI kB kZ v_tape v_taped v_errorAt v_thrown v_world v_aside v_undone v_slots v_isKept v_undos v_seenPrefix v_seenLast v_seen v_previous v_gained v_gains v_decoded v_decodes v_readAt v_start v_kind v_word v_letters v_number v_fine v_text v_texted) sz) := by
  refine rw_start (Qc := fun A => rwQv dC dI A (MWc a kI kB kZ v_tape v_taped v_errorAt v_thrown v_world v_aside v_undone v_slots v_isKept v_undos v_seenPrefix v_seenLast v_seen v_previous v_gained v_gains v_decoded v_decodes v_readAt v_start v_kind v_word v_letters v_number v_fine z.1 z.2)) (cc := cX8_writesSettings) (maxL := 1) (ret := none) (by decide) rfl (Nat.le_of_ble_eq_true rfl) ?_
  intro p e s m args below meth c hx hb hr hml hown hts hlocks hNW hK A hA H locs ls hP hD hS hl
  have hown : s.vm.findClass RX8 = some m.cls := hown
  have hl : lv_has ls 1 [(0, .ref (a 0))] := hl
  unfold J_X8_writesSettings at hJ
  refine lv_aload_n hx hb dX8_writesSettings_0 rfl (lv_at hl 0 rfl) ?_
  refine lv_ldc2 (v := 13143) hx hb hown (hts _ (List.mem_of_getElem? (i := 1) rfl)) dX8_writesSettings_1 ?_
  obtain ⟨z1, e2, hJ⟩ := bnd hJ
  refine rwVvW (As := [.long (13143 : Int64)]) (rest := []) (ci := 8) (q0 := 0) hx hb hml hown hts (c_X8_saysWord fu l dC dI kI kB kZ a v_tape v_taped v_errorAt v_thrown v_world v_aside v_undone v_slots v_isKept v_undos v_seenPrefix v_seenLast v_seen v_previous v_gained v_gains v_decoded v_decodes v_readAt v_start v_kind v_word v_letters v_number v_fine v_text v_texted (13143 : Int64) H.size z1 e2) gX8_writesSettings_X8_saysWord qX8_saysWord rfl ⟨Nat.le_of_ble_eq_true rfl, Nat.le_of_ble_eq_true rfl⟩ ⟨rfl, rfl⟩ hNW hK hP hD hS hA hK rfl rfl rfl hl.1 rfl rfl (Nat.le_of_ble_eq_true rfl) dX8_writesSettings_4 z0 (fun H locs hP hD hS => ?_)
  refine lv_aload_n hx hb dX8_writesSettings_7 rfl (lv_at hl 0 rfl) ?_
  refine lv_aload_n hx hb dX8_writesSettings_8 rfl (lv_at hl 0 rfl) ?_
  refine va_get (D := (dC, dI)) (ci := 8) (v := .ref (a 2)) (C := RX8) (T := TX8) (N := 27) hx hb hts (fun _ h => List.mem_cons_of_mem _ (List.mem_append_right _ h)) hown hK hP 0 rfl rfl 4 (by decide) (hts _ (List.mem_of_getElem? (i := 2) rfl)) (fun _ h9 => h9) rfl dX8_writesSettings_9 ?_
  refine lv_iconst (v := 0) hx hb dX8_writesSettings_12 (by decide) ?_
  obtain ⟨z3, e4, hJ⟩ := bnd hJ
  refine rd_int (n := 1726) (f := v_world) hx hb hK hP 2 0 rfl rfl e4 dX8_writesSettings_13 ?_
  obtain ⟨z5, e6, hJ⟩ := bnd hJ
  refine rwVvW (As := [.int z3]) (rest := []) (ci := 8) (q0 := 0) hx hb hml hown hts (c_X8_saysPart fu l dC dI kI kB kZ a v_tape v_taped v_errorAt v_thrown v_world v_aside v_undone v_slots v_isKept v_undos v_seenPrefix v_seenLast v_seen v_previous v_gained v_gains v_decoded v_decodes v_readAt v_start v_kind v_word v_letters v_number v_fine z1.1 z1.2 z3 H.size z5 e6) gX8_writesSettings_X8_saysPart qX8_saysPart rfl ⟨Nat.le_of_ble_eq_true rfl, Nat.le_of_ble_eq_true rfl⟩ ⟨rfl, rfl⟩ hNW hK hP hD hS hA hK rfl rfl rfl hl.1 rfl rfl (Nat.le_of_ble_eq_true rfl) dX8_writesSettings_14 z0 (fun H locs hP hD hS => ?_)
  refine lv_aload_n hx hb dX8_writesSettings_17 rfl (lv_at hl 0 rfl) ?_
  refine lv_aload_n hx hb dX8_writesSettings_18 rfl (lv_at hl 0 rfl) ?_
  refine va_get (D := (dC, dI)) (ci := 8) (v := .ref (a 2)) (C := RX8) (T := TX8) (N := 27) hx hb hts (fun _ h => List.mem_cons_of_mem _ (List.mem_append_right _ h)) hown hK hP 0 rfl rfl 4 (by decide) (hts _ (List.mem_of_getElem? (i := 2) rfl)) (fun _ h9 => h9) rfl dX8_writesSettings_19 ?_
  refine lv_iconst (v := 1) hx hb dX8_writesSettings_22 (by decide) ?_
  obtain ⟨z7, e8, hJ⟩ := bnd hJ
  refine rd_int (n := 1726) (f := v_world) hx hb hK hP 2 0 rfl rfl e8 dX8_writesSettings_23 ?_
  obtain ⟨z9, e10, hJ⟩ := bnd hJ
  refine rwVvW (As := [.int z7]) (rest := []) (ci := 8) (q0 := 0) hx hb hml hown hts (c_X8_saysPart fu l dC dI kI kB kZ a v_tape v_taped v_errorAt v_thrown v_world v_aside v_undone v_slots v_isKept v_undos v_seenPrefix v_seenLast v_seen v_previous v_gained v_gains v_decoded v_decodes v_readAt v_start v_kind v_word v_letters v_number v_fine z5.1 z5.2 z7 H.size z9 e10) gX8_writesSettings_X8_saysPart qX8_saysPart rfl ⟨Nat.le_of_ble_eq_true rfl, Nat.le_of_ble_eq_true rfl⟩ ⟨rfl, rfl⟩ hNW hK hP hD hS hA hK rfl rfl rfl hl.1 rfl rfl (Nat.le_of_ble_eq_true rfl) dX8_writesSettings_24 z0 (fun H locs hP hD hS => ?_)
  refine lv_aload_n hx hb dX8_writesSettings_27 rfl (lv_at hl 0 rfl) ?_
  refine lv_bipush (v := 32) hx hb dX8_writesSettings_28 (by decide) ?_
  obtain ⟨z11, e12, hJ⟩ := bnd hJ
  refine rwVvW (As := [.int (32 : Int32)]) (rest := []) (ci := 8) (q0 := 0) hx hb hml hown hts (c_X8_says l dC dI kI kB kZ a v_tape v_taped v_errorAt v_thrown v_world v_aside v_undone v_slots v_isKept v_undos v_seenPrefix v_seenLast v_seen v_previous v_gained v_gains v_decoded v_decodes v_readAt v_start v_kind v_word v_letters v_number v_fine z9.1 z9.2 (32 : Int32) H.size z11 e12) gX8_writesSettings_X8_says qX8_says rfl ⟨Nat.le_of_ble_eq_true rfl, Nat.le_of_ble_eq_true rfl⟩ ⟨rfl, rfl⟩ hNW hK hP hD hS hA hK rfl rfl rfl hl.1 rfl rfl (Nat.le_of_ble_eq_true rfl) dX8_writesSettings_30 z0 (fun H locs hP hD hS => ?_)
  refine lv_aload_n hx hb dX8_writesSettings_33 rfl (lv_at hl 0 rfl) ?_
  refine lv_aload_n hx hb dX8_writesSettings_34 rfl (lv_at hl 0 rfl) ?_
  obtain ⟨z13, e14, hJ⟩ := bnd hJ
  refine roVl (As := []) (rest := [.ref (a 0)]) (ci := 8) (q0 := 0) hx hb hml hown hts (c_X8_policyKey l dC dI kI kB kZ a v_tape v_taped v_errorAt v_thrown v_world v_aside v_undone v_slots v_isKept v_undos v_seenPrefix v_seenLast v_seen v_previous v_gained v_gains v_decoded v_decodes v_readAt v_start v_kind v_word v_letters v_number v_fine z11.1 z11.2 z13 e14) gX8_writesSettings_X8_policyKey qX8_policyKey rfl ⟨Nat.le_of_ble_eq_true rfl, Nat.le_of_ble_eq_true rfl⟩ ⟨rfl, rfl⟩ hNW hK hP hS hP hK rfl rfl rfl hl.1 rfl rfl (Nat.le_of_ble_eq_true rfl) dX8_writesSettings_35 z0 (fun H locs hP hS => ?_)
  obtain ⟨z15, e16, hJ⟩ := bnd hJ
  refine rwVvW (As := [.long z13]) (rest := []) (ci := 8) (q0 := 0) hx hb hml hown hts (c_X8_saysWord fu l dC dI kI kB kZ a v_tape v_taped v_errorAt v_thrown v_world v_aside v_undone v_slots v_isKept v_undos v_seenPrefix v_seenLast v_seen v_previous v_gained v_gains v_decoded v_decodes v_readAt v_start v_kind v_word v_letters v_number v_fine z11.1 z11.2 z13 H.size z15 e16) gX8_writesSettings_X8_saysWord qX8_saysWord rfl ⟨Nat.le_of_ble_eq_true rfl, Nat.le_of_ble_eq_true rfl⟩ ⟨rfl, rfl⟩ hNW hK hP hD hS hA hK rfl rfl rfl hl.1 rfl rfl (Nat.le_of_ble_eq_true rfl) dX8_writesSettings_38 z0 (fun H locs hP hD hS => ?_)
  refine lv_aload_n hx hb dX8_writesSettings_41 rfl (lv_at hl 0 rfl) ?_
  refine lv_aload_n hx hb dX8_writesSettings_42 rfl (lv_at hl 0 rfl) ?_
  refine va_get (D := (dC, dI)) (ci := 8) (v := .ref (a 2)) (C := RX8) (T := TX8) (N := 27) hx hb hts (fun _ h => List.mem_cons_of_mem _ (List.mem_append_right _ h)) hown hK hP 0 rfl rfl 4 (by decide) (hts _ (List.mem_of_getElem? (i := 2) rfl)) (fun _ h9 => h9) rfl dX8_writesSettings_43 ?_
  refine lv_iconst (v := 3) hx hb dX8_writesSettings_46 (by decide) ?_
  obtain ⟨z17, e18, hJ⟩ := bnd hJ
  refine rd_int (n := 1726) (f := v_world) hx hb hK hP 2 0 rfl rfl e18 dX8_writesSettings_47 ?_
  obtain ⟨z19, e20, hJ⟩ := bnd hJ
  refine rwVvW (As := [.int z17]) (rest := []) (ci := 8) (q0 := 0) hx hb hml hown hts (c_X8_saysPart fu l dC dI kI kB kZ a v_tape v_taped v_errorAt v_thrown v_world v_aside v_undone v_slots v_isKept v_undos v_seenPrefix v_seenLast v_seen v_previous v_gained v_gains v_decoded v_decodes v_readAt v_start v_kind v_word v_letters v_number v_fine z15.1 z15.2 z17 H.size z19 e20) gX8_writesSettings_X8_saysPart qX8_saysPart rfl ⟨Nat.le_of_ble_eq_true rfl, Nat.le_of_ble_eq_true rfl⟩ ⟨rfl, rfl⟩ hNW hK hP hD hS hA hK rfl rfl rfl hl.1 rfl rfl (Nat.le_of_ble_eq_true rfl) dX8_writesSettings_48 z0 (fun H locs hP hD hS => ?_)
  refine lv_aload_n hx hb dX8_writesSettings_51 rfl (lv_at hl 0 rfl) ?_
  refine lv_bipush (v := 59) hx hb dX8_writesSettings_52 (by decide) ?_
  obtain ⟨z21, e22, hJ⟩ := bnd hJ
  refine rwVvW (As := [.int (59 : Int32)]) (rest := []) (ci := 8) (q0 := 0) hx hb hml hown hts (c_X8_says l dC dI kI kB kZ a v_tape v_taped v_errorAt v_thrown v_world v_aside v_undone v_slots v_isKept v_undos v_seenPrefix v_seenLast v_seen v_previous v_gained v_gains v_decoded v_decodes v_readAt v_start v_kind v_word v_letters v_number v_fine z19.1 z19.2 (59 : Int32) H.size z21 e22) gX8_writesSettings_X8_says qX8_says rfl ⟨Nat.le_of_ble_eq_true rfl, Nat.le_of_ble_eq_true rfl⟩ ⟨rfl, rfl⟩ hNW hK hP hD hS hA hK rfl rfl rfl hl.1 rfl rfl (Nat.le_of_ble_eq_true rfl) dX8_writesSettings_54 z0 (fun H locs hP hD hS => ?_)
  obtain rfl := Option.some.inj hJ
  exact rw_vret hx hb hr hlocks hP hD hS dX8_writesSettings_57
theorem qX8_writesSymbols : (yX8_writesSymbols.cls = RX8) ∧ yX8_writesSymbols.cls ≠ "java/lang/invoke/MethodHandle" ∧ yX8_writesSymbols.cls ≠ "java/lang/invoke/VarHandle" ∧ (parseMethodDescriptor yX8_writesSymbols.desc).map (fun d => d.parameters.length) = some 0 := by decide +kernel
set_option maxHeartbeats 4000000 in
set_option maxRecDepth 100000 in
theorem c_X8_writesSymbols (fu : Nat) (l : Launch) (dC : Nat → ClassId) (dI : Nat → Nat → Nat) (kI kB kZ : ClassId) (a : Nat → Nat) (v_tape : Nat → Int32) (v_taped : Int32) (v_errorAt : Int32) (v_thrown : Int32) (v_world : Nat → Int32) (v_aside : Nat → Int32) (v_undone : Nat → Int32) (v_slots : Nat → Int32) (v_isKept : Nat → Int32) (v_undos : Int32) (v_seenPrefix : Nat → Int32) (v_seenLast : Nat → Int32) (v_seen : Int32) (v_previous : Int32) (v_gained : Nat → Int32) (v_gains : Int32) (v_decoded : Nat → Int32) (v_decodes : Int32) (v_readAt : Int32) (v_start : Int32) (v_kind : Int32) (v_word : Int64) (v_letters : Int32) (v_number : Int32) (v_fine : Int32) (v_text : Nat → Int32) (v_texted : Int32) (sz : Nat) (z : (Nat → Int32) × Int32) (hJ : J_X8_writesSymbols fu v_world v_text v_texted = some z) : Met l yX8_writesSymbols wsX8_writesSymbols ({ frames := 2, cells := 0, slots := 0, locals := 44 }) (va_Pc [.ref (a 0)] (RWp dC dI sz (MWc a kI kB kZ v_tape v_taped v_errorAt v_thrown v_world v_aside v_undone v_slots v_isKept v_undos v_seenPrefix v_seenLast v_seen v_previous v_gained v_gains v_decoded v_decodes v_readAt v_start v_kind v_word v_letters v_number v_fine v_text v_texted) [(kI, .int), (kB, .byte), (kZ, .boolean)])) (rwQv dC dI (va_A (MWc a kI kB kZ v_tape v_taped v_errorAt v_thrown v_world v_aside v_undone v_slots v_isKept v_undos v_seenPrefix v_seenLast v_seen v_previous v_gained v_gains v_decoded v_decodes v_readAt v_start v_kind v_word v_letters v_number v_fine v_text v_texted) sz) (MWc a kI kB kZ v_tape v_taped v_errorAt v_thrown v_world v_aside v_undone v_slots v_isKept v_undos v_seenPrefix v_seenLast v_seen v_previous v_gained v_gains v_decoded v_decodes v_readAt v_start v_kind v_word v_letters v_number v_fine z.1 z.2)) 0 0 (va_A (MWc a kI kB kZ v_tape v_taped v_errorAt v_thrown v_world v_aside v_undone v_slots v_isKept v_undos v_seenPrefix v_seenLast v_seen v_previous v_gained v_gains v_decoded v_decodes v_readAt v_start v_kind v_word v_letters v_number v_fine v_text v_texted) sz) := by
  refine rw_start (Qc := fun A => rwQv dC dI A (MWc a kI kB kZ v_tape v_taped v_errorAt v_thrown v_world v_aside v_undone v_slots v_isKept v_undos v_seenPrefix v_seenLast v_seen v_previous v_gained v_gains v_decoded v_decodes v_readAt v_start v_kind v_word v_letters v_number v_fine z.1 z.2)) (cc := cX8_writesSymbols) (maxL := 2) (ret := none) (by decide) rfl (Nat.le_of_ble_eq_true rfl) ?_
  intro p e s m args below meth c hx hb hr hml hown hts hlocks hNW hK A hA H locs ls hP hD hS hl
  have hown : s.vm.findClass RX8 = some m.cls := hown
  have hl : lv_has ls 2 [(0, .ref (a 0))] := hl
  unfold J_X8_writesSymbols at hJ
  have L15 : ∀ (n : Nat) (v_text : Nat → Int32) (v_texted : Int32) (y1 : Int32) (H : Heap) (locs : List Loc) (ls : Array Slot), va_P (dC, dI) vwCl (MWc a kI kB kZ v_tape v_taped v_errorAt v_thrown v_world v_aside v_undone v_slots v_isKept v_undos v_seenPrefix v_seenLast v_seen v_previous v_gained v_gains v_decoded v_decodes v_readAt v_start v_kind v_word v_letters v_number v_fine v_text v_texted) H → va_D A (MWc a kI kB kZ v_tape v_taped v_errorAt v_thrown v_world v_aside v_undone v_slots v_isKept v_undos v_seenPrefix v_seenLast v_seen v_previous v_gained v_gains v_decoded v_decodes v_readAt v_start v_kind v_word v_letters v_number v_fine v_text v_texted) → va_S A s.heap H locs → lv_has ls 2 [(0, .ref (a 0)), (1, .int y1)] → J_X8_writesSymbols_b15 fu v_world n v_text v_texted y1 = some z → W p l e ({ frames := 2, cells := 0, slots := 0, locals := 44 }) s m args below meth c H locs 0 0 (MQ below (rwQv dC dI A (MWc a kI kB kZ v_tape v_taped v_errorAt v_thrown v_world v_aside v_undone v_slots v_isKept v_undos v_seenPrefix v_seenLast v_seen v_previous v_gained v_gains v_decoded v_decodes v_readAt v_start v_kind v_word v_letters v_number v_fine z.1 z.2)) args s 0 0 (A)) (F0 m 15 ls []) := by
    intro n
    induction n with
    | zero =>
      intro v_text v_texted y1 H locs ls hP hD hS hl hJ
      rw [J_X8_writesSymbols_b15] at hJ; cases hJ
    | succ n ih =>
      intro v_text v_texted y1 H locs ls hP hD hS hl hJ
      rw [J_X8_writesSymbols_b15] at hJ
      refine lv_iload_n hx hb dX8_writesSymbols_15 rfl (lv_at hl 1 rfl) ?_
      refine lv_aload_n hx hb dX8_writesSymbols_16 rfl (lv_at hl 0 rfl) ?_
      refine va_get (D := (dC, dI)) (ci := 8) (v := .ref (a 2)) (C := RX8) (T := TX8) (N := 27) hx hb hts (fun _ h => List.mem_cons_of_mem _ (List.mem_append_right _ h)) hown hK hP 0 rfl rfl 4 (by decide) (hts _ (List.mem_of_getElem? (i := 2) rfl)) (fun _ h9 => h9) rfl dX8_writesSymbols_17 ?_
      refine lv_bipush (v := 6) hx hb dX8_writesSymbols_20 (by decide) ?_
      obtain ⟨z5, e6, hJ⟩ := bnd hJ
      refine rd_int (n := 1726) (f := v_world) hx hb hK hP 2 0 rfl rfl e6 dX8_writesSymbols_22 ?_
      refine lv_icmp_ge (tgt := 49) hx hb dX8_writesSymbols_23 (by decide) (fun c7 => ?_) (fun c7 => ?_)
      · have hJ := ite_t c7 hJ
        refine lv_aload_n hx hb dX8_writesSymbols_49 rfl (lv_at hl 0 rfl) ?_
        refine lv_bipush (v := 59) hx hb dX8_writesSymbols_50 (by decide) ?_
        obtain ⟨z8, e9, hJ⟩ := bnd hJ
        refine rwVvW (As := [.int (59 : Int32)]) (rest := []) (ci := 8) (q0 := 0) hx hb hml hown hts (c_X8_says l dC dI kI kB kZ a v_tape v_taped v_errorAt v_thrown v_world v_aside v_undone v_slots v_isKept v_undos v_seenPrefix v_seenLast v_seen v_previous v_gained v_gains v_decoded v_decodes v_readAt v_start v_kind v_word v_letters v_number v_fine v_text v_texted (59 : Int32) H.size z8 e9) gX8_writesSymbols_X8_says qX8_says rfl ⟨Nat.le_of_ble_eq_true rfl, Nat.le_of_ble_eq_true rfl⟩ ⟨rfl, rfl⟩ hNW hK hP hD hS hA hK rfl rfl rfl hl.1 rfl rfl (Nat.le_of_ble_eq_true rfl) dX8_writesSymbols_52 z0 (fun H locs hP hD hS => ?_)
        obtain rfl := Option.some.inj hJ
        exact rw_vret hx hb hr hlocks hP hD hS dX8_writesSymbols_55
      · have hJ := ite_f c7 hJ
        refine lv_aload_n hx hb dX8_writesSymbols_26 rfl (lv_at hl 0 rfl) ?_
        refine lv_bipush (v := 97) hx hb dX8_writesSymbols_27 (by decide) ?_
        refine lv_aload_n hx hb dX8_writesSymbols_29 rfl (lv_at hl 0 rfl) ?_
        refine va_get (D := (dC, dI)) (ci := 8) (v := .ref (a 2)) (C := RX8) (T := TX8) (N := 27) hx hb hts (fun _ h => List.mem_cons_of_mem _ (List.mem_append_right _ h)) hown hK hP 0 rfl rfl 4 (by decide) (hts _ (List.mem_of_getElem? (i := 2) rfl)) (fun _ h9 => h9) rfl dX8_writesSymbols_30 ?_
        refine lv_sipush (v := 526) hx hb dX8_writesSymbols_33 (by decide) ?_
        refine lv_iload_n hx hb dX8_writesSymbols_36 rfl (lv_at hl 1 rfl) ?_
        refine lv_iadd hx hb dX8_writesSymbols_37 ?_
        obtain ⟨z10, e11, hJ⟩ := bnd hJ
        refine rd_int (n := 1726) (f := v_world) hx hb hK hP 2 0 rfl rfl e11 dX8_writesSymbols_38 ?_
        refine lv_iadd hx hb dX8_writesSymbols_39 ?_
        obtain ⟨z12, e13, hJ⟩ := bnd hJ
        refine rwVvW (As := [.int ((97 : Int32) + z10)]) (rest := []) (ci := 8) (q0 := 0) hx hb hml hown hts (c_X8_says l dC dI kI kB kZ a v_tape v_taped v_errorAt v_thrown v_world v_aside v_undone v_slots v_isKept v_undos v_seenPrefix v_seenLast v_seen v_previous v_gained v_gains v_decoded v_decodes v_readAt v_start v_kind v_word v_letters v_number v_fine v_text v_texted ((97 : Int32) + z10) H.size z12 e13) gX8_writesSymbols_X8_says qX8_says rfl ⟨Nat.le_of_ble_eq_true rfl, Nat.le_of_ble_eq_true rfl⟩ ⟨rfl, rfl⟩ hNW hK hP hD hS hA hK rfl rfl rfl hl.1 rfl rfl (Nat.le_of_ble_eq_true rfl) dX8_writesSymbols_40 z0 (fun H locs hP hD hS => ?_)
        refine lv_iinc (v := y1 + 1) (lv' := [(1, .int (y1 + 1)), (0, .ref (a 0))]) hx hb dX8_writesSymbols_43 hl (k := 1) rfl rfl (by decide) rfl (fun ls hl => ?_)
        refine lv_goto (tgt := 15) hx hb dX8_writesSymbols_46 (by decide) ?_
        exact ih z12.1 z12.2 (y1 + 1) H locs ls hP hD hS (lv_sub hl [1, 0] rfl) hJ
  refine lv_aload_n hx hb dX8_writesSymbols_0 rfl (lv_at hl 0 rfl) ?_
  refine lv_ldc2 (v := 21253668243) hx hb hown (hts _ (List.mem_of_getElem? (i := 1) rfl)) dX8_writesSymbols_1 ?_
  obtain ⟨z1, e2, hJ⟩ := bnd hJ
  refine rwVvW (As := [.long (21253668243 : Int64)]) (rest := []) (ci := 8) (q0 := 0) hx hb hml hown hts (c_X8_saysWord fu l dC dI kI kB kZ a v_tape v_taped v_errorAt v_thrown v_world v_aside v_undone v_slots v_isKept v_undos v_seenPrefix v_seenLast v_seen v_previous v_gained v_gains v_decoded v_decodes v_readAt v_start v_kind v_word v_letters v_number v_fine v_text v_texted (21253668243 : Int64) H.size z1 e2) gX8_writesSymbols_X8_saysWord qX8_saysWord rfl ⟨Nat.le_of_ble_eq_true rfl, Nat.le_of_ble_eq_true rfl⟩ ⟨rfl, rfl⟩ hNW hK hP hD hS hA hK rfl rfl rfl hl.1 rfl rfl (Nat.le_of_ble_eq_true rfl) dX8_writesSymbols_4 z0 (fun H locs hP hD hS => ?_)
  refine lv_aload_n hx hb dX8_writesSymbols_7 rfl (lv_at hl 0 rfl) ?_
  refine lv_bipush (v := 32) hx hb dX8_writesSymbols_8 (by decide) ?_
  obtain ⟨z3, e4, hJ⟩ := bnd hJ
  refine rwVvW (As := [.int (32 : Int32)]) (rest := []) (ci := 8) (q0 := 0) hx hb hml hown hts (c_X8_says l dC dI kI kB kZ a v_tape v_taped v_errorAt v_thrown v_world v_aside v_undone v_slots v_isKept v_undos v_seenPrefix v_seenLast v_seen v_previous v_gained v_gains v_decoded v_decodes v_readAt v_start v_kind v_word v_letters v_number v_fine z1.1 z1.2 (32 : Int32) H.size z3 e4) gX8_writesSymbols_X8_says qX8_says rfl ⟨Nat.le_of_ble_eq_true rfl, Nat.le_of_ble_eq_true rfl⟩ ⟨rfl, rfl⟩ hNW hK hP hD hS hA hK rfl rfl rfl hl.1 rfl rfl (Nat.le_of_ble_eq_true rfl) dX8_writesSymbols_10 z0 (fun H locs hP hD hS => ?_)
  refine lv_iconst (v := 0) hx hb dX8_writesSymbols_13 (by decide) ?_
  refine lv_istore_n (lv' := [(1, .int (0 : Int32)), (0, .ref (a 0))]) hx hb dX8_writesSymbols_14 rfl hl (by decide) rfl (fun ls hl => ?_)
  exact L15 fu z3.1 z3.2 (0 : Int32) H locs ls hP hD hS (lv_sub hl [1, 0] rfl) hJ
theorem qX8_writesSetup : (yX8_writesSetup.cls = RX8) ∧ yX8_writesSetup.cls ≠ "java/lang/invoke/MethodHandle" ∧ yX8_writesSetup.cls ≠ "java/lang/invoke/VarHandle" ∧ (parseMethodDescriptor yX8_writesSetup.desc).map (fun d => d.parameters.length) = some 0 := by decide +kernel
set_option maxHeartbeats 4000000 in
set_option maxRecDepth 100000 in
theorem c_X8_writesSetup (fu : Nat) (l : Launch) (dC : Nat → ClassId) (dI : Nat → Nat → Nat) (kI kB kZ : ClassId) (a : Nat → Nat) (v_tape : Nat → Int32) (v_taped : Int32) (v_errorAt : Int32) (v_thrown : Int32) (v_world : Nat → Int32) (v_aside : Nat → Int32) (v_undone : Nat → Int32) (v_slots : Nat → Int32) (v_isKept : Nat → Int32) (v_undos : Int32) (v_seenPrefix : Nat → Int32) (v_seenLast : Nat → Int32) (v_seen : Int32) (v_previous : Int32) (v_gained : Nat → Int32) (v_gains : Int32) (v_decoded : Nat → Int32) (v_decodes : Int32) (v_readAt : Int32) (v_start : Int32) (v_kind : Int32) (v_word : Int64) (v_letters : Int32) (v_number : Int32) (v_fine : Int32) (v_text : Nat → Int32) (v_texted : Int32) (sz : Nat) (z : (Nat → Int32) × Int32) (hJ : J_X8_writesSetup fu v_world v_text v_texted = some z) : Met l yX8_writesSetup wsX8_writesSetup ({ frames := 3, cells := 0, slots := 0, locals := 65 }) (va_Pc [.ref (a 0)] (RWp dC dI sz (MWc a kI kB kZ v_tape v_taped v_errorAt v_thrown v_world v_aside v_undone v_slots v_isKept v_undos v_seenPrefix v_seenLast v_seen v_previous v_gained v_gains v_decoded v_decodes v_readAt v_start v_kind v_word v_letters v_number v_fine v_text v_texted) [(kI, .int), (kB, .byte), (kZ, .boolean)])) (rwQv dC dI (va_A (MWc a kI kB kZ v_tape v_taped v_errorAt v_thrown v_world v_aside v_undone v_slots v_isKept v_undos v_seenPrefix v_seenLast v_seen v_previous v_gained v_gains v_decoded v_decodes v_readAt v_start v_kind v_word v_letters v_number v_fine v_text v_texted) sz) (MWc a kI kB kZ v_tape v_taped v_errorAt v_thrown v_world v_aside v_undone v_slots v_isKept v_undos v_seenPrefix v_seenLast v_seen v_previous v_gained v_gains v_decoded v_decodes v_readAt v_start v_kind v_word v_letters v_number v_fine z.1 z.2)) 0 0 (va_A (MWc a kI kB kZ v_tape v_taped v_errorAt v_thrown v_world v_aside v_undone v_slots v_isKept v_undos v_seenPrefix v_seenLast v_seen v_previous v_gained v_gains v_decoded v_decodes v_readAt v_start v_kind v_word v_letters v_number v_fine v_text v_texted) sz) := by
  refine rw_start (Qc := fun A => rwQv dC dI A (MWc a kI kB kZ v_tape v_taped v_errorAt v_thrown v_world v_aside v_undone v_slots v_isKept v_undos v_seenPrefix v_seenLast v_seen v_previous v_gained v_gains v_decoded v_decodes v_readAt v_start v_kind v_word v_letters v_number v_fine z.1 z.2)) (cc := cX8_writesSetup) (maxL := 1) (ret := none) (by decide) rfl (Nat.le_of_ble_eq_true rfl) ?_
  intro p e s m args below meth c hx hb hr hml hown hts hlocks hNW hK A hA H locs ls hP hD hS hl
  have hown : s.vm.findClass RX8 = some m.cls := hown
  have hl : lv_has ls 1 [(0, .ref (a 0))] := hl
  unfold J_X8_writesSetup at hJ
  refine lv_aload_n hx hb dX8_writesSetup_0 rfl (lv_at hl 0 rfl) ?_
  refine lv_iconst (v := 0) hx hb dX8_writesSetup_1 (by decide) ?_
  refine va_put (D := (dC, dI)) (ci := 8) (v := .int (0 : Int32)) (ty := .int) (C := RX8) (T := TX8) (N := 27) hx hb hts (fun _ h => List.mem_cons_of_mem _ (List.mem_append_right _ h)) tyX8 tyX8_ok nmX8 hown hK hP hD hS 0 rfl rfl 26 (by decide) (hts _ (List.mem_of_getElem? (i := 1) rfl)) (fun _ h9 => h9) rfl (by decide +kernel) rfl rfl (Nat.le_of_ble_eq_true rfl) dX8_writesSetup_2 (fun H locs hP hD hS => ?_)
  have hP : va_P (dC, dI) vwCl (MWc a kI kB kZ v_tape v_taped v_errorAt v_thrown v_world v_aside v_undone v_slots v_isKept v_undos v_seenPrefix v_seenLast v_seen v_previous v_gained v_gains v_decoded v_decodes v_readAt v_start v_kind v_word v_letters v_number v_fine v_text (0 : Int32)) H := hP
  have hD : va_D A (MWc a kI kB kZ v_tape v_taped v_errorAt v_thrown v_world v_aside v_undone v_slots v_isKept v_undos v_seenPrefix v_seenLast v_seen v_previous v_gained v_gains v_decoded v_decodes v_readAt v_start v_kind v_word v_letters v_number v_fine v_text (0 : Int32)) := hD
  refine lv_aload_n hx hb dX8_writesSetup_5 rfl (lv_at hl 0 rfl) ?_
  obtain ⟨z1, e2, hJ⟩ := bnd hJ
  refine rwVvW (As := []) (rest := []) (ci := 8) (q0 := 0) hx hb hml hown hts (c_X8_writesSettings fu l dC dI kI kB kZ a v_tape v_taped v_errorAt v_thrown v_world v_aside v_undone v_slots v_isKept v_undos v_seenPrefix v_seenLast v_seen v_previous v_gained v_gains v_decoded v_decodes v_readAt v_start v_kind v_word v_letters v_number v_fine v_text (0 : Int32) H.size z1 e2) gX8_writesSetup_X8_writesSettings qX8_writesSettings rfl ⟨Nat.le_of_ble_eq_true rfl, Nat.le_of_ble_eq_true rfl⟩ ⟨rfl, rfl⟩ hNW hK hP hD hS hA hK rfl rfl rfl hl.1 rfl rfl (Nat.le_of_ble_eq_true rfl) dX8_writesSetup_6 z0 (fun H locs hP hD hS => ?_)
  refine lv_aload_n hx hb dX8_writesSetup_9 rfl (lv_at hl 0 rfl) ?_
  refine va_get (D := (dC, dI)) (ci := 8) (v := .ref (a 2)) (C := RX8) (T := TX8) (N := 27) hx hb hts (fun _ h => List.mem_cons_of_mem _ (List.mem_append_right _ h)) hown hK hP 0 rfl rfl 4 (by decide) (hts _ (List.mem_of_getElem? (i := 2) rfl)) (fun _ h9 => h9) rfl dX8_writesSetup_10 ?_
  refine lv_bipush (v := 6) hx hb dX8_writesSetup_13 (by decide) ?_
  obtain ⟨z3, e4, hJ⟩ := bnd hJ
  refine rd_int (n := 1726) (f := v_world) hx hb hK hP 2 0 rfl rfl e4 dX8_writesSetup_15 ?_
  refine lv_if_le (tgt := 23) hx hb dX8_writesSetup_16 (by decide) (fun c5 => ?_) (fun c5 => ?_)
  · have hJ := ite_t c5 hJ
    obtain rfl := Option.some.inj hJ
    exact rw_vret hx hb hr hlocks hP hD hS dX8_writesSetup_23
  · have hJ := ite_f c5 hJ
    refine lv_aload_n hx hb dX8_writesSetup_19 rfl (lv_at hl 0 rfl) ?_
    obtain ⟨z6, e7, hJ⟩ := bnd hJ
    refine rwVvW (As := []) (rest := []) (ci := 8) (q0 := 0) hx hb hml hown hts (c_X8_writesSymbols fu l dC dI kI kB kZ a v_tape v_taped v_errorAt v_thrown v_world v_aside v_undone v_slots v_isKept v_undos v_seenPrefix v_seenLast v_seen v_previous v_gained v_gains v_decoded v_decodes v_readAt v_start v_kind v_word v_letters v_number v_fine z1.1 z1.2 H.size z6 e7) gX8_writesSetup_X8_writesSymbols qX8_writesSymbols rfl ⟨Nat.le_of_ble_eq_true rfl, Nat.le_of_ble_eq_true rfl⟩ ⟨rfl, rfl⟩ hNW hK hP hD hS hA hK rfl rfl rfl hl.1 rfl rfl (Nat.le_of_ble_eq_true rfl) dX8_writesSetup_20 z0 (fun H locs hP hD hS => ?_)
    obtain rfl := Option.some.inj hJ
    exact rw_vret hx hb hr hlocks hP hD hS dX8_writesSetup_23
theorem qX8_setupLength : (yX8_setupLength.cls = RX8) ∧ yX8_setupLength.cls ≠ "java/lang/invoke/MethodHandle" ∧ yX8_setupLength.cls ≠ "java/lang/invoke/VarHandle" ∧ (parseMethodDescriptor yX8_setupLength.desc).map (fun d => d.parameters.length) = some 0 := by decide +kernel
set_option maxHeartbeats 4000000 in
set_option maxRecDepth 100000 in
theorem c_X8_setupLength (fu : Nat) (l : Launch) (dC : Nat → ClassId) (dI : Nat → Nat → Nat) (kI kB kZ : ClassId) (a : Nat → Nat) (v_tape : Nat → Int32) (v_taped : Int32) (v_errorAt : Int32) (v_thrown : Int32) (v_world : Nat → Int32) (v_aside : Nat → Int32) (v_undone : Nat → Int32) (v_slots : Nat → Int32) (v_isKept : Nat → Int32) (v_undos : Int32) (v_seenPrefix : Nat → Int32) (v_seenLast : Nat → Int32) (v_seen : Int32) (v_previous : Int32) (v_gained : Nat → Int32) (v_gains : Int32) (v_decoded : Nat → Int32) (v_decodes : Int32) (v_readAt : Int32) (v_start : Int32) (v_kind : Int32) (v_word : Int64) (v_letters : Int32) (v_number : Int32) (v_fine : Int32) (v_text : Nat → Int32) (v_texted : Int32) (sz : Nat) (z : Int32 × Int32 × (Nat → Int32) × Int32) (hJ : J_X8_setupLength fu v_thrown v_world v_text v_texted = some z) : Met l yX8_setupLength wsX8_setupLength ({ frames := 4, cells := 0, slots := 0, locals := 85 }) (va_Pc [.ref (a 0)] (RWp dC dI sz (MWc a kI kB kZ v_tape v_taped v_errorAt v_thrown v_world v_aside v_undone v_slots v_isKept v_undos v_seenPrefix v_seenLast v_seen v_previous v_gained v_gains v_decoded v_decodes v_readAt v_start v_kind v_word v_letters v_number v_fine v_text v_texted) [(kI, .int), (kB, .byte), (kZ, .boolean)])) (rwQi dC dI (va_A (MWc a kI kB kZ v_tape v_taped v_errorAt v_thrown v_world v_aside v_undone v_slots v_isKept v_undos v_seenPrefix v_seenLast v_seen v_previous v_gained v_gains v_decoded v_decodes v_readAt v_start v_kind v_word v_letters v_number v_fine v_text v_texted) sz) (MWc a kI kB kZ v_tape v_taped v_errorAt z.2.1 v_world v_aside v_undone v_slots v_isKept v_undos v_seenPrefix v_seenLast v_seen v_previous v_gained v_gains v_decoded v_decodes v_readAt v_start v_kind v_word v_letters v_number v_fine z.2.2.1 z.2.2.2) z.1) 0 0 (va_A (MWc a kI kB kZ v_tape v_taped v_errorAt v_thrown v_world v_aside v_undone v_slots v_isKept v_undos v_seenPrefix v_seenLast v_seen v_previous v_gained v_gains v_decoded v_decodes v_readAt v_start v_kind v_word v_letters v_number v_fine v_text v_texted) sz) := by
  refine rw_start (Qc := fun A => rwQi dC dI A (MWc a kI kB kZ v_tape v_taped v_errorAt z.2.1 v_world v_aside v_undone v_slots v_isKept v_undos v_seenPrefix v_seenLast v_seen v_previous v_gained v_gains v_decoded v_decodes v_readAt v_start v_kind v_word v_letters v_number v_fine z.2.2.1 z.2.2.2) z.1) (cc := cX8_setupLength) (maxL := 1) (ret := (some .int)) (by decide) rfl (Nat.le_of_ble_eq_true rfl) ?_
  intro p e s m args below meth c hx hb hr hml hown hts hlocks hNW hK A hA H locs ls hP hD hS hl
  have hown : s.vm.findClass RX8 = some m.cls := hown
  have hl : lv_has ls 1 [(0, .ref (a 0))] := hl
  unfold J_X8_setupLength at hJ
  refine lv_aload_n hx hb dX8_setupLength_0 rfl (lv_at hl 0 rfl) ?_
  obtain ⟨z1, e2, hJ⟩ := bnd hJ
  refine rwVvW (As := []) (rest := []) (ci := 8) (q0 := 0) hx hb hml hown hts (c_X8_writesSetup fu l dC dI kI kB kZ a v_tape v_taped v_errorAt v_thrown v_world v_aside v_undone v_slots v_isKept v_undos v_seenPrefix v_seenLast v_seen v_previous v_gained v_gains v_decoded v_decodes v_readAt v_start v_kind v_word v_letters v_number v_fine v_text v_texted H.size z1 e2) gX8_setupLength_X8_writesSetup qX8_writesSetup rfl ⟨Nat.le_of_ble_eq_true rfl, Nat.le_of_ble_eq_true rfl⟩ ⟨rfl, rfl⟩ hNW hK hP hD hS hA hK rfl rfl rfl hl.1 rfl rfl (Nat.le_of_ble_eq_true rfl) dX8_setupLength_1 z0 (fun H locs hP hD hS => ?_)
  refine lv_aload_n hx hb dX8_setupLength_4 rfl (lv_at hl 0 rfl) ?_
  refine lv_aload_n hx hb dX8_setupLength_5 rfl (lv_at hl 0 rfl) ?_
  refine va_get (D := (dC, dI)) (ci := 8) (v := .int z1.2) (C := RX8) (T := TX8) (N := 27) hx hb hts (fun _ h => List.mem_cons_of_mem _ (List.mem_append_right _ h)) hown hK hP 0 rfl rfl 26 (by decide) (hts _ (List.mem_of_getElem? (i := 1) rfl)) (fun _ h9 => h9) rfl dX8_setupLength_6 ?_
  obtain ⟨z3, e4, hJ⟩ := bnd hJ
  refine rwViW (As := [.int z1.2]) (rest := []) (ci := 8) (q0 := 0) hx hb hml hown hts (c_X8_told l dC dI kI kB kZ a v_tape v_taped v_errorAt v_thrown v_world v_aside v_undone v_slots v_isKept v_undos v_seenPrefix v_seenLast v_seen v_previous v_gained v_gains v_decoded v_decodes v_readAt v_start v_kind v_word v_letters v_number v_fine z1.1 z1.2 z1.2 H.size z3 e4) gX8_setupLength_X8_told qX8_told rfl ⟨Nat.le_of_ble_eq_true rfl, Nat.le_of_ble_eq_true rfl⟩ ⟨rfl, rfl⟩ hNW hK hP hD hS hA hK rfl rfl rfl hl.1 rfl rfl (Nat.le_of_ble_eq_true rfl) dX8_setupLength_9 z0 (fun H locs hP hD hS => ?_)
  obtain rfl := Option.some.inj hJ
  exact rw_iret hx hb hr hlocks rfl hP hD hS dX8_setupLength_12
theorem qX8_setupByte : (yX8_setupByte.cls = RX8) ∧ yX8_setupByte.cls ≠ "java/lang/invoke/MethodHandle" ∧ yX8_setupByte.cls ≠ "java/lang/invoke/VarHandle" ∧ (parseMethodDescriptor yX8_setupByte.desc).map (fun d => d.parameters.length) = some 1 := by decide +kernel
set_option maxHeartbeats 4000000 in
set_option maxRecDepth 100000 in
theorem c_X8_setupByte (fu : Nat) (l : Launch) (dC : Nat → ClassId) (dI : Nat → Nat → Nat) (kI kB kZ : ClassId) (a : Nat → Nat) (v_tape : Nat → Int32) (v_taped : Int32) (v_errorAt : Int32) (v_thrown : Int32) (v_world : Nat → Int32) (v_aside : Nat → Int32) (v_undone : Nat → Int32) (v_slots : Nat → Int32) (v_isKept : Nat → Int32) (v_undos : Int32) (v_seenPrefix : Nat → Int32) (v_seenLast : Nat → Int32) (v_seen : Int32) (v_previous : Int32) (v_gained : Nat → Int32) (v_gains : Int32) (v_decoded : Nat → Int32) (v_decodes : Int32) (v_readAt : Int32) (v_start : Int32) (v_kind : Int32) (v_word : Int64) (v_letters : Int32) (v_number : Int32) (v_fine : Int32) (v_text : Nat → Int32) (v_texted : Int32) (p0 : Int32) (sz : Nat) (z : Int32 × Int32 × (Nat → Int32) × Int32) (hJ : J_X8_setupByte fu v_thrown v_world v_text v_texted p0 = some z) : Met l yX8_setupByte wsX8_setupByte ({ frames := 4, cells := 0, slots := 0, locals := 85 }) (va_Pc [.ref (a 0), .int p0] (RWp dC dI sz (MWc a kI kB kZ v_tape v_taped v_errorAt v_thrown v_world v_aside v_undone v_slots v_isKept v_undos v_seenPrefix v_seenLast v_seen v_previous v_gained v_gains v_decoded v_decodes v_readAt v_start v_kind v_word v_letters v_number v_fine v_text v_texted) [(kI, .int), (kB, .byte), (kZ, .boolean)])) (rwQi dC dI (va_A (MWc a kI kB kZ v_tape v_taped v_errorAt v_thrown v_world v_aside v_undone v_slots v_isKept v_undos v_seenPrefix v_seenLast v_seen v_previous v_gained v_gains v_decoded v_decodes v_readAt v_start v_kind v_word v_letters v_number v_fine v_text v_texted) sz) (MWc a kI kB kZ v_tape v_taped v_errorAt z.2.1 v_world v_aside v_undone v_slots v_isKept v_undos v_seenPrefix v_seenLast v_seen v_previous v_gained v_gains v_decoded v_decodes v_readAt v_start v_kind v_word v_letters v_number v_fine z.2.2.1 z.2.2.2) z.1) 0 0 (va_A (MWc a kI kB kZ v_tape v_taped v_errorAt v_thrown v_world v_aside v_undone v_slots v_isKept v_undos v_seenPrefix v_seenLast v_seen v_previous v_gained v_gains v_decoded v_decodes v_readAt v_start v_kind v_word v_letters v_number v_fine v_text v_texted) sz) := by
  refine rw_start (Qc := fun A => rwQi dC dI A (MWc a kI kB kZ v_tape v_taped v_errorAt z.2.1 v_world v_aside v_undone v_slots v_isKept v_undos v_seenPrefix v_seenLast v_seen v_previous v_gained v_gains v_decoded v_decodes v_readAt v_start v_kind v_word v_letters v_number v_fine z.2.2.1 z.2.2.2) z.1) (cc := cX8_setupByte) (maxL := 2) (ret := (some .int)) (by decide) rfl (Nat.le_of_ble_eq_true rfl) ?_
  intro p e s m args below meth c hx hb hr hml hown hts hlocks hNW hK A hA H locs ls hP hD hS hl
  have hown : s.vm.findClass RX8 = some m.cls := hown
  have hl : lv_has ls 2 [(0, .ref (a 0)), (1, .int p0)] := hl
  unfold J_X8_setupByte at hJ
  refine lv_aload_n hx hb dX8_setupByte_0 rfl (lv_at hl 0 rfl) ?_
  obtain ⟨z1, e2, hJ⟩ := bnd hJ
  refine rwVvW (As := []) (rest := []) (ci := 8) (q0 := 0) hx hb hml hown hts (c_X8_writesSetup fu l dC dI kI kB kZ a v_tape v_taped v_errorAt v_thrown v_world v_aside v_undone v_slots v_isKept v_undos v_seenPrefix v_seenLast v_seen v_previous v_gained v_gains v_decoded v_decodes v_readAt v_start v_kind v_word v_letters v_number v_fine v_text v_texted H.size z1 e2) gX8_setupByte_X8_writesSetup qX8_writesSetup rfl ⟨Nat.le_of_ble_eq_true rfl, Nat.le_of_ble_eq_true rfl⟩ ⟨rfl, rfl⟩ hNW hK hP hD hS hA hK rfl rfl rfl hl.1 rfl rfl (Nat.le_of_ble_eq_true rfl) dX8_setupByte_1 z0 (fun H locs hP hD hS => ?_)
  refine lv_iload_n hx hb dX8_setupByte_4 rfl (lv_at hl 1 rfl) ?_
  refine lv_iconst (v := 0) hx hb dX8_setupByte_5 (by decide) ?_
  refine lv_aload_n hx hb dX8_setupByte_6 rfl (lv_at hl 0 rfl) ?_
  refine va_get (D := (dC, dI)) (ci := 8) (v := .int z1.2) (C := RX8) (T := TX8) (N := 27) hx hb hts (fun _ h => List.mem_cons_of_mem _ (List.mem_append_right _ h)) hown hK hP 0 rfl rfl 26 (by decide) (hts _ (List.mem_of_getElem? (i := 1) rfl)) (fun _ h9 => h9) rfl dX8_setupByte_7 ?_
  refine lv_iconst (v := 1) hx hb dX8_setupByte_10 (by decide) ?_
  refine lv_isub hx hb dX8_setupByte_11 ?_
  obtain ⟨z3, e4, hJ⟩ := bnd hJ
  refine roSi (As := [.int p0, .int (0 : Int32), .int (z1.2 - (1 : Int32))]) (rest := []) hx hb hml hown hts (c_X8_in l dC dI p0 (0 : Int32) (z1.2 - (1 : Int32)) z3 e4) gX8_setupByte_X8_in qX8_in rfl ⟨Nat.le_of_ble_eq_true rfl, Nat.le_of_ble_eq_true rfl⟩ ⟨rfl, rfl⟩ hNW hK hP hS (hP.sub (ws' := []) [] rfl) (hK.sub (tys' := []) [] rfl) hl.1 rfl rfl (Nat.le_of_ble_eq_true rfl) dX8_setupByte_12 z0 (fun H locs hP hS => ?_)
  refine lv_if_ne (tgt := 24) hx hb dX8_setupByte_15 (by decide) (fun c5 => ?_) (fun c5 => ?_)
  · have hJ := ite_f c5 hJ
    refine lv_aload_n hx hb dX8_setupByte_24 rfl (lv_at hl 0 rfl) ?_
    refine lv_aload_n hx hb dX8_setupByte_25 rfl (lv_at hl 0 rfl) ?_
    refine va_get (D := (dC, dI)) (ci := 8) (v := .ref (a 11)) (C := RX8) (T := TX8) (N := 27) hx hb hts (fun _ h => List.mem_cons_of_mem _ (List.mem_append_right _ h)) hown hK hP 0 rfl rfl 25 (by decide) (hts _ (List.mem_of_getElem? (i := 2) rfl)) (fun _ h9 => h9) rfl dX8_setupByte_26 ?_
    refine lv_iload_n hx hb dX8_setupByte_29 rfl (lv_at hl 1 rfl) ?_
    obtain ⟨z6, e7, hJ⟩ := bnd hJ
    refine rd_byte (n := 500) (f := z1.1) hx hb hK hP 11 1 rfl rfl e7 dX8_setupByte_30 ?_
    obtain ⟨z8, e9, hJ⟩ := bnd hJ
    refine rwViW (As := [.int z6]) (rest := []) (ci := 8) (q0 := 0) hx hb hml hown hts (c_X8_told l dC dI kI kB kZ a v_tape v_taped v_errorAt v_thrown v_world v_aside v_undone v_slots v_isKept v_undos v_seenPrefix v_seenLast v_seen v_previous v_gained v_gains v_decoded v_decodes v_readAt v_start v_kind v_word v_letters v_number v_fine z1.1 z1.2 z6 H.size z8 e9) gX8_setupByte_X8_told qX8_told rfl ⟨Nat.le_of_ble_eq_true rfl, Nat.le_of_ble_eq_true rfl⟩ ⟨rfl, rfl⟩ hNW hK hP hD hS hA hK rfl rfl rfl hl.1 rfl rfl (Nat.le_of_ble_eq_true rfl) dX8_setupByte_31 z0 (fun H locs hP hD hS => ?_)
    obtain rfl := Option.some.inj hJ
    exact rw_iret hx hb hr hlocks rfl hP hD hS dX8_setupByte_34
  · have hJ := ite_t c5 hJ
    refine lv_aload_n hx hb dX8_setupByte_18 rfl (lv_at hl 0 rfl) ?_
    refine lv_iconst (v := 1) hx hb dX8_setupByte_19 (by decide) ?_
    obtain ⟨z10, e11, hJ⟩ := bnd hJ
    refine rwViW (As := [.int (1 : Int32)]) (rest := []) (ci := 8) (q0 := 0) hx hb hml hown hts (c_X8_throwing l dC dI kI kB kZ a v_tape v_taped v_errorAt v_thrown v_world v_aside v_undone v_slots v_isKept v_undos v_seenPrefix v_seenLast v_seen v_previous v_gained v_gains v_decoded v_decodes v_readAt v_start v_kind v_word v_letters v_number v_fine z1.1 z1.2 (1 : Int32) H.size z10 e11) gX8_setupByte_X8_throwing qX8_throwing rfl ⟨Nat.le_of_ble_eq_true rfl, Nat.le_of_ble_eq_true rfl⟩ ⟨rfl, rfl⟩ hNW hK hP hD hS hA hK rfl rfl rfl hl.1 rfl rfl (Nat.le_of_ble_eq_true rfl) dX8_setupByte_20 z0 (fun H locs hP hD hS => ?_)
    obtain rfl := Option.some.inj hJ
    exact rw_iret hx hb hr hlocks rfl hP hD hS dX8_setupByte_23
