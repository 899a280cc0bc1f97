theorem qX8_isWide : (yX8_isWide.cls = RX8) ∧ yX8_isWide.cls ≠ "java/lang/invoke/MethodHandle" ∧ yX8_isWide.cls ≠ "java/lang/invoke/VarHandle" ∧ (parseMethodDescriptor yX8_isWide.desc).map (fun d => d.parameters.length) = some 1 := by decide +kernel
set_option maxHeartbeats 4000000 in
set_option maxRecDepth 100000 in
theorem c_X8_isWide (l : Launch) (dC : Nat → ClassId) (dI : Nat → Nat → Nat) (kI kB kZ : ClassId) (a : Nat → Nat) (v_tape : Nat → Int32) (v_taped : Int32) (v_errorAt : Int32) (v_thrown : Int32) (v_world : Nat → Int32) (v_aside : Nat → Int32) (v_undone : Nat → Int32) (v_slots : Nat → Int32) (v_isKept : Nat → Int32) (v_undos : Int32) (v_seenPrefix : Nat → Int32) (v_seenLast : Nat → Int32) (v_seen : Int32) (v_previous : Int32) (v_gained : Nat → Int32) (v_gains : Int32) (v_decoded : Nat → Int32) (v_decodes : Int32) (v_readAt : Int32) (v_start : Int32) (v_kind : Int32) (v_word : Int64) (v_letters : Int32) (v_number : Int32) (v_fine : Int32) (v_text : Nat → Int32) (v_texted : Int32) (p0 : Int32) (z : Int32) (hJ : J_X8_isWide v_world p0 = some z) : Met l yX8_isWide wsX8_isWide ({ frames := 1, cells := 0, slots := 0, locals := 22 }) (va_Pc [.ref (a 0), .int p0] (ROp dC dI (MWc a kI kB kZ v_tape v_taped v_errorAt v_thrown v_world v_aside v_undone v_slots v_isKept v_undos v_seenPrefix v_seenLast v_seen v_previous v_gained v_gains v_decoded v_decodes v_readAt v_start v_kind v_word v_letters v_number v_fine v_text v_texted) [(kI, .int), (kB, .byte), (kZ, .boolean)])) (roQi z) 0 0 (fun _ => False) := by
  refine ro_start (cc := cX8_isWide) (maxL := 2) (ret := (some .boolean)) (by decide) rfl (Nat.le_of_ble_eq_true rfl) ?_
  intro p e s m args below meth c hx hb hr hml hown hts hlocks hNW hK H locs ls hP hS hl
  have hown : s.vm.findClass RX8 = some m.cls := hown
  have hl : lv_has ls 2 [(0, .ref (a 0)), (1, .int p0)] := hl
  unfold J_X8_isWide at hJ
  refine lv_iload_n hx hb dX8_isWide_0 rfl (lv_at hl 1 rfl) ?_
  refine lv_iconst (v := 3) hx hb dX8_isWide_1 (by decide) ?_
  refine lv_bipush (v := 8) hx hb dX8_isWide_2 (by decide) ?_
  obtain ⟨z1, e2, hJ⟩ := bnd hJ
  refine roSi (As := [.int p0, .int (3 : Int32), .int (8 : Int32)]) (rest := []) hx hb hml hown hts (c_X8_in l dC dI p0 (3 : Int32) (8 : Int32) z1 e2) gX8_isWide_X8_in qX8_in rfl ⟨Nat.le_of_ble_eq_true rfl, Nat.le_of_ble_eq_true rfl⟩ ⟨rfl, rfl⟩ hNW hK hP hS (hP.sub (ws' := []) [] rfl) (hK.sub (tys' := []) [] rfl) hl.1 rfl rfl (Nat.le_of_ble_eq_true rfl) dX8_isWide_4 z0 (fun H locs hP hS => ?_)
  refine lv_if_ne (tgt := 12) hx hb dX8_isWide_7 (by decide) (fun c3 => ?_) (fun c3 => ?_)
  · have hJ := ite_f c3 hJ
    refine lv_iconst (v := 1) hx hb dX8_isWide_12 (by decide) ?_
    refine lv_iload_n hx hb dX8_isWide_13 rfl (lv_at hl 1 rfl) ?_
    refine lv_ishl hx hb dX8_isWide_14 ?_
    refine lv_aload_n hx hb dX8_isWide_15 rfl (lv_at hl 0 rfl) ?_
    refine va_get (D := (dC, dI)) (ci := 8) (v := .ref (a 2)) (C := RX8) (T := TX8) (N := 27) hx hb hts (fun _ h => List.mem_cons_of_mem _ (List.mem_append_right _ h)) hown hK hP 0 rfl rfl 4 (by decide) (hts _ (List.mem_of_getElem? (i := 1) rfl)) (fun _ h9 => h9) rfl dX8_isWide_16 ?_
    refine lv_iconst (v := 0) hx hb dX8_isWide_19 (by decide) ?_
    obtain ⟨z4, e5, hJ⟩ := bnd hJ
    refine rd_int (n := 1726) (f := v_world) hx hb hK hP 2 0 rfl rfl e5 dX8_isWide_20 ?_
    refine lv_iconst (v := 2) hx hb dX8_isWide_21 (by decide) ?_
    refine lv_iadd hx hb dX8_isWide_22 ?_
    refine lv_icmp_lt (tgt := 30) hx hb dX8_isWide_23 (by decide) (fun c6 => ?_) (fun c6 => ?_)
    · have hJ := ite_t c6 hJ
      refine lv_iconst (v := 0) hx hb dX8_isWide_30 (by decide) ?_
      exact ro_zret hx hb hr hlocks rfl hS hJ dX8_isWide_31
    · have hJ := ite_f c6 hJ
      refine lv_iconst (v := 1) hx hb dX8_isWide_26 (by decide) ?_
      refine lv_goto (tgt := 31) hx hb dX8_isWide_27 (by decide) ?_
      exact ro_zret hx hb hr hlocks rfl hS hJ dX8_isWide_31
  · have hJ := ite_t c3 hJ
    refine lv_iconst (v := 0) hx hb dX8_isWide_10 (by decide) ?_
    exact ro_zret hx hb hr hlocks rfl hS hJ dX8_isWide_11
theorem qX8_readSettings : (yX8_readSettings.cls = RX8) ∧ yX8_readSettings.cls ≠ "java/lang/invoke/MethodHandle" ∧ yX8_readSettings.cls ≠ "java/lang/invoke/VarHandle" ∧ (parseMethodDescriptor yX8_readSettings.desc).map (fun d => d.parameters.length) = some 0 := by decide +kernel
set_option maxHeartbeats 4000000 in
set_option maxRecDepth 100000 in
theorem c_X8_readSettings (fu : Nat) (l : Launch) (dC : Nat → ClassId) (dI : Nat → Nat → Nat) (kI kB kZ : ClassId) (a : Nat → Nat) (v_tape : Nat → Int32) (v_taped : Int32) (v_errorAt : Int32) (v_thrown : Int32) (v_world : Nat → Int32) (v_aside : Nat → Int32) (v_undone : Nat → Int32) (v_slots : Nat → Int32) (v_isKept : Nat → Int32) (v_undos : Int32) (v_seenPrefix : Nat → Int32) (v_seenLast : Nat → Int32) (v_seen : Int32) (v_previous : Int32) (v_gained : Nat → Int32) (v_gains : Int32) (v_decoded : Nat → Int32) (v_decodes : Int32) (v_readAt : Int32) (v_start : Int32) (v_kind : Int32) (v_word : Int64) (v_letters : Int32) (v_number : Int32) (v_fine : Int32) (v_text : Nat → Int32) (v_texted : Int32) (sz : Nat) (z : Int32 × (Nat → Int32) × Int32 × Int32 × Int32 × Int64 × Int32 × Int32 × Int32) (hJ : J_X8_readSettings fu v_tape v_taped v_errorAt v_world v_readAt v_start v_kind v_word v_letters v_number v_fine = some z) : Met l yX8_readSettings wsX8_readSettings ({ frames := 6, cells := 0, slots := 0, locals := 127 }) (va_Pc [.ref (a 0)] (RWp dC dI sz (MWc a kI kB kZ v_tape v_taped v_errorAt v_thrown v_world v_aside v_undone v_slots v_isKept v_undos v_seenPrefix v_seenLast v_seen v_previous v_gained v_gains v_decoded v_decodes v_readAt v_start v_kind v_word v_letters v_number v_fine v_text v_texted) [(kI, .int), (kB, .byte), (kZ, .boolean)])) (rwQv dC dI (va_A (MWc a kI kB kZ v_tape v_taped v_errorAt v_thrown v_world v_aside v_undone v_slots v_isKept v_undos v_seenPrefix v_seenLast v_seen v_previous v_gained v_gains v_decoded v_decodes v_readAt v_start v_kind v_word v_letters v_number v_fine v_text v_texted) sz) (MWc a kI kB kZ v_tape v_taped z.1 v_thrown z.2.1 v_aside v_undone v_slots v_isKept v_undos v_seenPrefix v_seenLast v_seen v_previous v_gained v_gains v_decoded v_decodes z.2.2.1 z.2.2.2.1 z.2.2.2.2.1 z.2.2.2.2.2.1 z.2.2.2.2.2.2.1 z.2.2.2.2.2.2.2.1 z.2.2.2.2.2.2.2.2 v_text v_texted)) 0 0 (va_A (MWc a kI kB kZ v_tape v_taped v_errorAt v_thrown v_world v_aside v_undone v_slots v_isKept v_undos v_seenPrefix v_seenLast v_seen v_previous v_gained v_gains v_decoded v_decodes v_readAt v_start v_kind v_word v_letters v_number v_fine v_text v_texted) sz) := by
  refine rw_start (Qc := fun A => rwQv dC dI A (MWc a kI kB kZ v_tape v_taped z.1 v_thrown z.2.1 v_aside v_undone v_slots v_isKept v_undos v_seenPrefix v_seenLast v_seen v_previous v_gained v_gains v_decoded v_decodes z.2.2.1 z.2.2.2.1 z.2.2.2.2.1 z.2.2.2.2.2.1 z.2.2.2.2.2.2.1 z.2.2.2.2.2.2.2.1 z.2.2.2.2.2.2.2.2 v_text v_texted)) (cc := cX8_readSettings) (maxL := 4) (ret := none) (by decide) rfl (Nat.le_of_ble_eq_true rfl) ?_
  intro p e s m args below meth c hx hb hr hml hown hts hlocks hNW hK A hA H locs ls hP hD hS hl
  have hown : s.vm.findClass RX8 = some m.cls := hown
  have hl : lv_has ls 4 [(0, .ref (a 0))] := hl
  unfold J_X8_readSettings at hJ
  have L69 : ∀ (v_errorAt : Int32) (v_world : Nat → Int32) (v_readAt : Int32) (v_start : Int32) (v_kind : Int32) (v_word : Int64) (v_letters : Int32) (v_number : Int32) (v_fine : Int32) (y3 : Int32) (k1 : Int32) (H : Heap) (locs : List Loc) (ls : Array Slot), va_P (dC, dI) vwCl (MWc a kI kB kZ v_tape v_taped v_errorAt v_thrown v_world v_aside v_undone v_slots v_isKept v_undos v_seenPrefix v_seenLast v_seen v_previous v_gained v_gains v_decoded v_decodes v_readAt v_start v_kind v_word v_letters v_number v_fine v_text v_texted) H → va_D A (MWc a kI kB kZ v_tape v_taped v_errorAt v_thrown v_world v_aside v_undone v_slots v_isKept v_undos v_seenPrefix v_seenLast v_seen v_previous v_gained v_gains v_decoded v_decodes v_readAt v_start v_kind v_word v_letters v_number v_fine v_text v_texted) → va_S A s.heap H locs → lv_has ls 4 [(0, .ref (a 0)), (3, .int y3)] → J_X8_readSettings_b69 fu v_tape v_taped v_errorAt v_world v_readAt v_start v_kind v_word v_letters v_number v_fine y3 k1 = some z → W p l e ({ frames := 6, cells := 0, slots := 0, locals := 127 }) s m args below meth c H locs 0 0 (MQ below (rwQv dC dI A (MWc a kI kB kZ v_tape v_taped z.1 v_thrown z.2.1 v_aside v_undone v_slots v_isKept v_undos v_seenPrefix v_seenLast v_seen v_previous v_gained v_gains v_decoded v_decodes z.2.2.1 z.2.2.2.1 z.2.2.2.2.1 z.2.2.2.2.2.1 z.2.2.2.2.2.2.1 z.2.2.2.2.2.2.2.1 z.2.2.2.2.2.2.2.2 v_text v_texted)) args s 0 0 (A)) (F0 m 69 ls [.int k1, .ref (a 0)]) := by
    intro v_errorAt v_world v_readAt v_start v_kind v_word v_letters v_number v_fine y3 k1 H locs ls hP hD hS hl hJ
    unfold J_X8_readSettings_b69 at hJ
    obtain ⟨z22, e23, hJ⟩ := bnd hJ
    refine rwVvW (As := [.int k1]) (rest := []) (ci := 8) (q0 := 0) hx hb hml hown hts (c_X8_accepts fu l dC dI kI kB kZ a v_tape v_taped v_errorAt v_thrown v_world v_aside v_undone v_slots v_isKept v_undos v_seenPrefix v_seenLast v_seen v_previous v_gained v_gains v_decoded v_decodes v_readAt v_start v_kind v_word v_letters v_number v_fine v_text v_texted k1 H.size z22 e23) gX8_readSettings_X8_accepts qX8_accepts rfl ⟨Nat.le_of_ble_eq_true rfl, Nat.le_of_ble_eq_true rfl⟩ ⟨rfl, rfl⟩ hNW hK hP hD hS hA hK rfl rfl rfl hl.1 rfl rfl (Nat.le_of_ble_eq_true rfl) dX8_readSettings_69 z0 (fun H locs hP hD hS => ?_)
    refine lv_aload_n hx hb dX8_readSettings_72 rfl (lv_at hl 0 rfl) ?_
    refine va_get (D := (dC, dI)) (ci := 8) (v := .ref (a 2)) (C := RX8) (T := TX8) (N := 27) hx hb hts (fun _ h => List.mem_cons_of_mem _ (List.mem_append_right _ h)) hown hK hP 0 rfl rfl 4 (by decide) (hts _ (List.mem_of_getElem? (i := 2) rfl)) (fun _ h9 => h9) rfl dX8_readSettings_73 ?_
    refine lv_iconst (v := 2) hx hb dX8_readSettings_76 (by decide) ?_
    refine lv_iload_n hx hb dX8_readSettings_77 rfl (lv_at hl 1 rfl) ?_
    obtain ⟨g24, e25, hJ⟩ := bnd hJ
    refine wr_int (n := 1726) (f := v_world) (x := y3) hx hb hK hP hD hS 2 0 rfl rfl e25 dX8_readSettings_78 (fun H locs hP hD hS => ?_)
    have hP : va_P (dC, dI) vwCl (MWc a kI kB kZ v_tape v_taped z22.1 v_thrown g24 v_aside v_undone v_slots v_isKept v_undos v_seenPrefix v_seenLast v_seen v_previous v_gained v_gains v_decoded v_decodes z22.2.1 z22.2.2.1 z22.2.2.2.1 z22.2.2.2.2.1 z22.2.2.2.2.2.1 z22.2.2.2.2.2.2.1 z22.2.2.2.2.2.2.2 v_text v_texted) H := hP
    have hD : va_D A (MWc a kI kB kZ v_tape v_taped z22.1 v_thrown g24 v_aside v_undone v_slots v_isKept v_undos v_seenPrefix v_seenLast v_seen v_previous v_gained v_gains v_decoded v_decodes z22.2.1 z22.2.2.1 z22.2.2.2.1 z22.2.2.2.2.1 z22.2.2.2.2.2.1 z22.2.2.2.2.2.2.1 z22.2.2.2.2.2.2.2 v_text v_texted) := hD
    refine lv_aload_n hx hb dX8_readSettings_79 rfl (lv_at hl 0 rfl) ?_
    refine va_get (D := (dC, dI)) (ci := 8) (v := .ref (a 2)) (C := RX8) (T := TX8) (N := 27) hx hb hts (fun _ h => List.mem_cons_of_mem _ (List.mem_append_right _ h)) hown hK hP 0 rfl rfl 4 (by decide) (hts _ (List.mem_of_getElem? (i := 2) rfl)) (fun _ h9 => h9) rfl dX8_readSettings_80 ?_
    refine lv_iconst (v := 3) hx hb dX8_readSettings_83 (by decide) ?_
    refine lv_aload_n hx hb dX8_readSettings_84 rfl (lv_at hl 0 rfl) ?_
    refine lv_iconst (v := 1) hx hb dX8_readSettings_85 (by decide) ?_
    refine lv_sipush (v := 200) hx hb dX8_readSettings_86 (by decide) ?_
    obtain ⟨z26, e27, hJ⟩ := bnd hJ
    refine rwViW (As := [.int (1 : Int32), .int (200 : Int32)]) (rest := [.int (3 : Int32), .ref (a 2)]) (ci := 8) (q0 := 0) hx hb hml hown hts (c_X8_numberIn fu l dC dI kI kB kZ a v_tape v_taped z22.1 v_thrown g24 v_aside v_undone v_slots v_isKept v_undos v_seenPrefix v_seenLast v_seen v_previous v_gained v_gains v_decoded v_decodes z22.2.1 z22.2.2.1 z22.2.2.2.1 z22.2.2.2.2.1 z22.2.2.2.2.2.1 z22.2.2.2.2.2.2.1 z22.2.2.2.2.2.2.2 v_text v_texted (1 : Int32) (200 : Int32) H.size z26 e27) gX8_readSettings_X8_numberIn qX8_numberIn rfl ⟨Nat.le_of_ble_eq_true rfl, Nat.le_of_ble_eq_true rfl⟩ ⟨rfl, rfl⟩ hNW hK hP hD hS hA hK rfl rfl rfl hl.1 rfl rfl (Nat.le_of_ble_eq_true rfl) dX8_readSettings_89 z0 (fun H locs hP hD hS => ?_)
    obtain ⟨g28, e29, hJ⟩ := bnd hJ
    refine wr_int (n := 1726) (f := g24) (x := z26.1) hx hb hK hP hD hS 2 0 rfl rfl e29 dX8_readSettings_92 (fun H locs hP hD hS => ?_)
    have hP : va_P (dC, dI) vwCl (MWc a kI kB kZ v_tape v_taped z26.2.1 v_thrown g28 v_aside v_undone v_slots v_isKept v_undos v_seenPrefix v_seenLast v_seen v_previous v_gained v_gains v_decoded v_decodes z26.2.2.1 z26.2.2.2.1 z26.2.2.2.2.1 z26.2.2.2.2.2.1 z26.2.2.2.2.2.2.1 z26.2.2.2.2.2.2.2.1 z26.2.2.2.2.2.2.2.2 v_text v_texted) H := hP
    have hD : va_D A (MWc a kI kB kZ v_tape v_taped z26.2.1 v_thrown g28 v_aside v_undone v_slots v_isKept v_undos v_seenPrefix v_seenLast v_seen v_previous v_gained v_gains v_decoded v_decodes z26.2.2.1 z26.2.2.2.1 z26.2.2.2.2.1 z26.2.2.2.2.2.1 z26.2.2.2.2.2.2.1 z26.2.2.2.2.2.2.2.1 z26.2.2.2.2.2.2.2.2 v_text v_texted) := hD
    refine lv_aload_n hx hb dX8_readSettings_93 rfl (lv_at hl 0 rfl) ?_
    obtain ⟨z30, e31, hJ⟩ := bnd hJ
    refine rwVvW (As := []) (rest := []) (ci := 8) (q0 := 0) hx hb hml hown hts (c_X8_mark fu l dC dI kI kB kZ a v_tape v_taped z26.2.1 v_thrown g28 v_aside v_undone v_slots v_isKept v_undos v_seenPrefix v_seenLast v_seen v_previous v_gained v_gains v_decoded v_decodes z26.2.2.1 z26.2.2.2.1 z26.2.2.2.2.1 z26.2.2.2.2.2.1 z26.2.2.2.2.2.2.1 z26.2.2.2.2.2.2.2.1 z26.2.2.2.2.2.2.2.2 v_text v_texted H.size z30 e31) gX8_readSettings_X8_mark qX8_mark rfl ⟨Nat.le_of_ble_eq_true rfl, Nat.le_of_ble_eq_true rfl⟩ ⟨rfl, rfl⟩ hNW hK hP hD hS hA hK rfl rfl rfl hl.1 rfl rfl (Nat.le_of_ble_eq_true rfl) dX8_readSettings_94 z0 (fun H locs hP hD hS => ?_)
    obtain rfl := Option.some.inj hJ
    exact rw_vret hx hb hr hlocks hP hD hS dX8_readSettings_97
  refine lv_aload_n hx hb dX8_readSettings_0 rfl (lv_at hl 0 rfl) ?_
  refine lv_aload_n hx hb dX8_readSettings_1 rfl (lv_at hl 0 rfl) ?_
  refine lv_ldc2 (v := 13143) hx hb hown (hts _ (List.mem_of_getElem? (i := 1) rfl)) dX8_readSettings_2 ?_
  obtain ⟨z1, e2, hJ⟩ := bnd hJ
  refine roVi (As := [.long (13143 : Int64)]) (rest := [.ref (a 0)]) (ci := 8) (q0 := 0) hx hb hml hown hts (c_X8_isKey l dC dI kI kB kZ a v_tape v_taped v_errorAt v_thrown v_world v_aside v_undone v_slots v_isKept v_undos v_seenPrefix v_seenLast v_seen v_previous v_gained v_gains v_decoded v_decodes v_readAt v_start v_kind v_word v_letters v_number v_fine v_text v_texted (13143 : Int64) z1 e2) gX8_readSettings_X8_isKey qX8_isKey rfl ⟨Nat.le_of_ble_eq_true rfl, Nat.le_of_ble_eq_true rfl⟩ ⟨rfl, rfl⟩ hNW hK hP hS hP hK rfl rfl rfl hl.1 rfl rfl (Nat.le_of_ble_eq_true rfl) dX8_readSettings_5 z0 (fun H locs hP hS => ?_)
  obtain ⟨z3, e4, hJ⟩ := bnd hJ
  refine rwVvW (As := [.int z1]) (rest := []) (ci := 8) (q0 := 0) hx hb hml hown hts (c_X8_accepts fu l dC dI kI kB kZ a v_tape v_taped v_errorAt v_thrown v_world v_aside v_undone v_slots v_isKept v_undos v_seenPrefix v_seenLast v_seen v_previous v_gained v_gains v_decoded v_decodes v_readAt v_start v_kind v_word v_letters v_number v_fine v_text v_texted z1 H.size z3 e4) gX8_readSettings_X8_accepts qX8_accepts rfl ⟨Nat.le_of_ble_eq_true rfl, Nat.le_of_ble_eq_true rfl⟩ ⟨rfl, rfl⟩ hNW hK hP hD hS hA hK rfl rfl rfl hl.1 rfl rfl (Nat.le_of_ble_eq_true rfl) dX8_readSettings_8 z0 (fun H locs hP hD hS => ?_)
  refine lv_aload_n hx hb dX8_readSettings_11 rfl (lv_at hl 0 rfl) ?_
  refine lv_iconst (v := 2) hx hb dX8_readSettings_12 (by decide) ?_
  refine lv_bipush (v := 26) hx hb dX8_readSettings_13 (by decide) ?_
  obtain ⟨z5, e6, hJ⟩ := bnd hJ
  refine rwViW (As := [.int (2 : Int32), .int (26 : Int32)]) (rest := []) (ci := 8) (q0 := 0) hx hb hml hown hts (c_X8_numberIn fu l dC dI kI kB kZ a v_tape v_taped z3.1 v_thrown v_world v_aside v_undone v_slots v_isKept v_undos v_seenPrefix v_seenLast v_seen v_previous v_gained v_gains v_decoded v_decodes z3.2.1 z3.2.2.1 z3.2.2.2.1 z3.2.2.2.2.1 z3.2.2.2.2.2.1 z3.2.2.2.2.2.2.1 z3.2.2.2.2.2.2.2 v_text v_texted (2 : Int32) (26 : Int32) H.size z5 e6) gX8_readSettings_X8_numberIn qX8_numberIn rfl ⟨Nat.le_of_ble_eq_true rfl, Nat.le_of_ble_eq_true rfl⟩ ⟨rfl, rfl⟩ hNW hK hP hD hS hA hK rfl rfl rfl hl.1 rfl rfl (Nat.le_of_ble_eq_true rfl) dX8_readSettings_15 z0 (fun H locs hP hD hS => ?_)
  refine lv_istore_n (lv' := [(1, .int z5.1), (0, .ref (a 0))]) hx hb dX8_readSettings_18 rfl hl (by decide) rfl (fun ls hl => ?_)
  refine lv_aload_n hx hb dX8_readSettings_19 rfl (lv_at hl 1 rfl) ?_
  refine va_get (D := (dC, dI)) (ci := 8) (v := .ref (a 2)) (C := RX8) (T := TX8) (N := 27) hx hb hts (fun _ h => List.mem_cons_of_mem _ (List.mem_append_right _ h)) hown hK hP 0 rfl rfl 4 (by decide) (hts _ (List.mem_of_getElem? (i := 2) rfl)) (fun _ h9 => h9) rfl dX8_readSettings_20 ?_
  refine lv_iconst (v := 0) hx hb dX8_readSettings_23 (by decide) ?_
  refine lv_iconst (v := 2) hx hb dX8_readSettings_24 (by decide) ?_
  refine lv_iload_n hx hb dX8_readSettings_25 rfl (lv_at hl 0 rfl) ?_
  obtain ⟨z7, e8, hJ⟩ := bnd hJ
  refine roSi (As := [.int (2 : Int32), .int z5.1]) (rest := [.int (0 : Int32), .ref (a 2)]) hx hb hml hown hts (c_X8_more l dC dI (2 : Int32) z5.1 z7 e8) gX8_readSettings_X8_more qX8_more rfl ⟨Nat.le_of_ble_eq_true rfl, Nat.le_of_ble_eq_true rfl⟩ ⟨rfl, rfl⟩ hNW hK hP hS (hP.sub (ws' := []) [] rfl) (hK.sub (tys' := []) [] rfl) hl.1 rfl rfl (Nat.le_of_ble_eq_true rfl) dX8_readSettings_26 z0 (fun H locs hP hS => ?_)
  obtain ⟨g9, e10, hJ⟩ := bnd hJ
  refine wr_int (n := 1726) (f := v_world) (x := z7) hx hb hK hP hD hS 2 0 rfl rfl e10 dX8_readSettings_29 (fun H locs hP hD hS => ?_)
  have hP : va_P (dC, dI) vwCl (MWc a kI kB kZ v_tape v_taped z5.2.1 v_thrown g9 v_aside v_undone v_slots v_isKept v_undos v_seenPrefix v_seenLast v_seen v_previous v_gained v_gains v_decoded v_decodes z5.2.2.1 z5.2.2.2.1 z5.2.2.2.2.1 z5.2.2.2.2.2.1 z5.2.2.2.2.2.2.1 z5.2.2.2.2.2.2.2.1 z5.2.2.2.2.2.2.2.2 v_text v_texted) H := hP
  have hD : va_D A (MWc a kI kB kZ v_tape v_taped z5.2.1 v_thrown g9 v_aside v_undone v_slots v_isKept v_undos v_seenPrefix v_seenLast v_seen v_previous v_gained v_gains v_decoded v_decodes z5.2.2.1 z5.2.2.2.1 z5.2.2.2.2.1 z5.2.2.2.2.2.1 z5.2.2.2.2.2.2.1 z5.2.2.2.2.2.2.2.1 z5.2.2.2.2.2.2.2.2 v_text v_texted) := hD
  refine lv_aload_n hx hb dX8_readSettings_30 rfl (lv_at hl 1 rfl) ?_
  refine lv_aload_n hx hb dX8_readSettings_31 rfl (lv_at hl 1 rfl) ?_
  refine lv_aload_n hx hb dX8_readSettings_32 rfl (lv_at hl 1 rfl) ?_
  refine va_get (D := (dC, dI)) (ci := 8) (v := .int z5.2.2.2.2.2.2.2.1) (C := RX8) (T := TX8) (N := 27) hx hb hts (fun _ h => List.mem_cons_of_mem _ (List.mem_append_right _ h)) hown hK hP 0 rfl rfl 23 (by decide) (hts _ (List.mem_of_getElem? (i := 3) rfl)) (fun _ h9 => h9) rfl dX8_readSettings_33 ?_
  obtain ⟨z11, e12, hJ⟩ := bnd hJ
  refine roVi (As := [.int z5.2.2.2.2.2.2.2.1]) (rest := [.ref (a 0)]) (ci := 8) (q0 := 0) hx hb hml hown hts (c_X8_isWide l dC dI kI kB kZ a v_tape v_taped z5.2.1 v_thrown g9 v_aside v_undone v_slots v_isKept v_undos v_seenPrefix v_seenLast v_seen v_previous v_gained v_gains v_decoded v_decodes z5.2.2.1 z5.2.2.2.1 z5.2.2.2.2.1 z5.2.2.2.2.2.1 z5.2.2.2.2.2.2.1 z5.2.2.2.2.2.2.2.1 z5.2.2.2.2.2.2.2.2 v_text v_texted z5.2.2.2.2.2.2.2.1 z11 e12) gX8_readSettings_X8_isWide qX8_isWide rfl ⟨Nat.le_of_ble_eq_true rfl, Nat.le_of_ble_eq_true rfl⟩ ⟨rfl, rfl⟩ hNW hK hP hS hP hK rfl rfl rfl hl.1 rfl rfl (Nat.le_of_ble_eq_true rfl) dX8_readSettings_36 z0 (fun H locs hP hS => ?_)
  obtain ⟨z13, e14, hJ⟩ := bnd hJ
  refine rwViW (As := [.int z11]) (rest := []) (ci := 8) (q0 := 0) hx hb hml hown hts (c_X8_numberIf fu l dC dI kI kB kZ a v_tape v_taped z5.2.1 v_thrown g9 v_aside v_undone v_slots v_isKept v_undos v_seenPrefix v_seenLast v_seen v_previous v_gained v_gains v_decoded v_decodes z5.2.2.1 z5.2.2.2.1 z5.2.2.2.2.1 z5.2.2.2.2.2.1 z5.2.2.2.2.2.2.1 z5.2.2.2.2.2.2.2.1 z5.2.2.2.2.2.2.2.2 v_text v_texted z11 H.size z13 e14) gX8_readSettings_X8_numberIf qX8_numberIf rfl ⟨Nat.le_of_ble_eq_true rfl, Nat.le_of_ble_eq_true rfl⟩ ⟨rfl, rfl⟩ hNW hK hP hD hS hA hK rfl rfl rfl hl.1 rfl rfl (Nat.le_of_ble_eq_true rfl) dX8_readSettings_39 z0 (fun H locs hP hD hS => ?_)
  refine lv_istore_n (lv' := [(2, .int z13.1), (1, .int z5.1), (0, .ref (a 0))]) hx hb dX8_readSettings_42 rfl hl (by decide) rfl (fun ls hl => ?_)
  refine lv_aload_n hx hb dX8_readSettings_43 rfl (lv_at hl 2 rfl) ?_
  refine va_get (D := (dC, dI)) (ci := 8) (v := .ref (a 2)) (C := RX8) (T := TX8) (N := 27) hx hb hts (fun _ h => List.mem_cons_of_mem _ (List.mem_append_right _ h)) hown hK hP 0 rfl rfl 4 (by decide) (hts _ (List.mem_of_getElem? (i := 2) rfl)) (fun _ h9 => h9) rfl dX8_readSettings_44 ?_
  refine lv_iconst (v := 1) hx hb dX8_readSettings_47 (by decide) ?_
  refine lv_iconst (v := 3) hx hb dX8_readSettings_48 (by decide) ?_
  refine lv_iload_n hx hb dX8_readSettings_49 rfl (lv_at hl 0 rfl) ?_
  obtain ⟨z15, e16, hJ⟩ := bnd hJ
  refine roSi (As := [.int (3 : Int32), .int z13.1]) (rest := [.int (1 : Int32), .ref (a 2)]) hx hb hml hown hts (c_X8_more l dC dI (3 : Int32) z13.1 z15 e16) gX8_readSettings_X8_more qX8_more rfl ⟨Nat.le_of_ble_eq_true rfl, Nat.le_of_ble_eq_true rfl⟩ ⟨rfl, rfl⟩ hNW hK hP hS (hP.sub (ws' := []) [] rfl) (hK.sub (tys' := []) [] rfl) hl.1 rfl rfl (Nat.le_of_ble_eq_true rfl) dX8_readSettings_50 z0 (fun H locs hP hS => ?_)
  obtain ⟨g17, e18, hJ⟩ := bnd hJ
  refine wr_int (n := 1726) (f := g9) (x := z15) hx hb hK hP hD hS 2 0 rfl rfl e18 dX8_readSettings_53 (fun H locs hP hD hS => ?_)
  have hP : va_P (dC, dI) vwCl (MWc a kI kB kZ v_tape v_taped z13.2.1 v_thrown g17 v_aside v_undone v_slots v_isKept v_undos v_seenPrefix v_seenLast v_seen v_previous v_gained v_gains v_decoded v_decodes z13.2.2.1 z13.2.2.2.1 z13.2.2.2.2.1 z13.2.2.2.2.2.1 z13.2.2.2.2.2.2.1 z13.2.2.2.2.2.2.2.1 z13.2.2.2.2.2.2.2.2 v_text v_texted) H := hP
  have hD : va_D A (MWc a kI kB kZ v_tape v_taped z13.2.1 v_thrown g17 v_aside v_undone v_slots v_isKept v_undos v_seenPrefix v_seenLast v_seen v_previous v_gained v_gains v_decoded v_decodes z13.2.2.1 z13.2.2.2.1 z13.2.2.2.2.1 z13.2.2.2.2.2.1 z13.2.2.2.2.2.2.1 z13.2.2.2.2.2.2.2.1 z13.2.2.2.2.2.2.2.2 v_text v_texted) := hD
  refine lv_aload_n hx hb dX8_readSettings_54 rfl (lv_at hl 2 rfl) ?_
  obtain ⟨z19, e20, hJ⟩ := bnd hJ
  refine roVi (As := []) (rest := []) (ci := 8) (q0 := 0) hx hb hml hown hts (c_X8_policyWord l dC dI kI kB kZ a v_tape v_taped z13.2.1 v_thrown g17 v_aside v_undone v_slots v_isKept v_undos v_seenPrefix v_seenLast v_seen v_previous v_gained v_gains v_decoded v_decodes z13.2.2.1 z13.2.2.2.1 z13.2.2.2.2.1 z13.2.2.2.2.2.1 z13.2.2.2.2.2.2.1 z13.2.2.2.2.2.2.2.1 z13.2.2.2.2.2.2.2.2 v_text v_texted z19 e20) gX8_readSettings_X8_policyWord qX8_policyWord rfl ⟨Nat.le_of_ble_eq_true rfl, Nat.le_of_ble_eq_true rfl⟩ ⟨rfl, rfl⟩ hNW hK hP hS hP hK rfl rfl rfl hl.1 rfl rfl (Nat.le_of_ble_eq_true rfl) dX8_readSettings_55 z0 (fun H locs hP hS => ?_)
  refine lv_istore_n (lv' := [(3, .int z19), (2, .int z13.1), (1, .int z5.1), (0, .ref (a 0))]) hx hb dX8_readSettings_58 rfl hl (by decide) rfl (fun ls hl => ?_)
  refine lv_aload_n hx hb dX8_readSettings_59 rfl (lv_at hl 3 rfl) ?_
  refine lv_iload_n hx hb dX8_readSettings_60 rfl (lv_at hl 0 rfl) ?_
  refine lv_if_lt (tgt := 68) hx hb dX8_readSettings_61 (by decide) (fun c21 => ?_) (fun c21 => ?_)
  · have hJ := ite_t c21 hJ
    refine lv_iconst (v := 0) hx hb dX8_readSettings_68 (by decide) ?_
    exact L69 z13.2.1 g17 z13.2.2.1 z13.2.2.2.1 z13.2.2.2.2.1 z13.2.2.2.2.2.1 z13.2.2.2.2.2.2.1 z13.2.2.2.2.2.2.2.1 z13.2.2.2.2.2.2.2.2 z19 (0 : Int32) H locs ls hP hD hS (lv_sub hl [3, 0] rfl) hJ
  · have hJ := ite_f c21 hJ
    refine lv_iconst (v := 1) hx hb dX8_readSettings_64 (by decide) ?_
    refine lv_goto (tgt := 69) hx hb dX8_readSettings_65 (by decide) ?_
    exact L69 z13.2.1 g17 z13.2.2.1 z13.2.2.2.1 z13.2.2.2.2.1 z13.2.2.2.2.2.1 z13.2.2.2.2.2.2.1 z13.2.2.2.2.2.2.2.1 z13.2.2.2.2.2.2.2.2 z19 (1 : Int32) H locs ls hP hD hS (lv_sub hl [3, 0] rfl) hJ
theorem qX8_fits : (yX8_fits.cls = RX8) ∧ yX8_fits.cls ≠ "java/lang/invoke/MethodHandle" ∧ yX8_fits.cls ≠ "java/lang/invoke/VarHandle" ∧ (parseMethodDescriptor yX8_fits.desc).map (fun d => d.parameters.length) = some 2 := by decide +kernel
set_option maxHeartbeats 4000000 in
set_option maxRecDepth 100000 in
theorem c_X8_fits (fu : Nat) (l : Launch) (dC : Nat → ClassId) (dI : Nat → Nat → Nat) (kI kB kZ : ClassId) (a : Nat → Nat) (v_tape : Nat → Int32) (v_taped : Int32) (v_errorAt : Int32) (v_thrown : Int32) (v_world : Nat → Int32) (v_aside : Nat → Int32) (v_undone : Nat → Int32) (v_slots : Nat → Int32) (v_isKept : Nat → Int32) (v_undos : Int32) (v_seenPrefix : Nat → Int32) (v_seenLast : Nat → Int32) (v_seen : Int32) (v_previous : Int32) (v_gained : Nat → Int32) (v_gains : Int32) (v_decoded : Nat → Int32) (v_decodes : Int32) (v_readAt : Int32) (v_start : Int32) (v_kind : Int32) (v_word : Int64) (v_letters : Int32) (v_number : Int32) (v_fine : Int32) (v_text : Nat → Int32) (v_texted : Int32) (p0 : Int32) (p1 : Int32) (z : Int32) (hJ : J_X8_fits fu v_tape v_world p0 p1 = some z) : Met l yX8_fits wsX8_fits ({ frames := 4, cells := 0, slots := 0, locals := 88 }) (va_Pc [.ref (a 0), .int p0, .int p1] (ROp dC dI (MWc a kI kB kZ v_tape v_taped v_errorAt v_thrown v_world v_aside v_undone v_slots v_isKept v_undos v_seenPrefix v_seenLast v_seen v_previous v_gained v_gains v_decoded v_decodes v_readAt v_start v_kind v_word v_letters v_number v_fine v_text v_texted) [(kI, .int), (kB, .byte), (kZ, .boolean)])) (roQi z) 0 0 (fun _ => False) := by
  refine ro_start (cc := cX8_fits) (maxL := 3) (ret := (some .boolean)) (by decide) rfl (Nat.le_of_ble_eq_true rfl) ?_
  intro p e s m args below meth c hx hb hr hml hown hts hlocks hNW hK H locs ls hP hS hl
  have hown : s.vm.findClass RX8 = some m.cls := hown
  have hl : lv_has ls 3 [(0, .ref (a 0)), (1, .int p0), (2, .int p1)] := hl
  unfold J_X8_fits at hJ
  refine lv_aload_n hx hb dX8_fits_0 rfl (lv_at hl 0 rfl) ?_
  refine va_get (D := (dC, dI)) (ci := 8) (v := .ref (a 2)) (C := RX8) (T := TX8) (N := 27) hx hb hts (fun _ h => List.mem_cons_of_mem _ (List.mem_append_right _ h)) hown hK hP 0 rfl rfl 4 (by decide) (hts _ (List.mem_of_getElem? (i := 1) rfl)) (fun _ h9 => h9) rfl dX8_fits_1 ?_
  refine lv_bipush (v := 6) hx hb dX8_fits_4 (by decide) ?_
  obtain ⟨z1, e2, hJ⟩ := bnd hJ
  refine rd_int (n := 1726) (f := v_world) hx hb hK hP 2 0 rfl rfl e2 dX8_fits_6 ?_
  refine lv_iload_n hx hb dX8_fits_7 rfl (lv_at hl 2 rfl) ?_
  refine lv_iadd hx hb dX8_fits_8 ?_
  refine lv_sipush (v := 400) hx hb dX8_fits_9 (by decide) ?_
  refine lv_icmp_le (tgt := 17) hx hb dX8_fits_12 (by decide) (fun c3 => ?_) (fun c3 => ?_)
  · have hJ := ite_t c3 hJ
    refine lv_aload_n hx hb dX8_fits_17 rfl (lv_at hl 0 rfl) ?_
    refine lv_iload_n hx hb dX8_fits_18 rfl (lv_at hl 1 rfl) ?_
    refine lv_iload_n hx hb dX8_fits_19 rfl (lv_at hl 2 rfl) ?_
    obtain ⟨z4, e5, hJ⟩ := bnd hJ
    refine roVi (As := [.int p0, .int p1]) (rest := []) (ci := 8) (q0 := 0) hx hb hml hown hts (c_X8_areLetters fu l dC dI kI kB kZ a v_tape v_taped v_errorAt v_thrown v_world v_aside v_undone v_slots v_isKept v_undos v_seenPrefix v_seenLast v_seen v_previous v_gained v_gains v_decoded v_decodes v_readAt v_start v_kind v_word v_letters v_number v_fine v_text v_texted p0 p1 z4 e5) gX8_fits_X8_areLetters qX8_areLetters rfl ⟨Nat.le_of_ble_eq_true rfl, Nat.le_of_ble_eq_true rfl⟩ ⟨rfl, rfl⟩ hNW hK hP hS hP hK rfl rfl rfl hl.1 rfl rfl (Nat.le_of_ble_eq_true rfl) dX8_fits_20 z0 (fun H locs hP hS => ?_)
    obtain ⟨h6, hJ⟩ := ite_some hJ
    exact ro_zret hx hb hr hlocks (nar_z h6) hS hJ dX8_fits_23
  · have hJ := ite_f c3 hJ
    refine lv_iconst (v := 0) hx hb dX8_fits_15 (by decide) ?_
    exact ro_zret hx hb hr hlocks rfl hS hJ dX8_fits_16
theorem qX8_readSymbols : (yX8_readSymbols.cls = RX8) ∧ yX8_readSymbols.cls ≠ "java/lang/invoke/MethodHandle" ∧ yX8_readSymbols.cls ≠ "java/lang/invoke/VarHandle" ∧ (parseMethodDescriptor yX8_readSymbols.desc).map (fun d => d.parameters.length) = some 0 := by decide +kernel
set_option maxHeartbeats 4000000 in
set_option maxRecDepth 100000 in
theorem c_X8_readSymbols (fu : Nat) (l : Launch) (dC : Nat → ClassId) (dI : Nat → Nat → Nat) (kI kB kZ : ClassId) (a : Nat → Nat) (v_tape : Nat → Int32) (v_taped : Int32) (v_errorAt : Int32) (v_thrown : Int32) (v_world : Nat → Int32) (v_aside : Nat → Int32) (v_undone : Nat → Int32) (v_slots : Nat → Int32) (v_isKept : Nat → Int32) (v_undos : Int32) (v_seenPrefix : Nat → Int32) (v_seenLast : Nat → Int32) (v_seen : Int32) (v_previous : Int32) (v_gained : Nat → Int32) (v_gains : Int32) (v_decoded : Nat → Int32) (v_decodes : Int32) (v_readAt : Int32) (v_start : Int32) (v_kind : Int32) (v_word : Int64) (v_letters : Int32) (v_number : Int32) (v_fine : Int32) (v_text : Nat → Int32) (v_texted : Int32) (sz : Nat) (z : Int32 × (Nat → Int32) × Int32 × Int32 × Int32 × Int64 × Int32 × Int32 × Int32) (hJ : J_X8_readSymbols fu v_tape v_taped v_errorAt v_world v_readAt v_start v_kind v_word v_letters v_number v_fine = some z) : Met l yX8_readSymbols wsX8_readSymbols ({ frames := 9, cells := 0, slots := 0, locals := 194 }) (va_Pc [.ref (a 0)] (RWp dC dI sz (MWc a kI kB kZ v_tape v_taped v_errorAt v_thrown v_world v_aside v_undone v_slots v_isKept v_undos v_seenPrefix v_seenLast v_seen v_previous v_gained v_gains v_decoded v_decodes v_readAt v_start v_kind v_word v_letters v_number v_fine v_text v_texted) [(kI, .int), (kB, .byte), (kZ, .boolean)])) (rwQv dC dI (va_A (MWc a kI kB kZ v_tape v_taped v_errorAt v_thrown v_world v_aside v_undone v_slots v_isKept v_undos v_seenPrefix v_seenLast v_seen v_previous v_gained v_gains v_decoded v_decodes v_readAt v_start v_kind v_word v_letters v_number v_fine v_text v_texted) sz) (MWc a kI kB kZ v_tape v_taped z.1 v_thrown z.2.1 v_aside v_undone v_slots v_isKept v_undos v_seenPrefix v_seenLast v_seen v_previous v_gained v_gains v_decoded v_decodes z.2.2.1 z.2.2.2.1 z.2.2.2.2.1 z.2.2.2.2.2.1 z.2.2.2.2.2.2.1 z.2.2.2.2.2.2.2.1 z.2.2.2.2.2.2.2.2 v_text v_texted)) 0 0 (va_A (MWc a kI kB kZ v_tape v_taped v_errorAt v_thrown v_world v_aside v_undone v_slots v_isKept v_undos v_seenPrefix v_seenLast v_seen v_previous v_gained v_gains v_decoded v_decodes v_readAt v_start v_kind v_word v_letters v_number v_fine v_text v_texted) sz) := by
  refine rw_start (Qc := fun A => rwQv dC dI A (MWc a kI kB kZ v_tape v_taped z.1 v_thrown z.2.1 v_aside v_undone v_slots v_isKept v_undos v_seenPrefix v_seenLast v_seen v_previous v_gained v_gains v_decoded v_decodes z.2.2.1 z.2.2.2.1 z.2.2.2.2.1 z.2.2.2.2.2.1 z.2.2.2.2.2.2.1 z.2.2.2.2.2.2.2.1 z.2.2.2.2.2.2.2.2 v_text v_texted)) (cc := cX8_readSymbols) (maxL := 3) (ret := none) (by decide) rfl (Nat.le_of_ble_eq_true rfl) ?_
  intro p e s m args below meth c hx hb hr hml hown hts hlocks hNW hK A hA H locs ls hP hD hS hl
  have hown : s.vm.findClass RX8 = some m.cls := hown
  have hl : lv_has ls 3 [(0, .ref (a 0))] := hl
  unfold J_X8_readSymbols at hJ
  have L51 : ∀ (v_errorAt : Int32) (v_world : Nat → Int32) (v_readAt : Int32) (v_start : Int32) (v_kind : Int32) (v_word : Int64) (v_letters : Int32) (v_number : Int32) (v_fine : Int32) (y1 : Int32) (y2 : Int32) (k1 : Int32) (H : Heap) (locs : List Loc) (ls : Array Slot), va_P (dC, dI) vwCl (MWc a kI kB kZ v_tape v_taped v_errorAt v_thrown v_world v_aside v_undone v_slots v_isKept v_undos v_seenPrefix v_seenLast v_seen v_previous v_gained v_gains v_decoded v_decodes v_readAt v_start v_kind v_word v_letters v_number v_fine v_text v_texted) H → va_D A (MWc a kI kB kZ v_tape v_taped v_errorAt v_thrown v_world v_aside v_undone v_slots v_isKept v_undos v_seenPrefix v_seenLast v_seen v_previous v_gained v_gains v_decoded v_decodes v_readAt v_start v_kind v_word v_letters v_number v_fine v_text v_texted) → va_S A s.heap H locs → lv_has ls 3 [(0, .ref (a 0)), (1, .int y1), (2, .int y2)] → J_X8_readSymbols_b51 fu v_tape v_taped v_errorAt v_world v_readAt v_start v_kind v_word v_letters v_number v_fine y1 y2 k1 = some z → W p l e ({ frames := 9, cells := 0, slots := 0, locals := 194 }) s m args below meth c H locs 0 0 (MQ below (rwQv dC dI A (MWc a kI kB kZ v_tape v_taped z.1 v_thrown z.2.1 v_aside v_undone v_slots v_isKept v_undos v_seenPrefix v_seenLast v_seen v_previous v_gained v_gains v_decoded v_decodes z.2.2.1 z.2.2.2.1 z.2.2.2.2.1 z.2.2.2.2.2.1 z.2.2.2.2.2.2.1 z.2.2.2.2.2.2.2.1 z.2.2.2.2.2.2.2.2 v_text v_texted)) args s 0 0 (A)) (F0 m 51 ls [.int k1, .ref (a 0)]) := by
    intro v_errorAt v_world v_readAt v_start v_kind v_word v_letters v_number v_fine y1 y2 k1 H locs ls hP hD hS hl hJ
    unfold J_X8_readSymbols_b51 at hJ
    obtain ⟨z10, e11, hJ⟩ := bnd hJ
    refine rwVvW (As := [.int k1]) (rest := []) (ci := 8) (q0 := 0) hx hb hml hown hts (c_X8_accepts fu l dC dI kI kB kZ a v_tape v_taped v_errorAt v_thrown v_world v_aside v_undone v_slots v_isKept v_undos v_seenPrefix v_seenLast v_seen v_previous v_gained v_gains v_decoded v_decodes v_readAt v_start v_kind v_word v_letters v_number v_fine v_text v_texted k1 H.size z10 e11) gX8_readSymbols_X8_accepts qX8_accepts rfl ⟨Nat.le_of_ble_eq_true rfl, Nat.le_of_ble_eq_true rfl⟩ ⟨rfl, rfl⟩ hNW hK hP hD hS hA hK rfl rfl rfl hl.1 rfl rfl (Nat.le_of_ble_eq_true rfl) dX8_readSymbols_51 z0 (fun H locs hP hD hS => ?_)
    refine lv_aload_n hx hb dX8_readSymbols_54 rfl (lv_at hl 0 rfl) ?_
    obtain ⟨z12, e13, hJ⟩ := bnd hJ
    refine rwVvW (As := []) (rest := []) (ci := 8) (q0 := 0) hx hb hml hown hts (c_X8_mark fu l dC dI kI kB kZ a v_tape v_taped z10.1 v_thrown v_world v_aside v_undone v_slots v_isKept v_undos v_seenPrefix v_seenLast v_seen v_previous v_gained v_gains v_decoded v_decodes z10.2.1 z10.2.2.1 z10.2.2.2.1 z10.2.2.2.2.1 z10.2.2.2.2.2.1 z10.2.2.2.2.2.2.1 z10.2.2.2.2.2.2.2 v_text v_texted H.size z12 e13) gX8_readSymbols_X8_mark qX8_mark rfl ⟨Nat.le_of_ble_eq_true rfl, Nat.le_of_ble_eq_true rfl⟩ ⟨rfl, rfl⟩ hNW hK hP hD hS hA hK rfl rfl rfl hl.1 rfl rfl (Nat.le_of_ble_eq_true rfl) dX8_readSymbols_55 z0 (fun H locs hP hD hS => ?_)
    refine lv_aload_n hx hb dX8_readSymbols_58 rfl (lv_at hl 0 rfl) ?_
    refine va_get (D := (dC, dI)) (ci := 8) (v := .int z12.2.2.2.2.2.2.2) (C := RX8) (T := TX8) (N := 27) hx hb hts (fun _ h => List.mem_cons_of_mem _ (List.mem_append_right _ h)) hown hK hP 0 rfl rfl 24 (by decide) (hts _ (List.mem_of_getElem? (i := 4) rfl)) (fun _ h9 => h9) rfl dX8_readSymbols_59 ?_
    refine lv_if_eq (tgt := 71) hx hb dX8_readSymbols_62 (by decide) (fun c14 => ?_) (fun c14 => ?_)
    · have hJ := ite_t c14 hJ
      obtain rfl := Option.some.inj hJ
      exact rw_vret hx hb hr hlocks hP hD hS dX8_readSymbols_71
    · have hJ := ite_f c14 hJ
      refine lv_aload_n hx hb dX8_readSymbols_65 rfl (lv_at hl 0 rfl) ?_
      refine lv_iload_n hx hb dX8_readSymbols_66 rfl (lv_at hl 1 rfl) ?_
      refine lv_iload_n hx hb dX8_readSymbols_67 rfl (lv_at hl 2 rfl) ?_
      obtain ⟨z15, e16, hJ⟩ := bnd hJ
      refine rwVvW (As := [.int y1, .int y2]) (rest := []) (ci := 8) (q0 := 0) hx hb hml hown hts (c_X8_encodesTape fu l dC dI kI kB kZ a v_tape v_taped z12.1 v_thrown v_world v_aside v_undone v_slots v_isKept v_undos v_seenPrefix v_seenLast v_seen v_previous v_gained v_gains v_decoded v_decodes z12.2.1 z12.2.2.1 z12.2.2.2.1 z12.2.2.2.2.1 z12.2.2.2.2.2.1 z12.2.2.2.2.2.2.1 z12.2.2.2.2.2.2.2 v_text v_texted y1 y2 H.size z15 e16) gX8_readSymbols_X8_encodesTape qX8_encodesTape rfl ⟨Nat.le_of_ble_eq_true rfl, Nat.le_of_ble_eq_true rfl⟩ ⟨rfl, rfl⟩ hNW hK hP hD hS hA hK rfl rfl rfl hl.1 rfl rfl (Nat.le_of_ble_eq_true rfl) dX8_readSymbols_68 z0 (fun H locs hP hD hS => ?_)
      obtain rfl := Option.some.inj hJ
      exact rw_vret hx hb hr hlocks hP hD hS dX8_readSymbols_71
  have L50 : ∀ (v_errorAt : Int32) (v_world : Nat → Int32) (v_readAt : Int32) (v_start : Int32) (v_kind : Int32) (v_word : Int64) (v_letters : Int32) (v_number : Int32) (v_fine : Int32) (y1 : Int32) (y2 : Int32) (H : Heap) (locs : List Loc) (ls : Array Slot), va_P (dC, dI) vwCl (MWc a kI kB kZ v_tape v_taped v_errorAt v_thrown v_world v_aside v_undone v_slots v_isKept v_undos v_seenPrefix v_seenLast v_seen v_previous v_gained v_gains v_decoded v_decodes v_readAt v_start v_kind v_word v_letters v_number v_fine v_text v_texted) H → va_D A (MWc a kI kB kZ v_tape v_taped v_errorAt v_thrown v_world v_aside v_undone v_slots v_isKept v_undos v_seenPrefix v_seenLast v_seen v_previous v_gained v_gains v_decoded v_decodes v_readAt v_start v_kind v_word v_letters v_number v_fine v_text v_texted) → va_S A s.heap H locs → lv_has ls 3 [(0, .ref (a 0)), (1, .int y1), (2, .int y2)] → J_X8_readSymbols_b50 fu v_tape v_taped v_errorAt v_world v_readAt v_start v_kind v_word v_letters v_number v_fine y1 y2 = some z → W p l e ({ frames := 9, cells := 0, slots := 0, locals := 194 }) s m args below meth c H locs 0 0 (MQ below (rwQv dC dI A (MWc a kI kB kZ v_tape v_taped z.1 v_thrown z.2.1 v_aside v_undone v_slots v_isKept v_undos v_seenPrefix v_seenLast v_seen v_previous v_gained v_gains v_decoded v_decodes z.2.2.1 z.2.2.2.1 z.2.2.2.2.1 z.2.2.2.2.2.1 z.2.2.2.2.2.2.1 z.2.2.2.2.2.2.2.1 z.2.2.2.2.2.2.2.2 v_text v_texted)) args s 0 0 (A)) (F0 m 50 ls [.ref (a 0)]) := by
    intro v_errorAt v_world v_readAt v_start v_kind v_word v_letters v_number v_fine y1 y2 H locs ls hP hD hS hl hJ
    unfold J_X8_readSymbols_b50 at hJ
    refine lv_iconst (v := 0) hx hb dX8_readSymbols_50 (by decide) ?_
    exact L51 v_errorAt v_world v_readAt v_start v_kind v_word v_letters v_number v_fine y1 y2 (0 : Int32) H locs ls hP hD hS (lv_sub hl [0, 1, 2] rfl) hJ
  refine lv_aload_n hx hb dX8_readSymbols_0 rfl (lv_at hl 0 rfl) ?_
  refine lv_aload_n hx hb dX8_readSymbols_1 rfl (lv_at hl 0 rfl) ?_
  refine lv_ldc2 (v := 21253668243) hx hb hown (hts _ (List.mem_of_getElem? (i := 1) rfl)) dX8_readSymbols_2 ?_
  obtain ⟨z1, e2, hJ⟩ := bnd hJ
  refine roVi (As := [.long (21253668243 : Int64)]) (rest := [.ref (a 0)]) (ci := 8) (q0 := 0) hx hb hml hown hts (c_X8_isKey l dC dI kI kB kZ a v_tape v_taped v_errorAt v_thrown v_world v_aside v_undone v_slots v_isKept v_undos v_seenPrefix v_seenLast v_seen v_previous v_gained v_gains v_decoded v_decodes v_readAt v_start v_kind v_word v_letters v_number v_fine v_text v_texted (21253668243 : Int64) z1 e2) gX8_readSymbols_X8_isKey qX8_isKey rfl ⟨Nat.le_of_ble_eq_true rfl, Nat.le_of_ble_eq_true rfl⟩ ⟨rfl, rfl⟩ hNW hK hP hS hP hK rfl rfl rfl hl.1 rfl rfl (Nat.le_of_ble_eq_true rfl) dX8_readSymbols_5 z0 (fun H locs hP hS => ?_)
  obtain ⟨z3, e4, hJ⟩ := bnd hJ
  refine rwVvW (As := [.int z1]) (rest := []) (ci := 8) (q0 := 0) hx hb hml hown hts (c_X8_accepts fu l dC dI kI kB kZ a v_tape v_taped v_errorAt v_thrown v_world v_aside v_undone v_slots v_isKept v_undos v_seenPrefix v_seenLast v_seen v_previous v_gained v_gains v_decoded v_decodes v_readAt v_start v_kind v_word v_letters v_number v_fine v_text v_texted z1 H.size z3 e4) gX8_readSymbols_X8_accepts qX8_accepts rfl ⟨Nat.le_of_ble_eq_true rfl, Nat.le_of_ble_eq_true rfl⟩ ⟨rfl, rfl⟩ hNW hK hP hD hS hA hK rfl rfl rfl hl.1 rfl rfl (Nat.le_of_ble_eq_true rfl) dX8_readSymbols_8 z0 (fun H locs hP hD hS => ?_)
  refine lv_aload_n hx hb dX8_readSymbols_11 rfl (lv_at hl 0 rfl) ?_
  refine va_get (D := (dC, dI)) (ci := 8) (v := .int z3.2.2.1) (C := RX8) (T := TX8) (N := 27) hx hb hts (fun _ h => List.mem_cons_of_mem _ (List.mem_append_right _ h)) hown hK hP 0 rfl rfl 19 (by decide) (hts _ (List.mem_of_getElem? (i := 2) rfl)) (fun _ h9 => h9) rfl dX8_readSymbols_12 ?_
  refine lv_istore_n (lv' := [(1, .int z3.2.2.1), (0, .ref (a 0))]) hx hb dX8_readSymbols_15 rfl hl (by decide) rfl (fun ls hl => ?_)
  refine lv_aload_n hx hb dX8_readSymbols_16 rfl (lv_at hl 1 rfl) ?_
  refine va_get (D := (dC, dI)) (ci := 8) (v := .int z3.2.2.2.2.2.1) (C := RX8) (T := TX8) (N := 27) hx hb hts (fun _ h => List.mem_cons_of_mem _ (List.mem_append_right _ h)) hown hK hP 0 rfl rfl 22 (by decide) (hts _ (List.mem_of_getElem? (i := 3) rfl)) (fun _ h9 => h9) rfl dX8_readSymbols_17 ?_
  refine lv_istore_n (lv' := [(2, .int z3.2.2.2.2.2.1), (1, .int z3.2.2.1), (0, .ref (a 0))]) hx hb dX8_readSymbols_20 rfl hl (by decide) rfl (fun ls hl => ?_)
  refine lv_aload_n hx hb dX8_readSymbols_21 rfl (lv_at hl 2 rfl) ?_
  refine lv_aload_n hx hb dX8_readSymbols_22 rfl (lv_at hl 2 rfl) ?_
  refine va_get (D := (dC, dI)) (ci := 8) (v := .int z3.2.2.2.2.2.2.2) (C := RX8) (T := TX8) (N := 27) hx hb hts (fun _ h => List.mem_cons_of_mem _ (List.mem_append_right _ h)) hown hK hP 0 rfl rfl 24 (by decide) (hts _ (List.mem_of_getElem? (i := 4) rfl)) (fun _ h9 => h9) rfl dX8_readSymbols_23 ?_
  refine lv_if_eq (tgt := 50) hx hb dX8_readSymbols_26 (by decide) (fun c5 => ?_) (fun c5 => ?_)
  · have hJ := ite_t c5 hJ
    exact L50 z3.1 v_world z3.2.1 z3.2.2.1 z3.2.2.2.1 z3.2.2.2.2.1 z3.2.2.2.2.2.1 z3.2.2.2.2.2.2.1 z3.2.2.2.2.2.2.2 z3.2.2.1 z3.2.2.2.2.2.1 H locs ls hP hD hS (lv_sub hl [2, 1, 0] rfl) hJ
  · have hJ := ite_f c5 hJ
    refine lv_aload_n hx hb dX8_readSymbols_29 rfl (lv_at hl 2 rfl) ?_
    refine va_get (D := (dC, dI)) (ci := 8) (v := .int z3.2.2.2.1) (C := RX8) (T := TX8) (N := 27) hx hb hts (fun _ h => List.mem_cons_of_mem _ (List.mem_append_right _ h)) hown hK hP 0 rfl rfl 20 (by decide) (hts _ (List.mem_of_getElem? (i := 5) rfl)) (fun _ h9 => h9) rfl dX8_readSymbols_30 ?_
    refine lv_iconst (v := 1) hx hb dX8_readSymbols_33 (by decide) ?_
    refine lv_icmp_ne (tgt := 50) hx hb dX8_readSymbols_34 (by decide) (fun c6 => ?_) (fun c6 => ?_)
    · have hJ := ite_f c6 hJ
      exact L50 z3.1 v_world z3.2.1 z3.2.2.1 z3.2.2.2.1 z3.2.2.2.2.1 z3.2.2.2.2.2.1 z3.2.2.2.2.2.2.1 z3.2.2.2.2.2.2.2 z3.2.2.1 z3.2.2.2.2.2.1 H locs ls hP hD hS (lv_sub hl [2, 1, 0] rfl) hJ
    · have hJ := ite_t c6 hJ
      refine lv_aload_n hx hb dX8_readSymbols_37 rfl (lv_at hl 2 rfl) ?_
      refine lv_iload_n hx hb dX8_readSymbols_38 rfl (lv_at hl 1 rfl) ?_
      refine lv_iload_n hx hb dX8_readSymbols_39 rfl (lv_at hl 0 rfl) ?_
      obtain ⟨z7, e8, hJ⟩ := bnd hJ
      refine roVi (As := [.int z3.2.2.1, .int z3.2.2.2.2.2.1]) (rest := [.ref (a 0)]) (ci := 8) (q0 := 0) hx hb hml hown hts (c_X8_fits fu l dC dI kI kB kZ a v_tape v_taped z3.1 v_thrown v_world v_aside v_undone v_slots v_isKept v_undos v_seenPrefix v_seenLast v_seen v_previous v_gained v_gains v_decoded v_decodes z3.2.1 z3.2.2.1 z3.2.2.2.1 z3.2.2.2.2.1 z3.2.2.2.2.2.1 z3.2.2.2.2.2.2.1 z3.2.2.2.2.2.2.2 v_text v_texted z3.2.2.1 z3.2.2.2.2.2.1 z7 e8) gX8_readSymbols_X8_fits qX8_fits rfl ⟨Nat.le_of_ble_eq_true rfl, Nat.le_of_ble_eq_true rfl⟩ ⟨rfl, rfl⟩ hNW hK hP hS hP hK rfl rfl rfl hl.1 rfl rfl (Nat.le_of_ble_eq_true rfl) dX8_readSymbols_40 z0 (fun H locs hP hS => ?_)
      refine lv_if_eq (tgt := 50) hx hb dX8_readSymbols_43 (by decide) (fun c9 => ?_) (fun c9 => ?_)
      · have hJ := ite_t c9 hJ
        exact L50 z3.1 v_world z3.2.1 z3.2.2.1 z3.2.2.2.1 z3.2.2.2.2.1 z3.2.2.2.2.2.1 z3.2.2.2.2.2.2.1 z3.2.2.2.2.2.2.2 z3.2.2.1 z3.2.2.2.2.2.1 H locs ls hP hD hS (lv_sub hl [2, 1, 0] rfl) hJ
      · have hJ := ite_f c9 hJ
        refine lv_iconst (v := 1) hx hb dX8_readSymbols_46 (by decide) ?_
        refine lv_goto (tgt := 51) hx hb dX8_readSymbols_47 (by decide) ?_
        exact L51 z3.1 v_world z3.2.1 z3.2.2.1 z3.2.2.2.1 z3.2.2.2.2.1 z3.2.2.2.2.2.1 z3.2.2.2.2.2.2.1 z3.2.2.2.2.2.2.2 z3.2.2.1 z3.2.2.2.2.2.1 (1 : Int32) H locs ls hP hD hS (lv_sub hl [2, 1, 0] rfl) hJ
theorem qX8_startsReading : (yX8_startsReading.cls = RX8) ∧ yX8_startsReading.cls ≠ "java/lang/invoke/MethodHandle" ∧ yX8_startsReading.cls ≠ "java/lang/invoke/VarHandle" ∧ (parseMethodDescriptor yX8_startsReading.desc).map (fun d => d.parameters.length) = some 0 := by decide +kernel
set_option maxHeartbeats 4000000 in
set_option maxRecDepth 100000 in
theorem c_X8_startsReading (fu : Nat) (l : Launch) (dC : Nat → ClassId) (dI : Nat → Nat → Nat) (kI kB kZ : ClassId) (a : Nat → Nat) (v_tape : Nat → Int32) (v_taped : Int32) (v_errorAt : Int32) (v_thrown : Int32) (v_world : Nat → Int32) (v_aside : Nat → Int32) (v_undone : Nat → Int32) (v_slots : Nat → Int32) (v_isKept : Nat → Int32) (v_undos : Int32) (v_seenPrefix : Nat → Int32) (v_seenLast : Nat → Int32) (v_seen : Int32) (v_previous : Int32) (v_gained : Nat → Int32) (v_gains : Int32) (v_decoded : Nat → Int32) (v_decodes : Int32) (v_readAt : Int32) (v_start : Int32) (v_kind : Int32) (v_word : Int64) (v_letters : Int32) (v_number : Int32) (v_fine : Int32) (v_text : Nat → Int32) (v_texted : Int32) (sz : Nat) (z : Int32 × Int32 × Int32 × Int32 × Int64 × Int32 × Int32 × Int32) (hJ : J_X8_startsReading fu v_tape v_taped v_errorAt v_readAt v_start v_kind v_word v_letters v_number v_fine = some z) : Met l yX8_startsReading wsX8_startsReading ({ frames := 3, cells := 0, slots := 0, locals := 62 }) (va_Pc [.ref (a 0)] (RWp dC dI sz (MWc a kI kB kZ v_tape v_taped v_errorAt v_thrown v_world v_aside v_undone v_slots v_isKept v_undos v_seenPrefix v_seenLast v_seen v_previous v_gained v_gains v_decoded v_decodes v_readAt v_start v_kind v_word v_letters v_number v_fine v_text v_texted) [(kI, .int), (kB, .byte), (kZ, .boolean)])) (rwQv dC dI (va_A (MWc a kI kB kZ v_tape v_taped v_errorAt v_thrown v_world v_aside v_undone v_slots v_isKept v_undos v_seenPrefix v_seenLast v_seen v_previous v_gained v_gains v_decoded v_decodes v_readAt v_start v_kind v_word v_letters v_number v_fine v_text v_texted) sz) (MWc a kI kB kZ v_tape v_taped z.1 v_thrown v_world v_aside v_undone v_slots v_isKept v_undos v_seenPrefix v_seenLast v_seen v_previous v_gained v_gains v_decoded v_decodes z.2.1 z.2.2.1 z.2.2.2.1 z.2.2.2.2.1 z.2.2.2.2.2.1 z.2.2.2.2.2.2.1 z.2.2.2.2.2.2.2 v_text v_texted)) 0 0 (va_A (MWc a kI kB kZ v_tape v_taped v_errorAt v_thrown v_world v_aside v_undone v_slots v_isKept v_undos v_seenPrefix v_seenLast v_seen v_previous v_gained v_gains v_decoded v_decodes v_readAt v_start v_kind v_word v_letters v_number v_fine v_text v_texted) sz) := by
  refine rw_start (Qc := fun A => rwQv dC dI A (MWc a kI kB kZ v_tape v_taped z.1 v_thrown v_world v_aside v_undone v_slots v_isKept v_undos v_seenPrefix v_seenLast v_seen v_previous v_gained v_gains v_decoded v_decodes z.2.1 z.2.2.1 z.2.2.2.1 z.2.2.2.2.1 z.2.2.2.2.2.1 z.2.2.2.2.2.2.1 z.2.2.2.2.2.2.2 v_text v_texted)) (cc := cX8_startsReading) (maxL := 1) (ret := none) (by decide) rfl (Nat.le_of_ble_eq_true rfl) ?_
  intro p e s m args below meth c hx hb hr hml hown hts hlocks hNW hK A hA H locs ls hP hD hS hl
  have hown : s.vm.findClass RX8 = some m.cls := hown
  have hl : lv_has ls 1 [(0, .ref (a 0))] := hl
  unfold J_X8_startsReading at hJ
  refine lv_aload_n hx hb dX8_startsReading_0 rfl (lv_at hl 0 rfl) ?_
  refine lv_iconst (v := 0) hx hb dX8_startsReading_1 (by decide) ?_
  refine va_put (D := (dC, dI)) (ci := 8) (v := .int (0 : Int32)) (ty := .int) (C := RX8) (T := TX8) (N := 27) hx hb hts (fun _ h => List.mem_cons_of_mem _ (List.mem_append_right _ h)) tyX8 tyX8_ok nmX8 hown hK hP hD hS 0 rfl rfl 18 (by decide) (hts _ (List.mem_of_getElem? (i := 1) rfl)) (fun _ h9 => h9) rfl (by decide +kernel) rfl rfl (Nat.le_of_ble_eq_true rfl) dX8_startsReading_2 (fun H locs hP hD hS => ?_)
  have hP : va_P (dC, dI) vwCl (MWc a kI kB kZ v_tape v_taped v_errorAt v_thrown v_world v_aside v_undone v_slots v_isKept v_undos v_seenPrefix v_seenLast v_seen v_previous v_gained v_gains v_decoded v_decodes (0 : Int32) v_start v_kind v_word v_letters v_number v_fine v_text v_texted) H := hP
  have hD : va_D A (MWc a kI kB kZ v_tape v_taped v_errorAt v_thrown v_world v_aside v_undone v_slots v_isKept v_undos v_seenPrefix v_seenLast v_seen v_previous v_gained v_gains v_decoded v_decodes (0 : Int32) v_start v_kind v_word v_letters v_number v_fine v_text v_texted) := hD
  refine lv_aload_n hx hb dX8_startsReading_5 rfl (lv_at hl 0 rfl) ?_
  refine lv_iconst (v := 1) hx hb dX8_startsReading_6 (by decide) ?_
  refine va_put (D := (dC, dI)) (ci := 8) (v := .int (1 : Int32)) (ty := .boolean) (C := RX8) (T := TX8) (N := 27) hx hb hts (fun _ h => List.mem_cons_of_mem _ (List.mem_append_right _ h)) tyX8 tyX8_ok nmX8 hown hK hP hD hS 0 rfl rfl 24 (by decide) (hts _ (List.mem_of_getElem? (i := 2) rfl)) (fun _ h9 => h9) rfl (by decide +kernel) rfl rfl (Nat.le_of_ble_eq_true rfl) dX8_startsReading_7 (fun H locs hP hD hS => ?_)
  have hP : va_P (dC, dI) vwCl (MWc a kI kB kZ v_tape v_taped v_errorAt v_thrown v_world v_aside v_undone v_slots v_isKept v_undos v_seenPrefix v_seenLast v_seen v_previous v_gained v_gains v_decoded v_decodes (0 : Int32) v_start v_kind v_word v_letters v_number (1 : Int32) v_text v_texted) H := hP
  have hD : va_D A (MWc a kI kB kZ v_tape v_taped v_errorAt v_thrown v_world v_aside v_undone v_slots v_isKept v_undos v_seenPrefix v_seenLast v_seen v_previous v_gained v_gains v_decoded v_decodes (0 : Int32) v_start v_kind v_word v_letters v_number (1 : Int32) v_text v_texted) := hD
  refine lv_aload_n hx hb dX8_startsReading_10 rfl (lv_at hl 0 rfl) ?_
  refine lv_iconst (v := -1) hx hb dX8_startsReading_11 (by decide) ?_
  refine va_put (D := (dC, dI)) (ci := 8) (v := .int (-1 : Int32)) (ty := .int) (C := RX8) (T := TX8) (N := 27) hx hb hts (fun _ h => List.mem_cons_of_mem _ (List.mem_append_right _ h)) tyX8 tyX8_ok nmX8 hown hK hP hD hS 0 rfl rfl 2 (by decide) (hts _ (List.mem_of_getElem? (i := 3) rfl)) (fun _ h9 => h9) rfl (by decide +kernel) rfl rfl (Nat.le_of_ble_eq_true rfl) dX8_startsReading_12 (fun H locs hP hD hS => ?_)
  have hP : va_P (dC, dI) vwCl (MWc a kI kB kZ v_tape v_taped (-1 : Int32) v_thrown v_world v_aside v_undone v_slots v_isKept v_undos v_seenPrefix v_seenLast v_seen v_previous v_gained v_gains v_decoded v_decodes (0 : Int32) v_start v_kind v_word v_letters v_number (1 : Int32) v_text v_texted) H := hP
  have hD : va_D A (MWc a kI kB kZ v_tape v_taped (-1 : Int32) v_thrown v_world v_aside v_undone v_slots v_isKept v_undos v_seenPrefix v_seenLast v_seen v_previous v_gained v_gains v_decoded v_decodes (0 : Int32) v_start v_kind v_word v_letters v_number (1 : Int32) v_text v_texted) := hD
  refine lv_aload_n hx hb dX8_startsReading_15 rfl (lv_at hl 0 rfl) ?_
  obtain ⟨z1, e2, hJ⟩ := bnd hJ
  refine rwVvW (As := []) (rest := []) (ci := 8) (q0 := 0) hx hb hml hown hts (c_X8_nextToken fu l dC dI kI kB kZ a v_tape v_taped (-1 : Int32) v_thrown v_world v_aside v_undone v_slots v_isKept v_undos v_seenPrefix v_seenLast v_seen v_previous v_gained v_gains v_decoded v_decodes (0 : Int32) v_start v_kind v_word v_letters v_number (1 : Int32) v_text v_texted H.size z1 e2) gX8_startsReading_X8_nextToken qX8_nextToken rfl ⟨Nat.le_of_ble_eq_true rfl, Nat.le_of_ble_eq_true rfl⟩ ⟨rfl, rfl⟩ hNW hK hP hD hS hA hK rfl rfl rfl hl.1 rfl rfl (Nat.le_of_ble_eq_true rfl) dX8_startsReading_16 z0 (fun H locs hP hD hS => ?_)
  obtain rfl := Option.some.inj hJ
  exact rw_vret hx hb hr hlocks hP hD hS dX8_startsReading_19
theorem qX8_load : (yX8_load.cls = RX8) ∧ yX8_load.cls ≠ "java/lang/invoke/MethodHandle" ∧ yX8_load.cls ≠ "java/lang/invoke/VarHandle" ∧ (parseMethodDescriptor yX8_load.desc).map (fun d => d.parameters.length) = some 0 := by decide +kernel
set_option maxHeartbeats 4000000 in
set_option maxRecDepth 100000 in
theorem c_X8_load (fu : Nat) (l : Launch) (dC : Nat → ClassId) (dI : Nat → Nat → Nat) (kI kB kZ : ClassId) (a : Nat → Nat) (v_tape : Nat → Int32) (v_taped : Int32) (v_errorAt : Int32) (v_thrown : Int32) (v_world : Nat → Int32) (v_aside : Nat → Int32) (v_undone : Nat → Int32) (v_slots : Nat → Int32) (v_isKept : Nat → Int32) (v_undos : Int32) (v_seenPrefix : Nat → Int32) (v_seenLast : Nat → Int32) (v_seen : Int32) (v_previous : Int32) (v_gained : Nat → Int32) (v_gains : Int32) (v_decoded : Nat → Int32) (v_decodes : Int32) (v_readAt : Int32) (v_start : Int32) (v_kind : Int32) (v_word : Int64) (v_letters : Int32) (v_number : Int32) (v_fine : Int32) (v_text : Nat → Int32) (v_texted : Int32) (sz : Nat) (z : Int32 × Int32 × Int32 × Int32 × (Nat → Int32) × (Nat → Int32) × (Nat → Int32) × Int32 × Int32 × Int32 × Int32 × Int32 × Int64 × Int32 × Int32 × Int32) (hJ : J_X8_load fu v_tape v_taped v_errorAt v_thrown v_world v_aside v_isKept v_undos v_decodes v_readAt v_start v_kind v_word v_letters v_number v_fine = some z) : Met l yX8_load wsX8_load ({ frames := 10, cells := 0, slots := 0, locals := 216 }) (va_Pc [.ref (a 0)] (RWp dC dI sz (MWc a kI kB kZ v_tape v_taped v_errorAt v_thrown v_world v_aside v_undone v_slots v_isKept v_undos v_seenPrefix v_seenLast v_seen v_previous v_gained v_gains v_decoded v_decodes v_readAt v_start v_kind v_word v_letters v_number v_fine v_text v_texted) [(kI, .int), (kB, .byte), (kZ, .boolean)])) (rwQi dC dI (va_A (MWc a kI kB kZ v_tape v_taped v_errorAt v_thrown v_world v_aside v_undone v_slots v_isKept v_undos v_seenPrefix v_seenLast v_seen v_previous v_gained v_gains v_decoded v_decodes v_readAt v_start v_kind v_word v_letters v_number v_fine v_text v_texted) sz) (MWc a kI kB kZ v_tape z.2.1 z.2.2.1 z.2.2.2.1 z.2.2.2.2.1 z.2.2.2.2.2.1 v_undone v_slots z.2.2.2.2.2.2.1 z.2.2.2.2.2.2.2.1 v_seenPrefix v_seenLast v_seen v_previous v_gained v_gains v_decoded z.2.2.2.2.2.2.2.2.1 z.2.2.2.2.2.2.2.2.2.1 z.2.2.2.2.2.2.2.2.2.2.1 z.2.2.2.2.2.2.2.2.2.2.2.1 z.2.2.2.2.2.2.2.2.2.2.2.2.1 z.2.2.2.2.2.2.2.2.2.2.2.2.2.1 z.2.2.2.2.2.2.2.2.2.2.2.2.2.2.1 z.2.2.2.2.2.2.2.2.2.2.2.2.2.2.2 v_text v_texted) z.1) 0 0 (va_A (MWc a kI kB kZ v_tape v_taped v_errorAt v_thrown v_world v_aside v_undone v_slots v_isKept v_undos v_seenPrefix v_seenLast v_seen v_previous v_gained v_gains v_decoded v_decodes v_readAt v_start v_kind v_word v_letters v_number v_fine v_text v_texted) sz) := by
  refine rw_start (Qc := fun A => rwQi dC dI A (MWc a kI kB kZ v_tape z.2.1 z.2.2.1 z.2.2.2.1 z.2.2.2.2.1 z.2.2.2.2.2.1 v_undone v_slots z.2.2.2.2.2.2.1 z.2.2.2.2.2.2.2.1 v_seenPrefix v_seenLast v_seen v_previous v_gained v_gains v_decoded z.2.2.2.2.2.2.2.2.1 z.2.2.2.2.2.2.2.2.2.1 z.2.2.2.2.2.2.2.2.2.2.1 z.2.2.2.2.2.2.2.2.2.2.2.1 z.2.2.2.2.2.2.2.2.2.2.2.2.1 z.2.2.2.2.2.2.2.2.2.2.2.2.2.1 z.2.2.2.2.2.2.2.2.2.2.2.2.2.2.1 z.2.2.2.2.2.2.2.2.2.2.2.2.2.2.2 v_text v_texted) z.1) (cc := cX8_load) (maxL := 2) (ret := (some .int)) (by decide) rfl (Nat.le_of_ble_eq_true rfl) ?_
  intro p e s m args below meth c hx hb hr hml hown hts hlocks hNW hK A hA H locs ls hP hD hS hl
  have hown : s.vm.findClass RX8 = some m.cls := hown
  have hl : lv_has ls 2 [(0, .ref (a 0))] := hl
  unfold J_X8_load at hJ
  have L59 : ∀ (v_taped : Int32) (v_errorAt : Int32) (v_thrown : Int32) (v_world : Nat → Int32) (v_aside : Nat → Int32) (v_isKept : Nat → Int32) (v_undos : Int32) (v_decodes : Int32) (v_readAt : Int32) (v_start : Int32) (v_kind : Int32) (v_word : Int64) (v_letters : Int32) (v_number : Int32) (v_fine : Int32) (H : Heap) (locs : List Loc) (ls : Array Slot), va_P (dC, dI) vwCl (MWc a kI kB kZ v_tape v_taped v_errorAt v_thrown v_world v_aside v_undone v_slots v_isKept v_undos v_seenPrefix v_seenLast v_seen v_previous v_gained v_gains v_decoded v_decodes v_readAt v_start v_kind v_word v_letters v_number v_fine v_text v_texted) H → va_D A (MWc a kI kB kZ v_tape v_taped v_errorAt v_thrown v_world v_aside v_undone v_slots v_isKept v_undos v_seenPrefix v_seenLast v_seen v_previous v_gained v_gains v_decoded v_decodes v_readAt v_start v_kind v_word v_letters v_number v_fine v_text v_texted) → va_S A s.heap H locs → lv_has ls 2 [(0, .ref (a 0))] → J_X8_load_b59 fu v_tape v_taped v_errorAt v_thrown v_world v_aside v_isKept v_undos v_decodes v_readAt v_start v_kind v_word v_letters v_number v_fine = some z → W p l e ({ frames := 10, cells := 0, slots := 0, locals := 216 }) s m args below meth c H locs 0 0 (MQ below (rwQi dC dI A (MWc a kI kB kZ v_tape z.2.1 z.2.2.1 z.2.2.2.1 z.2.2.2.2.1 z.2.2.2.2.2.1 v_undone v_slots z.2.2.2.2.2.2.1 z.2.2.2.2.2.2.2.1 v_seenPrefix v_seenLast v_seen v_previous v_gained v_gains v_decoded z.2.2.2.2.2.2.2.2.1 z.2.2.2.2.2.2.2.2.2.1 z.2.2.2.2.2.2.2.2.2.2.1 z.2.2.2.2.2.2.2.2.2.2.2.1 z.2.2.2.2.2.2.2.2.2.2.2.2.1 z.2.2.2.2.2.2.2.2.2.2.2.2.2.1 z.2.2.2.2.2.2.2.2.2.2.2.2.2.2.1 z.2.2.2.2.2.2.2.2.2.2.2.2.2.2.2 v_text v_texted) z.1) args s 0 0 (A)) (F0 m 59 ls []) := by
    intro v_taped v_errorAt v_thrown v_world v_aside v_isKept v_undos v_decodes v_readAt v_start v_kind v_word v_letters v_number v_fine H locs ls hP hD hS hl hJ
    unfold J_X8_load_b59 at hJ
    refine lv_aload_n hx hb dX8_load_59 rfl (lv_at hl 0 rfl) ?_
    refine lv_iconst (v := 0) hx hb dX8_load_60 (by decide) ?_
    refine va_put (D := (dC, dI)) (ci := 8) (v := .int (0 : Int32)) (ty := .int) (C := RX8) (T := TX8) (N := 27) hx hb hts (fun _ h => List.mem_cons_of_mem _ (List.mem_append_right _ h)) tyX8 tyX8_ok nmX8 hown hK hP hD hS 0 rfl rfl 1 (by decide) (hts _ (List.mem_of_getElem? (i := 4) rfl)) (fun _ h9 => h9) rfl (by decide +kernel) rfl rfl (Nat.le_of_ble_eq_true rfl) dX8_load_61 (fun H locs hP hD hS => ?_)
    have hP : va_P (dC, dI) vwCl (MWc a kI kB kZ v_tape (0 : Int32) v_errorAt v_thrown v_world v_aside v_undone v_slots v_isKept v_undos v_seenPrefix v_seenLast v_seen v_previous v_gained v_gains v_decoded v_decodes v_readAt v_start v_kind v_word v_letters v_number v_fine v_text v_texted) H := hP
    have hD : va_D A (MWc a kI kB kZ v_tape (0 : Int32) v_errorAt v_thrown v_world v_aside v_undone v_slots v_isKept v_undos v_seenPrefix v_seenLast v_seen v_previous v_gained v_gains v_decoded v_decodes v_readAt v_start v_kind v_word v_letters v_number v_fine v_text v_texted) := hD
    refine lv_aload_n hx hb dX8_load_64 rfl (lv_at hl 0 rfl) ?_
    refine va_get (D := (dC, dI)) (ci := 8) (v := .int v_fine) (C := RX8) (T := TX8) (N := 27) hx hb hts (fun _ h => List.mem_cons_of_mem _ (List.mem_append_right _ h)) hown hK hP 0 rfl rfl 24 (by decide) (hts _ (List.mem_of_getElem? (i := 2) rfl)) (fun _ h9 => h9) rfl dX8_load_65 ?_
    refine lv_if_ne (tgt := 81) hx hb dX8_load_68 (by decide) (fun c16 => ?_) (fun c16 => ?_)
    · have hJ := ite_f c16 hJ
      refine lv_aload_n hx hb dX8_load_81 rfl (lv_at hl 0 rfl) ?_
      refine lv_iconst (v := 0) hx hb dX8_load_82 (by decide) ?_
      refine va_put (D := (dC, dI)) (ci := 8) (v := .int (0 : Int32)) (ty := .int) (C := RX8) (T := TX8) (N := 27) hx hb hts (fun _ h => List.mem_cons_of_mem _ (List.mem_append_right _ h)) tyX8 tyX8_ok nmX8 hown hK hP hD hS 0 rfl rfl 9 (by decide) (hts _ (List.mem_of_getElem? (i := 5) rfl)) (fun _ h9 => h9) rfl (by decide +kernel) rfl rfl (Nat.le_of_ble_eq_true rfl) dX8_load_83 (fun H locs hP hD hS => ?_)
      have hP : va_P (dC, dI) vwCl (MWc a kI kB kZ v_tape (0 : Int32) v_errorAt v_thrown v_world v_aside v_undone v_slots v_isKept (0 : Int32) v_seenPrefix v_seenLast v_seen v_previous v_gained v_gains v_decoded v_decodes v_readAt v_start v_kind v_word v_letters v_number v_fine v_text v_texted) H := hP
      have hD : va_D A (MWc a kI kB kZ v_tape (0 : Int32) v_errorAt v_thrown v_world v_aside v_undone v_slots v_isKept (0 : Int32) v_seenPrefix v_seenLast v_seen v_previous v_gained v_gains v_decoded v_decodes v_readAt v_start v_kind v_word v_letters v_number v_fine v_text v_texted) := hD
      refine lv_aload_n hx hb dX8_load_86 rfl (lv_at hl 0 rfl) ?_
      refine va_get (D := (dC, dI)) (ci := 8) (v := .ref (a 6)) (C := RX8) (T := TX8) (N := 27) hx hb hts (fun _ h => List.mem_cons_of_mem _ (List.mem_append_right _ h)) hown hK hP 0 rfl rfl 8 (by decide) (hts _ (List.mem_of_getElem? (i := 6) rfl)) (fun _ h9 => h9) rfl dX8_load_87 ?_
      refine lv_iconst (v := 0) hx hb dX8_load_90 (by decide) ?_
      refine lv_iconst (v := 0) hx hb dX8_load_91 (by decide) ?_
      obtain ⟨g17, e18, hJ⟩ := bnd hJ
      refine wr_boolean (n := 2) (f := v_isKept) (x := (0 : Int32)) hx hb hK hP hD hS 6 2 rfl rfl e18 dX8_load_92 (fun H locs hP hD hS => ?_)
      have hP : va_P (dC, dI) vwCl (MWc a kI kB kZ v_tape (0 : Int32) v_errorAt v_thrown v_world v_aside v_undone v_slots g17 (0 : Int32) v_seenPrefix v_seenLast v_seen v_previous v_gained v_gains v_decoded v_decodes v_readAt v_start v_kind v_word v_letters v_number v_fine v_text v_texted) H := hP
      have hD : va_D A (MWc a kI kB kZ v_tape (0 : Int32) v_errorAt v_thrown v_world v_aside v_undone v_slots g17 (0 : Int32) v_seenPrefix v_seenLast v_seen v_previous v_gained v_gains v_decoded v_decodes v_readAt v_start v_kind v_word v_letters v_number v_fine v_text v_texted) := hD
      refine lv_aload_n hx hb dX8_load_93 rfl (lv_at hl 0 rfl) ?_
      refine va_get (D := (dC, dI)) (ci := 8) (v := .ref (a 6)) (C := RX8) (T := TX8) (N := 27) hx hb hts (fun _ h => List.mem_cons_of_mem _ (List.mem_append_right _ h)) hown hK hP 0 rfl rfl 8 (by decide) (hts _ (List.mem_of_getElem? (i := 6) rfl)) (fun _ h9 => h9) rfl dX8_load_94 ?_
      refine lv_iconst (v := 1) hx hb dX8_load_97 (by decide) ?_
      refine lv_iconst (v := 0) hx hb dX8_load_98 (by decide) ?_
      obtain ⟨g19, e20, hJ⟩ := bnd hJ
      refine wr_boolean (n := 2) (f := g17) (x := (0 : Int32)) hx hb hK hP hD hS 6 2 rfl rfl e20 dX8_load_99 (fun H locs hP hD hS => ?_)
      have hP : va_P (dC, dI) vwCl (MWc a kI kB kZ v_tape (0 : Int32) v_errorAt v_thrown v_world v_aside v_undone v_slots g19 (0 : Int32) v_seenPrefix v_seenLast v_seen v_previous v_gained v_gains v_decoded v_decodes v_readAt v_start v_kind v_word v_letters v_number v_fine v_text v_texted) H := hP
      have hD : va_D A (MWc a kI kB kZ v_tape (0 : Int32) v_errorAt v_thrown v_world v_aside v_undone v_slots g19 (0 : Int32) v_seenPrefix v_seenLast v_seen v_previous v_gained v_gains v_decoded v_decodes v_readAt v_start v_kind v_word v_letters v_number v_fine v_text v_texted) := hD
      refine lv_aload_n hx hb dX8_load_100 rfl (lv_at hl 0 rfl) ?_
      refine lv_iconst (v := 0) hx hb dX8_load_101 (by decide) ?_
      refine va_put (D := (dC, dI)) (ci := 8) (v := .int (0 : Int32)) (ty := .int) (C := RX8) (T := TX8) (N := 27) hx hb hts (fun _ h => List.mem_cons_of_mem _ (List.mem_append_right _ h)) tyX8 tyX8_ok nmX8 hown hK hP hD hS 0 rfl rfl 17 (by decide) (hts _ (List.mem_of_getElem? (i := 7) rfl)) (fun _ h9 => h9) rfl (by decide +kernel) rfl rfl (Nat.le_of_ble_eq_true rfl) dX8_load_102 (fun H locs hP hD hS => ?_)
      have hP : va_P (dC, dI) vwCl (MWc a kI kB kZ v_tape (0 : Int32) v_errorAt v_thrown v_world v_aside v_undone v_slots g19 (0 : Int32) v_seenPrefix v_seenLast v_seen v_previous v_gained v_gains v_decoded (0 : Int32) v_readAt v_start v_kind v_word v_letters v_number v_fine v_text v_texted) H := hP
      have hD : va_D A (MWc a kI kB kZ v_tape (0 : Int32) v_errorAt v_thrown v_world v_aside v_undone v_slots g19 (0 : Int32) v_seenPrefix v_seenLast v_seen v_previous v_gained v_gains v_decoded (0 : Int32) v_readAt v_start v_kind v_word v_letters v_number v_fine v_text v_texted) := hD
      refine lv_aload_n hx hb dX8_load_105 rfl (lv_at hl 0 rfl) ?_
      refine lv_aload_n hx hb dX8_load_106 rfl (lv_at hl 0 rfl) ?_
      refine va_get (D := (dC, dI)) (ci := 8) (v := .ref (a 2)) (C := RX8) (T := TX8) (N := 27) hx hb hts (fun _ h => List.mem_cons_of_mem _ (List.mem_append_right _ h)) hown hK hP 0 rfl rfl 4 (by decide) (hts _ (List.mem_of_getElem? (i := 1) rfl)) (fun _ h9 => h9) rfl dX8_load_107 ?_
      refine lv_bipush (v := 6) hx hb dX8_load_110 (by decide) ?_
      obtain ⟨z21, e22, hJ⟩ := bnd hJ
      refine rd_int (n := 1726) (f := v_world) hx hb hK hP 2 0 rfl rfl e22 dX8_load_112 ?_
      obtain ⟨z23, e24, hJ⟩ := bnd hJ
      refine rwViW (As := [.int z21]) (rest := []) (ci := 8) (q0 := 0) hx hb hml hown hts (c_X8_told l dC dI kI kB kZ a v_tape (0 : Int32) v_errorAt v_thrown v_world v_aside v_undone v_slots g19 (0 : Int32) v_seenPrefix v_seenLast v_seen v_previous v_gained v_gains v_decoded (0 : Int32) v_readAt v_start v_kind v_word v_letters v_number v_fine v_text v_texted z21 H.size z23 e24) gX8_load_X8_told qX8_told rfl ⟨Nat.le_of_ble_eq_true rfl, Nat.le_of_ble_eq_true rfl⟩ ⟨rfl, rfl⟩ hNW hK hP hD hS hA hK rfl rfl rfl hl.1 rfl rfl (Nat.le_of_ble_eq_true rfl) dX8_load_113 z0 (fun H locs hP hD hS => ?_)
      obtain rfl := Option.some.inj hJ
      exact rw_iret hx hb hr hlocks rfl hP hD hS dX8_load_116
    · have hJ := ite_t c16 hJ
      refine lv_aload_n hx hb dX8_load_71 rfl (lv_at hl 0 rfl) ?_
      obtain ⟨z25, e26, hJ⟩ := bnd hJ
      refine rwVvW (As := []) (rest := []) (ci := 8) (q0 := 0) hx hb hml hown hts (c_X8_takesBack fu l dC dI kI kB kZ a v_tape (0 : Int32) v_errorAt v_thrown v_world v_aside v_undone v_slots v_isKept v_undos v_seenPrefix v_seenLast v_seen v_previous v_gained v_gains v_decoded v_decodes v_readAt v_start v_kind v_word v_letters v_number v_fine v_text v_texted H.size z25 e26) gX8_load_X8_takesBack qX8_takesBack rfl ⟨Nat.le_of_ble_eq_true rfl, Nat.le_of_ble_eq_true rfl⟩ ⟨rfl, rfl⟩ hNW hK hP hD hS hA hK rfl rfl rfl hl.1 rfl rfl (Nat.le_of_ble_eq_true rfl) dX8_load_72 z0 (fun H locs hP hD hS => ?_)
      refine lv_aload_n hx hb dX8_load_75 rfl (lv_at hl 0 rfl) ?_
      refine lv_iconst (v := 1) hx hb dX8_load_76 (by decide) ?_
      obtain ⟨z27, e28, hJ⟩ := bnd hJ
      refine rwViW (As := [.int (1 : Int32)]) (rest := []) (ci := 8) (q0 := 0) hx hb hml hown hts (c_X8_throwing l dC dI kI kB kZ a v_tape (0 : Int32) v_errorAt v_thrown z25 v_aside v_undone v_slots v_isKept v_undos v_seenPrefix v_seenLast v_seen v_previous v_gained v_gains v_decoded v_decodes v_readAt v_start v_kind v_word v_letters v_number v_fine v_text v_texted (1 : Int32) H.size z27 e28) gX8_load_X8_throwing qX8_throwing rfl ⟨Nat.le_of_ble_eq_true rfl, Nat.le_of_ble_eq_true rfl⟩ ⟨rfl, rfl⟩ hNW hK hP hD hS hA hK rfl rfl rfl hl.1 rfl rfl (Nat.le_of_ble_eq_true rfl) dX8_load_77 z0 (fun H locs hP hD hS => ?_)
      obtain rfl := Option.some.inj hJ
      exact rw_iret hx hb hr hlocks rfl hP hD hS dX8_load_80
  have L38 : ∀ (n : Nat) (v_taped : Int32) (v_errorAt : Int32) (v_thrown : Int32) (v_world : Nat → Int32) (v_aside : Nat → Int32) (v_isKept : Nat → Int32) (v_undos : Int32) (v_decodes : Int32) (v_readAt : Int32) (v_start : Int32) (v_kind : Int32) (v_word : Int64) (v_letters : Int32) (v_number : Int32) (v_fine : Int32) (H : Heap) (locs : List Loc) (ls : Array Slot), va_P (dC, dI) vwCl (MWc a kI kB kZ v_tape v_taped v_errorAt v_thrown v_world v_aside v_undone v_slots v_isKept v_undos v_seenPrefix v_seenLast v_seen v_previous v_gained v_gains v_decoded v_decodes v_readAt v_start v_kind v_word v_letters v_number v_fine v_text v_texted) H → va_D A (MWc a kI kB kZ v_tape v_taped v_errorAt v_thrown v_world v_aside v_undone v_slots v_isKept v_undos v_seenPrefix v_seenLast v_seen v_previous v_gained v_gains v_decoded v_decodes v_readAt v_start v_kind v_word v_letters v_number v_fine v_text v_texted) → va_S A s.heap H locs → lv_has ls 2 [(0, .ref (a 0))] → J_X8_load_b38 fu v_tape n v_taped v_errorAt v_thrown v_world v_aside v_isKept v_undos v_decodes v_readAt v_start v_kind v_word v_letters v_number v_fine = some z → W p l e ({ frames := 10, cells := 0, slots := 0, locals := 216 }) s m args below meth c H locs 0 0 (MQ below (rwQi dC dI A (MWc a kI kB kZ v_tape z.2.1 z.2.2.1 z.2.2.2.1 z.2.2.2.2.1 z.2.2.2.2.2.1 v_undone v_slots z.2.2.2.2.2.2.1 z.2.2.2.2.2.2.2.1 v_seenPrefix v_seenLast v_seen v_previous v_gained v_gains v_decoded z.2.2.2.2.2.2.2.2.1 z.2.2.2.2.2.2.2.2.2.1 z.2.2.2.2.2.2.2.2.2.2.1 z.2.2.2.2.2.2.2.2.2.2.2.1 z.2.2.2.2.2.2.2.2.2.2.2.2.1 z.2.2.2.2.2.2.2.2.2.2.2.2.2.1 z.2.2.2.2.2.2.2.2.2.2.2.2.2.2.1 z.2.2.2.2.2.2.2.2.2.2.2.2.2.2.2 v_text v_texted) z.1) args s 0 0 (A)) (F0 m 38 ls []) := by
    intro n
    induction n with
    | zero =>
      intro v_taped v_errorAt v_thrown v_world v_aside v_isKept v_undos v_decodes v_readAt v_start v_kind v_word v_letters v_number v_fine H locs ls hP hD hS hl hJ
      rw [J_X8_load_b38] at hJ; cases hJ
    | succ n ih =>
      intro v_taped v_errorAt v_thrown v_world v_aside v_isKept v_undos v_decodes v_readAt v_start v_kind v_word v_letters v_number v_fine H locs ls hP hD hS hl hJ
      rw [J_X8_load_b38] at hJ
      refine lv_aload_n hx hb dX8_load_38 rfl (lv_at hl 0 rfl) ?_
      refine va_get (D := (dC, dI)) (ci := 8) (v := .int v_fine) (C := RX8) (T := TX8) (N := 27) hx hb hts (fun _ h => List.mem_cons_of_mem _ (List.mem_append_right _ h)) hown hK hP 0 rfl rfl 24 (by decide) (hts _ (List.mem_of_getElem? (i := 2) rfl)) (fun _ h9 => h9) rfl dX8_load_39 ?_
      refine lv_if_eq (tgt := 59) hx hb dX8_load_42 (by decide) (fun c12 => ?_) (fun c12 => ?_)
      · have hJ := ite_t c12 hJ
        exact L59 v_taped v_errorAt v_thrown v_world v_aside v_isKept v_undos v_decodes v_readAt v_start v_kind v_word v_letters v_number v_fine H locs ls hP hD hS (lv_sub hl [0] rfl) hJ
      · have hJ := ite_f c12 hJ
        refine lv_aload_n hx hb dX8_load_45 rfl (lv_at hl 0 rfl) ?_
        refine va_get (D := (dC, dI)) (ci := 8) (v := .int v_kind) (C := RX8) (T := TX8) (N := 27) hx hb hts (fun _ h => List.mem_cons_of_mem _ (List.mem_append_right _ h)) hown hK hP 0 rfl rfl 20 (by decide) (hts _ (List.mem_of_getElem? (i := 3) rfl)) (fun _ h9 => h9) rfl dX8_load_46 ?_
        refine lv_if_eq (tgt := 59) hx hb dX8_load_49 (by decide) (fun c13 => ?_) (fun c13 => ?_)
        · have hJ := ite_t c13 hJ
          exact L59 v_taped v_errorAt v_thrown v_world v_aside v_isKept v_undos v_decodes v_readAt v_start v_kind v_word v_letters v_number v_fine H locs ls hP hD hS (lv_sub hl [0] rfl) hJ
        · have hJ := ite_f c13 hJ
          refine lv_aload_n hx hb dX8_load_52 rfl (lv_at hl 0 rfl) ?_
          obtain ⟨z14, e15, hJ⟩ := bnd hJ
          refine rwVvW (As := []) (rest := []) (ci := 8) (q0 := 0) hx hb hml hown hts (c_X8_readSymbols fu l dC dI kI kB kZ a v_tape v_taped v_errorAt v_thrown v_world v_aside v_undone v_slots v_isKept v_undos v_seenPrefix v_seenLast v_seen v_previous v_gained v_gains v_decoded v_decodes v_readAt v_start v_kind v_word v_letters v_number v_fine v_text v_texted H.size z14 e15) gX8_load_X8_readSymbols qX8_readSymbols rfl ⟨Nat.le_of_ble_eq_true rfl, Nat.le_of_ble_eq_true rfl⟩ ⟨rfl, rfl⟩ hNW hK hP hD hS hA hK rfl rfl rfl hl.1 rfl rfl (Nat.le_of_ble_eq_true rfl) dX8_load_53 z0 (fun H locs hP hD hS => ?_)
          refine lv_goto (tgt := 38) hx hb dX8_load_56 (by decide) ?_
          exact ih v_taped z14.1 v_thrown z14.2.1 v_aside v_isKept v_undos v_decodes z14.2.2.1 z14.2.2.2.1 z14.2.2.2.2.1 z14.2.2.2.2.2.1 z14.2.2.2.2.2.2.1 z14.2.2.2.2.2.2.2.1 z14.2.2.2.2.2.2.2.2 H locs ls hP hD hS (lv_sub hl [0] rfl) hJ
  have L6 : ∀ (n : Nat) (v_taped : Int32) (v_errorAt : Int32) (v_thrown : Int32) (v_world : Nat → Int32) (v_aside : Nat → Int32) (v_isKept : Nat → Int32) (v_undos : Int32) (v_decodes : Int32) (v_readAt : Int32) (v_start : Int32) (v_kind : Int32) (v_word : Int64) (v_letters : Int32) (v_number : Int32) (v_fine : Int32) (y1 : Int32) (H : Heap) (locs : List Loc) (ls : Array Slot), va_P (dC, dI) vwCl (MWc a kI kB kZ v_tape v_taped v_errorAt v_thrown v_world v_aside v_undone v_slots v_isKept v_undos v_seenPrefix v_seenLast v_seen v_previous v_gained v_gains v_decoded v_decodes v_readAt v_start v_kind v_word v_letters v_number v_fine v_text v_texted) H → va_D A (MWc a kI kB kZ v_tape v_taped v_errorAt v_thrown v_world v_aside v_undone v_slots v_isKept v_undos v_seenPrefix v_seenLast v_seen v_previous v_gained v_gains v_decoded v_decodes v_readAt v_start v_kind v_word v_letters v_number v_fine v_text v_texted) → va_S A s.heap H locs → lv_has ls 2 [(0, .ref (a 0)), (1, .int y1)] → J_X8_load_b6 fu v_tape n v_taped v_errorAt v_thrown v_world v_aside v_isKept v_undos v_decodes v_readAt v_start v_kind v_word v_letters v_number v_fine y1 = some z → W p l e ({ frames := 10, cells := 0, slots := 0, locals := 216 }) s m args below meth c H locs 0 0 (MQ below (rwQi dC dI A (MWc a kI kB kZ v_tape z.2.1 z.2.2.1 z.2.2.2.1 z.2.2.2.2.1 z.2.2.2.2.2.1 v_undone v_slots z.2.2.2.2.2.2.1 z.2.2.2.2.2.2.2.1 v_seenPrefix v_seenLast v_seen v_previous v_gained v_gains v_decoded z.2.2.2.2.2.2.2.2.1 z.2.2.2.2.2.2.2.2.2.1 z.2.2.2.2.2.2.2.2.2.2.1 z.2.2.2.2.2.2.2.2.2.2.2.1 z.2.2.2.2.2.2.2.2.2.2.2.2.1 z.2.2.2.2.2.2.2.2.2.2.2.2.2.1 z.2.2.2.2.2.2.2.2.2.2.2.2.2.2.1 z.2.2.2.2.2.2.2.2.2.2.2.2.2.2.2 v_text v_texted) z.1) args s 0 0 (A)) (F0 m 6 ls []) := by
    intro n
    induction n with
    | zero =>
      intro v_taped v_errorAt v_thrown v_world v_aside v_isKept v_undos v_decodes v_readAt v_start v_kind v_word v_letters v_number v_fine y1 H locs ls hP hD hS hl hJ
      rw [J_X8_load_b6] at hJ; cases hJ
    | succ n ih =>
      intro v_taped v_errorAt v_thrown v_world v_aside v_isKept v_undos v_decodes v_readAt v_start v_kind v_word v_letters v_number v_fine y1 H locs ls hP hD hS hl hJ
      rw [J_X8_load_b6] at hJ
      refine lv_iload_n hx hb dX8_load_6 rfl (lv_at hl 1 rfl) ?_
      refine lv_sipush (v := 1726) hx hb dX8_load_7 (by decide) ?_
      refine lv_icmp_ge (tgt := 26) hx hb dX8_load_10 (by decide) (fun c3 => ?_) (fun c3 => ?_)
      · have hJ := ite_t c3 hJ
        refine lv_aload_n hx hb dX8_load_26 rfl (lv_at hl 0 rfl) ?_
        obtain ⟨z4, e5, hJ⟩ := bnd hJ
        refine rwVvW (As := []) (rest := []) (ci := 8) (q0 := 0) hx hb hml hown hts (c_X8_startsReading fu l dC dI kI kB kZ a v_tape v_taped v_errorAt v_thrown v_world v_aside v_undone v_slots v_isKept v_undos v_seenPrefix v_seenLast v_seen v_previous v_gained v_gains v_decoded v_decodes v_readAt v_start v_kind v_word v_letters v_number v_fine v_text v_texted H.size z4 e5) gX8_load_X8_startsReading qX8_startsReading rfl ⟨Nat.le_of_ble_eq_true rfl, Nat.le_of_ble_eq_true rfl⟩ ⟨rfl, rfl⟩ hNW hK hP hD hS hA hK rfl rfl rfl hl.1 rfl rfl (Nat.le_of_ble_eq_true rfl) dX8_load_27 z0 (fun H locs hP hD hS => ?_)
        refine lv_aload_n hx hb dX8_load_30 rfl (lv_at hl 0 rfl) ?_
        obtain ⟨z6, e7, hJ⟩ := bnd hJ
        refine rwVvW (As := []) (rest := []) (ci := 8) (q0 := 0) hx hb hml hown hts (c_X8_readSettings fu l dC dI kI kB kZ a v_tape v_taped z4.1 v_thrown v_world v_aside v_undone v_slots v_isKept v_undos v_seenPrefix v_seenLast v_seen v_previous v_gained v_gains v_decoded v_decodes z4.2.1 z4.2.2.1 z4.2.2.2.1 z4.2.2.2.2.1 z4.2.2.2.2.2.1 z4.2.2.2.2.2.2.1 z4.2.2.2.2.2.2.2 v_text v_texted H.size z6 e7) gX8_load_X8_readSettings qX8_readSettings rfl ⟨Nat.le_of_ble_eq_true rfl, Nat.le_of_ble_eq_true rfl⟩ ⟨rfl, rfl⟩ hNW hK hP hD hS hA hK rfl rfl rfl hl.1 rfl rfl (Nat.le_of_ble_eq_true rfl) dX8_load_31 z0 (fun H locs hP hD hS => ?_)
        refine lv_aload_n hx hb dX8_load_34 rfl (lv_at hl 0 rfl) ?_
        obtain ⟨z8, e9, hJ⟩ := bnd hJ
        refine rwVvW (As := []) (rest := []) (ci := 8) (q0 := 0) hx hb hml hown hts (c_X8_starts l dC dI kI kB kZ a v_tape v_taped z6.1 v_thrown z6.2.1 v_aside v_undone v_slots v_isKept v_undos v_seenPrefix v_seenLast v_seen v_previous v_gained v_gains v_decoded v_decodes z6.2.2.1 z6.2.2.2.1 z6.2.2.2.2.1 z6.2.2.2.2.2.1 z6.2.2.2.2.2.2.1 z6.2.2.2.2.2.2.2.1 z6.2.2.2.2.2.2.2.2 v_text v_texted H.size z8 e9) gX8_load_X8_starts qX8_starts rfl ⟨Nat.le_of_ble_eq_true rfl, Nat.le_of_ble_eq_true rfl⟩ ⟨rfl, rfl⟩ hNW hK hP hD hS hA hK rfl rfl rfl hl.1 rfl rfl (Nat.le_of_ble_eq_true rfl) dX8_load_35 z0 (fun H locs hP hD hS => ?_)
        exact L38 fu v_taped z6.1 v_thrown z8 v_aside v_isKept v_undos v_decodes z6.2.2.1 z6.2.2.2.1 z6.2.2.2.2.1 z6.2.2.2.2.2.1 z6.2.2.2.2.2.2.1 z6.2.2.2.2.2.2.2.1 z6.2.2.2.2.2.2.2.2 H locs ls hP hD hS (lv_sub hl [0] rfl) hJ
      · have hJ := ite_f c3 hJ
        refine lv_aload_n hx hb dX8_load_13 rfl (lv_at hl 0 rfl) ?_
        refine va_get (D := (dC, dI)) (ci := 8) (v := .ref (a 2)) (C := RX8) (T := TX8) (N := 27) hx hb hts (fun _ h => List.mem_cons_of_mem _ (List.mem_append_right _ h)) hown hK hP 0 rfl rfl 4 (by decide) (hts _ (List.mem_of_getElem? (i := 1) rfl)) (fun _ h9 => h9) rfl dX8_load_14 ?_
        refine lv_iload_n hx hb dX8_load_17 rfl (lv_at hl 1 rfl) ?_
        refine lv_iconst (v := 0) hx hb dX8_load_18 (by decide) ?_
        obtain ⟨g10, e11, hJ⟩ := bnd hJ
        refine wr_int (n := 1726) (f := v_world) (x := (0 : Int32)) hx hb hK hP hD hS 2 0 rfl rfl e11 dX8_load_19 (fun H locs hP hD hS => ?_)
        have hP : va_P (dC, dI) vwCl (MWc a kI kB kZ v_tape v_taped v_errorAt v_thrown g10 v_aside v_undone v_slots v_isKept v_undos v_seenPrefix v_seenLast v_seen v_previous v_gained v_gains v_decoded v_decodes v_readAt v_start v_kind v_word v_letters v_number v_fine v_text v_texted) H := hP
        have hD : va_D A (MWc a kI kB kZ v_tape v_taped v_errorAt v_thrown g10 v_aside v_undone v_slots v_isKept v_undos v_seenPrefix v_seenLast v_seen v_previous v_gained v_gains v_decoded v_decodes v_readAt v_start v_kind v_word v_letters v_number v_fine v_text v_texted) := hD
        refine lv_iinc (v := y1 + 1) (lv' := [(1, .int (y1 + 1)), (0, .ref (a 0))]) hx hb dX8_load_20 hl (k := 1) rfl rfl (by decide) rfl (fun ls hl => ?_)
        refine lv_goto (tgt := 6) hx hb dX8_load_23 (by decide) ?_
        exact ih v_taped v_errorAt v_thrown g10 v_aside v_isKept v_undos v_decodes v_readAt v_start v_kind v_word v_letters v_number v_fine (y1 + 1) H locs ls hP hD hS (lv_sub hl [1, 0] rfl) hJ
  refine lv_aload_n hx hb dX8_load_0 rfl (lv_at hl 0 rfl) ?_
  obtain ⟨z1, e2, hJ⟩ := bnd hJ
  refine rwVvW (As := []) (rest := []) (ci := 8) (q0 := 0) hx hb hml hown hts (c_X8_keepsAside fu l dC dI kI kB kZ a v_tape v_taped v_errorAt v_thrown v_world v_aside v_undone v_slots v_isKept v_undos v_seenPrefix v_seenLast v_seen v_previous v_gained v_gains v_decoded v_decodes v_readAt v_start v_kind v_word v_letters v_number v_fine v_text v_texted H.size z1 e2) gX8_load_X8_keepsAside qX8_keepsAside rfl ⟨Nat.le_of_ble_eq_true rfl, Nat.le_of_ble_eq_true rfl⟩ ⟨rfl, rfl⟩ hNW hK hP hD hS hA hK rfl rfl rfl hl.1 rfl rfl (Nat.le_of_ble_eq_true rfl) dX8_load_1 z0 (fun H locs hP hD hS => ?_)
  refine lv_iconst (v := 0) hx hb dX8_load_4 (by decide) ?_
  refine lv_istore_n (lv' := [(1, .int (0 : Int32)), (0, .ref (a 0))]) hx hb dX8_load_5 rfl hl (by decide) rfl (fun ls hl => ?_)
  exact L6 fu v_taped v_errorAt v_thrown v_world z1 v_isKept v_undos v_decodes v_readAt v_start v_kind v_word v_letters v_number v_fine (0 : Int32) H locs ls hP hD hS (lv_sub hl [1, 0] rfl) hJ
theorem qX8_keepsDecoded : (yX8_keepsDecoded.cls = RX8) ∧ yX8_keepsDecoded.cls ≠ "java/lang/invoke/MethodHandle" ∧ yX8_keepsDecoded.cls ≠ "java/lang/invoke/VarHandle" ∧ (parseMethodDescriptor yX8_keepsDecoded.desc).map (fun d => d.parameters.length) = some 0 := by decide +kernel
set_option maxHeartbeats 4000000 in
set_option maxRecDepth 100000 in
theorem c_X8_keepsDecoded (fu : Nat) (l : Launch) (dC : Nat → ClassId) (dI : Nat → Nat → Nat) (kI kB kZ : ClassId) (a : Nat → Nat) (v_tape : Nat → Int32) (v_taped : Int32) (v_errorAt : Int32) (v_thrown : Int32) (v_world : Nat → Int32) (v_aside : Nat → Int32) (v_undone : Nat → Int32) (v_slots : Nat → Int32) (v_isKept : Nat → Int32) (v_undos : Int32) (v_seenPrefix : Nat → Int32) (v_seenLast : Nat → Int32) (v_seen : Int32) (v_previous : Int32) (v_gained : Nat → Int32) (v_gains : Int32) (v_decoded : Nat → Int32) (v_decodes : Int32) (v_readAt : Int32) (v_start : Int32) (v_kind : Int32) (v_word : Int64) (v_letters : Int32) (v_number : Int32) (v_fine : Int32) (v_text : Nat → Int32) (v_texted : Int32) (sz : Nat) (z : (Nat → Int32) × Int32) (hJ : J_X8_keepsDecoded fu v_gained v_gains v_decoded v_decodes = some z) : Met l yX8_keepsDecoded wsX8_keepsDecoded ({ frames := 0, cells := 0, slots := 0, locals := 0 }) (va_Pc [.ref (a 0)] (RWp dC dI sz (MWc a kI kB kZ v_tape v_taped v_errorAt v_thrown v_world v_aside v_undone v_slots v_isKept v_undos v_seenPrefix v_seenLast v_seen v_previous v_gained v_gains v_decoded v_decodes v_readAt v_start v_kind v_word v_letters v_number v_fine v_text v_texted) [(kI, .int), (kB, .byte), (kZ, .boolean)])) (rwQv dC dI (va_A (MWc a kI kB kZ v_tape v_taped v_errorAt v_thrown v_world v_aside v_undone v_slots v_isKept v_undos v_seenPrefix v_seenLast v_seen v_previous v_gained v_gains v_decoded v_decodes v_readAt v_start v_kind v_word v_letters v_number v_fine v_text v_texted) sz) (MWc a kI kB kZ v_tape v_taped v_errorAt v_thrown v_world v_aside v_undone v_slots v_isKept v_undos v_seenPrefix v_seenLast v_seen v_previous v_gained v_gains z.1 z.2 v_readAt v_start v_kind v_word v_letters v_number v_fine v_text v_texted)) 0 0 (va_A (MWc a kI kB kZ v_tape v_taped v_errorAt v_thrown v_world v_aside v_undone v_slots v_isKept v_undos v_seenPrefix v_seenLast v_seen v_previous v_gained v_gains v_decoded v_decodes v_readAt v_start v_kind v_word v_letters v_number v_fine v_text v_texted) sz) := by
  refine rw_start (Qc := fun A => rwQv dC dI A (MWc a kI kB kZ v_tape v_taped v_errorAt v_thrown v_world v_aside v_undone v_slots v_isKept v_undos v_seenPrefix v_seenLast v_seen v_previous v_gained v_gains z.1 z.2 v_readAt v_start v_kind v_word v_letters v_number v_fine v_text v_texted)) (cc := cX8_keepsDecoded) (maxL := 2) (ret := none) (by decide) rfl (Nat.le_of_ble_eq_true rfl) ?_
  intro p e s m args below meth c hx hb hr hml hown hts hlocks hNW hK A hA H locs ls hP hD hS hl
  have hown : s.vm.findClass RX8 = some m.cls := hown
  have hl : lv_has ls 2 [(0, .ref (a 0))] := hl
  unfold J_X8_keepsDecoded at hJ
  have L10 : ∀ (n : Nat) (v_decoded : Nat → Int32) (v_decodes : Int32) (y1 : Int32) (H : Heap) (locs : List Loc) (ls : Array Slot), va_P (dC, dI) vwCl (MWc a kI kB kZ v_tape v_taped v_errorAt v_thrown v_world v_aside v_undone v_slots v_isKept v_undos v_seenPrefix v_seenLast v_seen v_previous v_gained v_gains v_decoded v_decodes v_readAt v_start v_kind v_word v_letters v_number v_fine v_text v_texted) H → va_D A (MWc a kI kB kZ v_tape v_taped v_errorAt v_thrown v_world v_aside v_undone v_slots v_isKept v_undos v_seenPrefix v_seenLast v_seen v_previous v_gained v_gains v_decoded v_decodes v_readAt v_start v_kind v_word v_letters v_number v_fine v_text v_texted) → va_S A s.heap H locs → lv_has ls 2 [(0, .ref (a 0)), (1, .int y1)] → J_X8_keepsDecoded_b10 fu v_gained v_gains n v_decoded v_decodes y1 = some z → W p l e ({ frames := 0, cells := 0, slots := 0, locals := 0 }) s m args below meth c H locs 0 0 (MQ below (rwQv dC dI A (MWc a kI kB kZ v_tape v_taped v_errorAt v_thrown v_world v_aside v_undone v_slots v_isKept v_undos v_seenPrefix v_seenLast v_seen v_previous v_gained v_gains z.1 z.2 v_readAt v_start v_kind v_word v_letters v_number v_fine v_text v_texted)) args s 0 0 (A)) (F0 m 10 ls []) := by
    intro n
    induction n with
    | zero =>
      intro v_decoded v_decodes y1 H locs ls hP hD hS hl hJ
      rw [J_X8_keepsDecoded_b10] at hJ; cases hJ
    | succ n ih =>
      intro v_decoded v_decodes y1 H locs ls hP hD hS hl hJ
      rw [J_X8_keepsDecoded_b10] at hJ
      refine lv_iload_n hx hb dX8_keepsDecoded_10 rfl (lv_at hl 1 rfl) ?_
      refine lv_aload_n hx hb dX8_keepsDecoded_11 rfl (lv_at hl 0 rfl) ?_
      refine va_get (D := (dC, dI)) (ci := 8) (v := .int v_decodes) (C := RX8) (T := TX8) (N := 27) hx hb hts (fun _ h => List.mem_cons_of_mem _ (List.mem_append_right _ h)) hown hK hP 0 rfl rfl 17 (by decide) (hts _ (List.mem_of_getElem? (i := 2) rfl)) (fun _ h9 => h9) rfl dX8_keepsDecoded_12 ?_
      refine lv_icmp_ge (tgt := 36) hx hb dX8_keepsDecoded_15 (by decide) (fun c1 => ?_) (fun c1 => ?_)
      · have hJ := ite_t c1 hJ
        obtain rfl := Option.some.inj hJ
        exact rw_vret hx hb hr hlocks hP hD hS dX8_keepsDecoded_36
      · have hJ := ite_f c1 hJ
        refine lv_aload_n hx hb dX8_keepsDecoded_18 rfl (lv_at hl 0 rfl) ?_
        refine va_get (D := (dC, dI)) (ci := 8) (v := .ref (a 10)) (C := RX8) (T := TX8) (N := 27) hx hb hts (fun _ h => List.mem_cons_of_mem _ (List.mem_append_right _ h)) hown hK hP 0 rfl rfl 16 (by decide) (hts _ (List.mem_of_getElem? (i := 3) rfl)) (fun _ h9 => h9) rfl dX8_keepsDecoded_19 ?_
        refine lv_iload_n hx hb dX8_keepsDecoded_22 rfl (lv_at hl 1 rfl) ?_
        refine lv_aload_n hx hb dX8_keepsDecoded_23 rfl (lv_at hl 0 rfl) ?_
        refine va_get (D := (dC, dI)) (ci := 8) (v := .ref (a 9)) (C := RX8) (T := TX8) (N := 27) hx hb hts (fun _ h => List.mem_cons_of_mem _ (List.mem_append_right _ h)) hown hK hP 0 rfl rfl 14 (by decide) (hts _ (List.mem_of_getElem? (i := 4) rfl)) (fun _ h9 => h9) rfl dX8_keepsDecoded_24 ?_
        refine lv_iload_n hx hb dX8_keepsDecoded_27 rfl (lv_at hl 1 rfl) ?_
        obtain ⟨z2, e3, hJ⟩ := bnd hJ
        refine rd_int (n := 400) (f := v_gained) hx hb hK hP 9 0 rfl rfl e3 dX8_keepsDecoded_28 ?_
        obtain ⟨g4, e5, hJ⟩ := bnd hJ
        refine wr_int (n := 400) (f := v_decoded) (x := z2) hx hb hK hP hD hS 10 0 rfl rfl e5 dX8_keepsDecoded_29 (fun H locs hP hD hS => ?_)
        have hP : va_P (dC, dI) vwCl (MWc a kI kB kZ v_tape v_taped v_errorAt v_thrown v_world v_aside v_undone v_slots v_isKept v_undos v_seenPrefix v_seenLast v_seen v_previous v_gained v_gains g4 v_decodes v_readAt v_start v_kind v_word v_letters v_number v_fine v_text v_texted) H := hP
        have hD : va_D A (MWc a kI kB kZ v_tape v_taped v_errorAt v_thrown v_world v_aside v_undone v_slots v_isKept v_undos v_seenPrefix v_seenLast v_seen v_previous v_gained v_gains g4 v_decodes v_readAt v_start v_kind v_word v_letters v_number v_fine v_text v_texted) := hD
        refine lv_iinc (v := y1 + 1) (lv' := [(1, .int (y1 + 1)), (0, .ref (a 0))]) hx hb dX8_keepsDecoded_30 hl (k := 1) rfl rfl (by decide) rfl (fun ls hl => ?_)
        refine lv_goto (tgt := 10) hx hb dX8_keepsDecoded_33 (by decide) ?_
        exact ih g4 v_decodes (y1 + 1) H locs ls hP hD hS (lv_sub hl [1, 0] rfl) hJ
  refine lv_aload_n hx hb dX8_keepsDecoded_0 rfl (lv_at hl 0 rfl) ?_
  refine lv_aload_n hx hb dX8_keepsDecoded_1 rfl (lv_at hl 0 rfl) ?_
  refine va_get (D := (dC, dI)) (ci := 8) (v := .int v_gains) (C := RX8) (T := TX8) (N := 27) hx hb hts (fun _ h => List.mem_cons_of_mem _ (List.mem_append_right _ h)) hown hK hP 0 rfl rfl 15 (by decide) (hts _ (List.mem_of_getElem? (i := 1) rfl)) (fun _ h9 => h9) rfl dX8_keepsDecoded_2 ?_
  refine va_put (D := (dC, dI)) (ci := 8) (v := .int v_gains) (ty := .int) (C := RX8) (T := TX8) (N := 27) hx hb hts (fun _ h => List.mem_cons_of_mem _ (List.mem_append_right _ h)) tyX8 tyX8_ok nmX8 hown hK hP hD hS 0 rfl rfl 17 (by decide) (hts _ (List.mem_of_getElem? (i := 2) rfl)) (fun _ h9 => h9) rfl (by decide +kernel) rfl rfl (Nat.le_of_ble_eq_true rfl) dX8_keepsDecoded_5 (fun H locs hP hD hS => ?_)
  have hP : va_P (dC, dI) vwCl (MWc a kI kB kZ v_tape v_taped v_errorAt v_thrown v_world v_aside v_undone v_slots v_isKept v_undos v_seenPrefix v_seenLast v_seen v_previous v_gained v_gains v_decoded v_gains v_readAt v_start v_kind v_word v_letters v_number v_fine v_text v_texted) H := hP
  have hD : va_D A (MWc a kI kB kZ v_tape v_taped v_errorAt v_thrown v_world v_aside v_undone v_slots v_isKept v_undos v_seenPrefix v_seenLast v_seen v_previous v_gained v_gains v_decoded v_gains v_readAt v_start v_kind v_word v_letters v_number v_fine v_text v_texted) := hD
  refine lv_iconst (v := 0) hx hb dX8_keepsDecoded_8 (by decide) ?_
  refine lv_istore_n (lv' := [(1, .int (0 : Int32)), (0, .ref (a 0))]) hx hb dX8_keepsDecoded_9 rfl hl (by decide) rfl (fun ls hl => ?_)
  exact L10 fu v_decoded v_gains (0 : Int32) H locs ls hP hD hS (lv_sub hl [1, 0] rfl) hJ
theorem qX8_decode : (yX8_decode.cls = RX8) ∧ yX8_decode.cls ≠ "java/lang/invoke/MethodHandle" ∧ yX8_decode.cls ≠ "java/lang/invoke/VarHandle" ∧ (parseMethodDescriptor yX8_decode.desc).map (fun d => d.parameters.length) = some 0 := by decide +kernel
set_option maxHeartbeats 4000000 in
set_option maxRecDepth 100000 in
theorem c_X8_decode (fu : Nat) (l : Launch) (dC : Nat → ClassId) (dI : Nat → Nat → Nat) (kI kB kZ : ClassId) (a : Nat → Nat) (v_tape : Nat → Int32) (v_taped : Int32) (v_errorAt : Int32) (v_thrown : Int32) (v_world : Nat → Int32) (v_aside : Nat → Int32) (v_undone : Nat → Int32) (v_slots : Nat → Int32) (v_isKept : Nat → Int32) (v_undos : Int32) (v_seenPrefix : Nat → Int32) (v_seenLast : Nat → Int32) (v_seen : Int32) (v_previous : Int32) (v_gained : Nat → Int32) (v_gains : Int32) (v_decoded : Nat → Int32) (v_decodes : Int32) (v_readAt : Int32) (v_start : Int32) (v_kind : Int32) (v_word : Int64) (v_letters : Int32) (v_number : Int32) (v_fine : Int32) (v_text : Nat → Int32) (v_texted : Int32) (sz : Nat) (z : Int32 × Int32 × Int32 × Int32 × (Nat → Int32) × (Nat → Int32) × Int32 × Int32 × (Nat → Int32) × Int32 × (Nat → Int32) × Int32 × Int32 × Int32 × Int32 × Int64 × Int32 × Int32 × Int32) (hJ : J_X8_decode fu v_tape v_taped v_errorAt v_thrown v_world v_seenPrefix v_seenLast v_seen v_previous v_gained v_gains v_decoded v_decodes v_readAt v_start v_kind v_word v_letters v_number v_fine = some z) : Met l yX8_decode wsX8_decode ({ frames := 5, cells := 0, slots := 0, locals := 110 }) (va_Pc [.ref (a 0)] (RWp dC dI sz (MWc a kI kB kZ v_tape v_taped v_errorAt v_thrown v_world v_aside v_undone v_slots v_isKept v_undos v_seenPrefix v_seenLast v_seen v_previous v_gained v_gains v_decoded v_decodes v_readAt v_start v_kind v_word v_letters v_number v_fine v_text v_texted) [(kI, .int), (kB, .byte), (kZ, .boolean)])) (rwQi dC dI (va_A (MWc a kI kB kZ v_tape v_taped v_errorAt v_thrown v_world v_aside v_undone v_slots v_isKept v_undos v_seenPrefix v_seenLast v_seen v_previous v_gained v_gains v_decoded v_decodes v_readAt v_start v_kind v_word v_letters v_number v_fine v_text v_texted) sz) (MWc a kI kB kZ v_tape z.2.1 z.2.2.1 z.2.2.2.1 v_world v_aside v_undone v_slots v_isKept v_undos z.2.2.2.2.1 z.2.2.2.2.2.1 z.2.2.2.2.2.2.1 z.2.2.2.2.2.2.2.1 z.2.2.2.2.2.2.2.2.1 z.2.2.2.2.2.2.2.2.2.1 z.2.2.2.2.2.2.2.2.2.2.1 z.2.2.2.2.2.2.2.2.2.2.2.1 z.2.2.2.2.2.2.2.2.2.2.2.2.1 z.2.2.2.2.2.2.2.2.2.2.2.2.2.1 z.2.2.2.2.2.2.2.2.2.2.2.2.2.2.1 z.2.2.2.2.2.2.2.2.2.2.2.2.2.2.2.1 z.2.2.2.2.2.2.2.2.2.2.2.2.2.2.2.2.1 z.2.2.2.2.2.2.2.2.2.2.2.2.2.2.2.2.2.1 z.2.2.2.2.2.2.2.2.2.2.2.2.2.2.2.2.2.2 v_text v_texted) z.1) 0 0 (va_A (MWc a kI kB kZ v_tape v_taped v_errorAt v_thrown v_world v_aside v_undone v_slots v_isKept v_undos v_seenPrefix v_seenLast v_seen v_previous v_gained v_gains v_decoded v_decodes v_readAt v_start v_kind v_word v_letters v_number v_fine v_text v_texted) sz) := by
  refine rw_start (Qc := fun A => rwQi dC dI A (MWc a kI kB kZ v_tape z.2.1 z.2.2.1 z.2.2.2.1 v_world v_aside v_undone v_slots v_isKept v_undos z.2.2.2.2.1 z.2.2.2.2.2.1 z.2.2.2.2.2.2.1 z.2.2.2.2.2.2.2.1 z.2.2.2.2.2.2.2.2.1 z.2.2.2.2.2.2.2.2.2.1 z.2.2.2.2.2.2.2.2.2.2.1 z.2.2.2.2.2.2.2.2.2.2.2.1 z.2.2.2.2.2.2.2.2.2.2.2.2.1 z.2.2.2.2.2.2.2.2.2.2.2.2.2.1 z.2.2.2.2.2.2.2.2.2.2.2.2.2.2.1 z.2.2.2.2.2.2.2.2.2.2.2.2.2.2.2.1 z.2.2.2.2.2.2.2.2.2.2.2.2.2.2.2.2.1 z.2.2.2.2.2.2.2.2.2.2.2.2.2.2.2.2.2.1 z.2.2.2.2.2.2.2.2.2.2.2.2.2.2.2.2.2.2 v_text v_texted) z.1) (cc := cX8_decode) (maxL := 1) (ret := (some .int)) (by decide) rfl (Nat.le_of_ble_eq_true rfl) ?_
  intro p e s m args below meth c hx hb hr hml hown hts hlocks hNW hK A hA H locs ls hP hD hS hl
  have hown : s.vm.findClass RX8 = some m.cls := hown
  have hl : lv_has ls 1 [(0, .ref (a 0))] := hl
  unfold J_X8_decode at hJ
  have L53 : ∀ (v_taped : Int32) (v_errorAt : Int32) (v_thrown : Int32) (v_seenPrefix : Nat → Int32) (v_seenLast : Nat → Int32) (v_seen : Int32) (v_previous : Int32) (v_gained : Nat → Int32) (v_gains : Int32) (v_decoded : Nat → Int32) (v_decodes : Int32) (v_readAt : Int32) (v_start : Int32) (v_kind : Int32) (v_word : Int64) (v_letters : Int32) (v_number : Int32) (v_fine : Int32) (H : Heap) (locs : List Loc) (ls : Array Slot), va_P (dC, dI) vwCl (MWc a kI kB kZ v_tape v_taped v_errorAt v_thrown v_world v_aside v_undone v_slots v_isKept v_undos v_seenPrefix v_seenLast v_seen v_previous v_gained v_gains v_decoded v_decodes v_readAt v_start v_kind v_word v_letters v_number v_fine v_text v_texted) H → va_D A (MWc a kI kB kZ v_tape v_taped v_errorAt v_thrown v_world v_aside v_undone v_slots v_isKept v_undos v_seenPrefix v_seenLast v_seen v_previous v_gained v_gains v_decoded v_decodes v_readAt v_start v_kind v_word v_letters v_number v_fine v_text v_texted) → va_S A s.heap H locs → lv_has ls 1 [(0, .ref (a 0))] → J_X8_decode_b53 fu v_tape v_world v_taped v_errorAt v_thrown v_seenPrefix v_seenLast v_seen v_previous v_gained v_gains v_decoded v_decodes v_readAt v_start v_kind v_word v_letters v_number v_fine = some z → W p l e ({ frames := 5, cells := 0, slots := 0, locals := 110 }) s m args below meth c H locs 0 0 (MQ below (rwQi dC dI A (MWc a kI kB kZ v_tape z.2.1 z.2.2.1 z.2.2.2.1 v_world v_aside v_undone v_slots v_isKept v_undos z.2.2.2.2.1 z.2.2.2.2.2.1 z.2.2.2.2.2.2.1 z.2.2.2.2.2.2.2.1 z.2.2.2.2.2.2.2.2.1 z.2.2.2.2.2.2.2.2.2.1 z.2.2.2.2.2.2.2.2.2.2.1 z.2.2.2.2.2.2.2.2.2.2.2.1 z.2.2.2.2.2.2.2.2.2.2.2.2.1 z.2.2.2.2.2.2.2.2.2.2.2.2.2.1 z.2.2.2.2.2.2.2.2.2.2.2.2.2.2.1 z.2.2.2.2.2.2.2.2.2.2.2.2.2.2.2.1 z.2.2.2.2.2.2.2.2.2.2.2.2.2.2.2.2.1 z.2.2.2.2.2.2.2.2.2.2.2.2.2.2.2.2.2.1 z.2.2.2.2.2.2.2.2.2.2.2.2.2.2.2.2.2.2 v_text v_texted) z.1) args s 0 0 (A)) (F0 m 53 ls []) := by
    intro v_taped v_errorAt v_thrown v_seenPrefix v_seenLast v_seen v_previous v_gained v_gains v_decoded v_decodes v_readAt v_start v_kind v_word v_letters v_number v_fine H locs ls hP hD hS hl hJ
    unfold J_X8_decode_b53 at hJ
    refine lv_aload_n hx hb dX8_decode_53 rfl (lv_at hl 0 rfl) ?_
    refine lv_iconst (v := 0) hx hb dX8_decode_54 (by decide) ?_
    refine va_put (D := (dC, dI)) (ci := 8) (v := .int (0 : Int32)) (ty := .int) (C := RX8) (T := TX8) (N := 27) hx hb hts (fun _ h => List.mem_cons_of_mem _ (List.mem_append_right _ h)) tyX8 tyX8_ok nmX8 hown hK hP hD hS 0 rfl rfl 1 (by decide) (hts _ (List.mem_of_getElem? (i := 4) rfl)) (fun _ h9 => h9) rfl (by decide +kernel) rfl rfl (Nat.le_of_ble_eq_true rfl) dX8_decode_55 (fun H locs hP hD hS => ?_)
    have hP : va_P (dC, dI) vwCl (MWc a kI kB kZ v_tape (0 : Int32) v_errorAt v_thrown v_world v_aside v_undone v_slots v_isKept v_undos v_seenPrefix v_seenLast v_seen v_previous v_gained v_gains v_decoded v_decodes v_readAt v_start v_kind v_word v_letters v_number v_fine v_text v_texted) H := hP
    have hD : va_D A (MWc a kI kB kZ v_tape (0 : Int32) v_errorAt v_thrown v_world v_aside v_undone v_slots v_isKept v_undos v_seenPrefix v_seenLast v_seen v_previous v_gained v_gains v_decoded v_decodes v_readAt v_start v_kind v_word v_letters v_number v_fine v_text v_texted) := hD
    refine lv_aload_n hx hb dX8_decode_58 rfl (lv_at hl 0 rfl) ?_
    refine va_get (D := (dC, dI)) (ci := 8) (v := .int v_fine) (C := RX8) (T := TX8) (N := 27) hx hb hts (fun _ h => List.mem_cons_of_mem _ (List.mem_append_right _ h)) hown hK hP 0 rfl rfl 24 (by decide) (hts _ (List.mem_of_getElem? (i := 1) rfl)) (fun _ h9 => h9) rfl dX8_decode_59 ?_
    refine lv_if_ne (tgt := 71) hx hb dX8_decode_62 (by decide) (fun c17 => ?_) (fun c17 => ?_)
    · have hJ := ite_f c17 hJ
      refine lv_aload_n hx hb dX8_decode_71 rfl (lv_at hl 0 rfl) ?_
      obtain ⟨z18, e19, hJ⟩ := bnd hJ
      refine rwVvW (As := []) (rest := []) (ci := 8) (q0 := 0) hx hb hml hown hts (c_X8_keepsDecoded fu l dC dI kI kB kZ a v_tape (0 : Int32) v_errorAt v_thrown v_world v_aside v_undone v_slots v_isKept v_undos v_seenPrefix v_seenLast v_seen v_previous v_gained v_gains v_decoded v_decodes v_readAt v_start v_kind v_word v_letters v_number v_fine v_text v_texted H.size z18 e19) gX8_decode_X8_keepsDecoded qX8_keepsDecoded rfl ⟨Nat.le_of_ble_eq_true rfl, Nat.le_of_ble_eq_true rfl⟩ ⟨rfl, rfl⟩ hNW hK hP hD hS hA hK rfl rfl rfl hl.1 rfl rfl (Nat.le_of_ble_eq_true rfl) dX8_decode_72 z0 (fun H locs hP hD hS => ?_)
      refine lv_aload_n hx hb dX8_decode_75 rfl (lv_at hl 0 rfl) ?_
      refine lv_aload_n hx hb dX8_decode_76 rfl (lv_at hl 0 rfl) ?_
      refine va_get (D := (dC, dI)) (ci := 8) (v := .int z18.2) (C := RX8) (T := TX8) (N := 27) hx hb hts (fun _ h => List.mem_cons_of_mem _ (List.mem_append_right _ h)) hown hK hP 0 rfl rfl 17 (by decide) (hts _ (List.mem_of_getElem? (i := 5) rfl)) (fun _ h9 => h9) rfl dX8_decode_77 ?_
      obtain ⟨z20, e21, hJ⟩ := bnd hJ
      refine rwViW (As := [.int z18.2]) (rest := []) (ci := 8) (q0 := 0) hx hb hml hown hts (c_X8_told l dC dI kI kB kZ a v_tape (0 : Int32) v_errorAt v_thrown v_world v_aside v_undone v_slots v_isKept v_undos v_seenPrefix v_seenLast v_seen v_previous v_gained v_gains z18.1 z18.2 v_readAt v_start v_kind v_word v_letters v_number v_fine v_text v_texted z18.2 H.size z20 e21) gX8_decode_X8_told qX8_told rfl ⟨Nat.le_of_ble_eq_true rfl, Nat.le_of_ble_eq_true rfl⟩ ⟨rfl, rfl⟩ hNW hK hP hD hS hA hK rfl rfl rfl hl.1 rfl rfl (Nat.le_of_ble_eq_true rfl) dX8_decode_80 z0 (fun H locs hP hD hS => ?_)
      obtain rfl := Option.some.inj hJ
      exact rw_iret hx hb hr hlocks rfl hP hD hS dX8_decode_83
    · have hJ := ite_t c17 hJ
      refine lv_aload_n hx hb dX8_decode_65 rfl (lv_at hl 0 rfl) ?_
      refine lv_iconst (v := 1) hx hb dX8_decode_66 (by decide) ?_
      obtain ⟨z22, e23, hJ⟩ := bnd hJ
      refine rwViW (As := [.int (1 : Int32)]) (rest := []) (ci := 8) (q0 := 0) hx hb hml hown hts (c_X8_throwing l dC dI kI kB kZ a v_tape (0 : Int32) v_errorAt v_thrown v_world v_aside v_undone v_slots v_isKept v_undos v_seenPrefix v_seenLast v_seen v_previous v_gained v_gains v_decoded v_decodes v_readAt v_start v_kind v_word v_letters v_number v_fine v_text v_texted (1 : Int32) H.size z22 e23) gX8_decode_X8_throwing qX8_throwing rfl ⟨Nat.le_of_ble_eq_true rfl, Nat.le_of_ble_eq_true rfl⟩ ⟨rfl, rfl⟩ hNW hK hP hD hS hA hK rfl rfl rfl hl.1 rfl rfl (Nat.le_of_ble_eq_true rfl) dX8_decode_67 z0 (fun H locs hP hD hS => ?_)
      obtain rfl := Option.some.inj hJ
      exact rw_iret hx hb hr hlocks rfl hP hD hS dX8_decode_70
  have L8 : ∀ (n : Nat) (v_taped : Int32) (v_errorAt : Int32) (v_thrown : Int32) (v_seenPrefix : Nat → Int32) (v_seenLast : Nat → Int32) (v_seen : Int32) (v_previous : Int32) (v_gained : Nat → Int32) (v_gains : Int32) (v_decoded : Nat → Int32) (v_decodes : Int32) (v_readAt : Int32) (v_start : Int32) (v_kind : Int32) (v_word : Int64) (v_letters : Int32) (v_number : Int32) (v_fine : Int32) (H : Heap) (locs : List Loc) (ls : Array Slot), va_P (dC, dI) vwCl (MWc a kI kB kZ v_tape v_taped v_errorAt v_thrown v_world v_aside v_undone v_slots v_isKept v_undos v_seenPrefix v_seenLast v_seen v_previous v_gained v_gains v_decoded v_decodes v_readAt v_start v_kind v_word v_letters v_number v_fine v_text v_texted) H → va_D A (MWc a kI kB kZ v_tape v_taped v_errorAt v_thrown v_world v_aside v_undone v_slots v_isKept v_undos v_seenPrefix v_seenLast v_seen v_previous v_gained v_gains v_decoded v_decodes v_readAt v_start v_kind v_word v_letters v_number v_fine v_text v_texted) → va_S A s.heap H locs → lv_has ls 1 [(0, .ref (a 0))] → J_X8_decode_b8 fu v_tape v_world n v_taped v_errorAt v_thrown v_seenPrefix v_seenLast v_seen v_previous v_gained v_gains v_decoded v_decodes v_readAt v_start v_kind v_word v_letters v_number v_fine = some z → W p l e ({ frames := 5, cells := 0, slots := 0, locals := 110 }) s m args below meth c H locs 0 0 (MQ below (rwQi dC dI A (MWc a kI kB kZ v_tape z.2.1 z.2.2.1 z.2.2.2.1 v_world v_aside v_undone v_slots v_isKept v_undos z.2.2.2.2.1 z.2.2.2.2.2.1 z.2.2.2.2.2.2.1 z.2.2.2.2.2.2.2.1 z.2.2.2.2.2.2.2.2.1 z.2.2.2.2.2.2.2.2.2.1 z.2.2.2.2.2.2.2.2.2.2.1 z.2.2.2.2.2.2.2.2.2.2.2.1 z.2.2.2.2.2.2.2.2.2.2.2.2.1 z.2.2.2.2.2.2.2.2.2.2.2.2.2.1 z.2.2.2.2.2.2.2.2.2.2.2.2.2.2.1 z.2.2.2.2.2.2.2.2.2.2.2.2.2.2.2.1 z.2.2.2.2.2.2.2.2.2.2.2.2.2.2.2.2.1 z.2.2.2.2.2.2.2.2.2.2.2.2.2.2.2.2.2.1 z.2.2.2.2.2.2.2.2.2.2.2.2.2.2.2.2.2.2 v_text v_texted) z.1) args s 0 0 (A)) (F0 m 8 ls []) := by
    intro n
    induction n with
    | zero =>
      intro v_taped v_errorAt v_thrown v_seenPrefix v_seenLast v_seen v_previous v_gained v_gains v_decoded v_decodes v_readAt v_start v_kind v_word v_letters v_number v_fine H locs ls hP hD hS hl hJ
      rw [J_X8_decode_b8] at hJ; cases hJ
    | succ n ih =>
      intro v_taped v_errorAt v_thrown v_seenPrefix v_seenLast v_seen v_previous v_gained v_gains v_decoded v_decodes v_readAt v_start v_kind v_word v_letters v_number v_fine H locs ls hP hD hS hl hJ
      rw [J_X8_decode_b8] at hJ
      refine lv_aload_n hx hb dX8_decode_8 rfl (lv_at hl 0 rfl) ?_
      refine va_get (D := (dC, dI)) (ci := 8) (v := .int v_fine) (C := RX8) (T := TX8) (N := 27) hx hb hts (fun _ h => List.mem_cons_of_mem _ (List.mem_append_right _ h)) hown hK hP 0 rfl rfl 24 (by decide) (hts _ (List.mem_of_getElem? (i := 1) rfl)) (fun _ h9 => h9) rfl dX8_decode_9 ?_
      refine lv_if_eq (tgt := 53) hx hb dX8_decode_12 (by decide) (fun c5 => ?_) (fun c5 => ?_)
      · have hJ := ite_t c5 hJ
        exact L53 v_taped v_errorAt v_thrown v_seenPrefix v_seenLast v_seen v_previous v_gained v_gains v_decoded v_decodes v_readAt v_start v_kind v_word v_letters v_number v_fine H locs ls hP hD hS (lv_sub hl [0] rfl) hJ
      · have hJ := ite_f c5 hJ
        refine lv_aload_n hx hb dX8_decode_15 rfl (lv_at hl 0 rfl) ?_
        refine va_get (D := (dC, dI)) (ci := 8) (v := .int v_kind) (C := RX8) (T := TX8) (N := 27) hx hb hts (fun _ h => List.mem_cons_of_mem _ (List.mem_append_right _ h)) hown hK hP 0 rfl rfl 20 (by decide) (hts _ (List.mem_of_getElem? (i := 2) rfl)) (fun _ h9 => h9) rfl dX8_decode_16 ?_
        refine lv_if_eq (tgt := 53) hx hb dX8_decode_19 (by decide) (fun c6 => ?_) (fun c6 => ?_)
        · have hJ := ite_t c6 hJ
          exact L53 v_taped v_errorAt v_thrown v_seenPrefix v_seenLast v_seen v_previous v_gained v_gains v_decoded v_decodes v_readAt v_start v_kind v_word v_letters v_number v_fine H locs ls hP hD hS (lv_sub hl [0] rfl) hJ
        · have hJ := ite_f c6 hJ
          refine lv_aload_n hx hb dX8_decode_22 rfl (lv_at hl 0 rfl) ?_
          refine lv_aload_n hx hb dX8_decode_23 rfl (lv_at hl 0 rfl) ?_
          refine va_get (D := (dC, dI)) (ci := 8) (v := .int v_kind) (C := RX8) (T := TX8) (N := 27) hx hb hts (fun _ h => List.mem_cons_of_mem _ (List.mem_append_right _ h)) hown hK hP 0 rfl rfl 20 (by decide) (hts _ (List.mem_of_getElem? (i := 2) rfl)) (fun _ h9 => h9) rfl dX8_decode_24 ?_
          refine lv_iconst (v := 2) hx hb dX8_decode_27 (by decide) ?_
          refine lv_icmp_ne (tgt := 46) hx hb dX8_decode_28 (by decide) (fun c7 => ?_) (fun c7 => ?_)
          · have hJ := ite_f c7 hJ
            refine lv_iconst (v := 0) hx hb dX8_decode_46 (by decide) ?_
            obtain ⟨z8, e9, hJ⟩ := bnd hJ
            refine rwVvW (As := [.int (0 : Int32)]) (rest := []) (ci := 8) (q0 := 0) hx hb hml hown hts (c_X8_accepts fu l dC dI kI kB kZ a v_tape v_taped v_errorAt v_thrown v_world v_aside v_undone v_slots v_isKept v_undos v_seenPrefix v_seenLast v_seen v_previous v_gained v_gains v_decoded v_decodes v_readAt v_start v_kind v_word v_letters v_number v_fine v_text v_texted (0 : Int32) H.size z8 e9) gX8_decode_X8_accepts qX8_accepts rfl ⟨Nat.le_of_ble_eq_true rfl, Nat.le_of_ble_eq_true rfl⟩ ⟨rfl, rfl⟩ hNW hK hP hD hS hA hK rfl rfl rfl hl.1 rfl rfl (Nat.le_of_ble_eq_true rfl) dX8_decode_47 z0 (fun H locs hP hD hS => ?_)
            refine lv_goto (tgt := 8) hx hb dX8_decode_50 (by decide) ?_
            exact ih v_taped z8.1 v_thrown v_seenPrefix v_seenLast v_seen v_previous v_gained v_gains v_decoded v_decodes z8.2.1 z8.2.2.1 z8.2.2.2.1 z8.2.2.2.2.1 z8.2.2.2.2.2.1 z8.2.2.2.2.2.2.1 z8.2.2.2.2.2.2.2 H locs ls hP hD hS (lv_sub hl [0] rfl) hJ
          · have hJ := ite_t c7 hJ
            refine lv_aload_n hx hb dX8_decode_31 rfl (lv_at hl 0 rfl) ?_
            refine lv_aload_n hx hb dX8_decode_32 rfl (lv_at hl 0 rfl) ?_
            refine va_get (D := (dC, dI)) (ci := 8) (v := .int v_number) (C := RX8) (T := TX8) (N := 27) hx hb hts (fun _ h => List.mem_cons_of_mem _ (List.mem_append_right _ h)) hown hK hP 0 rfl rfl 23 (by decide) (hts _ (List.mem_of_getElem? (i := 3) rfl)) (fun _ h9 => h9) rfl dX8_decode_33 ?_
            obtain ⟨z10, e11, hJ⟩ := bnd hJ
            refine rwViW (As := [.int v_number]) (rest := [.ref (a 0)]) (ci := 8) (q0 := 0) hx hb hml hown hts (c_X8_takes fu l dC dI kI kB kZ a v_tape v_taped v_errorAt v_thrown v_world v_aside v_undone v_slots v_isKept v_undos v_seenPrefix v_seenLast v_seen v_previous v_gained v_gains v_decoded v_decodes v_readAt v_start v_kind v_word v_letters v_number v_fine v_text v_texted v_number H.size z10 e11) gX8_decode_X8_takes qX8_takes rfl ⟨Nat.le_of_ble_eq_true rfl, Nat.le_of_ble_eq_true rfl⟩ ⟨rfl, rfl⟩ hNW hK hP hD hS hA hK rfl rfl rfl hl.1 rfl rfl (Nat.le_of_ble_eq_true rfl) dX8_decode_36 z0 (fun H locs hP hD hS => ?_)
            refine lv_if_eq (tgt := 46) hx hb dX8_decode_39 (by decide) (fun c12 => ?_) (fun c12 => ?_)
            · have hJ := ite_t c12 hJ
              refine lv_iconst (v := 0) hx hb dX8_decode_46 (by decide) ?_
              obtain ⟨z13, e14, hJ⟩ := bnd hJ
              refine rwVvW (As := [.int (0 : Int32)]) (rest := []) (ci := 8) (q0 := 0) hx hb hml hown hts (c_X8_accepts fu l dC dI kI kB kZ a v_tape v_taped v_errorAt v_thrown v_world v_aside v_undone v_slots v_isKept v_undos z10.2.1 z10.2.2.1 z10.2.2.2.1 z10.2.2.2.2.1 z10.2.2.2.2.2.1 z10.2.2.2.2.2.2 v_decoded v_decodes v_readAt v_start v_kind v_word v_letters v_number v_fine v_text v_texted (0 : Int32) H.size z13 e14) gX8_decode_X8_accepts qX8_accepts rfl ⟨Nat.le_of_ble_eq_true rfl, Nat.le_of_ble_eq_true rfl⟩ ⟨rfl, rfl⟩ hNW hK hP hD hS hA hK rfl rfl rfl hl.1 rfl rfl (Nat.le_of_ble_eq_true rfl) dX8_decode_47 z0 (fun H locs hP hD hS => ?_)
              refine lv_goto (tgt := 8) hx hb dX8_decode_50 (by decide) ?_
              exact ih v_taped z13.1 v_thrown z10.2.1 z10.2.2.1 z10.2.2.2.1 z10.2.2.2.2.1 z10.2.2.2.2.2.1 z10.2.2.2.2.2.2 v_decoded v_decodes z13.2.1 z13.2.2.1 z13.2.2.2.1 z13.2.2.2.2.1 z13.2.2.2.2.2.1 z13.2.2.2.2.2.2.1 z13.2.2.2.2.2.2.2 H locs ls hP hD hS (lv_sub hl [0] rfl) hJ
            · have hJ := ite_f c12 hJ
              refine lv_iconst (v := 1) hx hb dX8_decode_42 (by decide) ?_
              refine lv_goto (tgt := 47) hx hb dX8_decode_43 (by decide) ?_
              obtain ⟨z15, e16, hJ⟩ := bnd hJ
              refine rwVvW (As := [.int (1 : Int32)]) (rest := []) (ci := 8) (q0 := 0) hx hb hml hown hts (c_X8_accepts fu l dC dI kI kB kZ a v_tape v_taped v_errorAt v_thrown v_world v_aside v_undone v_slots v_isKept v_undos z10.2.1 z10.2.2.1 z10.2.2.2.1 z10.2.2.2.2.1 z10.2.2.2.2.2.1 z10.2.2.2.2.2.2 v_decoded v_decodes v_readAt v_start v_kind v_word v_letters v_number v_fine v_text v_texted (1 : Int32) H.size z15 e16) gX8_decode_X8_accepts qX8_accepts rfl ⟨Nat.le_of_ble_eq_true rfl, Nat.le_of_ble_eq_true rfl⟩ ⟨rfl, rfl⟩ hNW hK hP hD hS hA hK rfl rfl rfl hl.1 rfl rfl (Nat.le_of_ble_eq_true rfl) dX8_decode_47 z0 (fun H locs hP hD hS => ?_)
              refine lv_goto (tgt := 8) hx hb dX8_decode_50 (by decide) ?_
              exact ih v_taped z15.1 v_thrown z10.2.1 z10.2.2.1 z10.2.2.2.1 z10.2.2.2.2.1 z10.2.2.2.2.2.1 z10.2.2.2.2.2.2 v_decoded v_decodes z15.2.1 z15.2.2.1 z15.2.2.2.1 z15.2.2.2.2.1 z15.2.2.2.2.2.1 z15.2.2.2.2.2.2.1 z15.2.2.2.2.2.2.2 H locs ls hP hD hS (lv_sub hl [0] rfl) hJ
  refine lv_aload_n hx hb dX8_decode_0 rfl (lv_at hl 0 rfl) ?_
  obtain ⟨z1, e2, hJ⟩ := bnd hJ
  refine rwVvW (As := []) (rest := []) (ci := 8) (q0 := 0) hx hb hml hown hts (c_X8_startsReading fu l dC dI kI kB kZ a v_tape v_taped v_errorAt v_thrown v_world v_aside v_undone v_slots v_isKept v_undos v_seenPrefix v_seenLast v_seen v_previous v_gained v_gains v_decoded v_decodes v_readAt v_start v_kind v_word v_letters v_number v_fine v_text v_texted H.size z1 e2) gX8_decode_X8_startsReading qX8_startsReading rfl ⟨Nat.le_of_ble_eq_true rfl, Nat.le_of_ble_eq_true rfl⟩ ⟨rfl, rfl⟩ hNW hK hP hD hS hA hK rfl rfl rfl hl.1 rfl rfl (Nat.le_of_ble_eq_true rfl) dX8_decode_1 z0 (fun H locs hP hD hS => ?_)
  refine lv_aload_n hx hb dX8_decode_4 rfl (lv_at hl 0 rfl) ?_
  obtain ⟨z3, e4, hJ⟩ := bnd hJ
  refine rwVvW (As := []) (rest := []) (ci := 8) (q0 := 0) hx hb hml hown hts (c_X8_startsDecoder l dC dI kI kB kZ a v_tape v_taped z1.1 v_thrown v_world v_aside v_undone v_slots v_isKept v_undos v_seenPrefix v_seenLast v_seen v_previous v_gained v_gains v_decoded v_decodes z1.2.1 z1.2.2.1 z1.2.2.2.1 z1.2.2.2.2.1 z1.2.2.2.2.2.1 z1.2.2.2.2.2.2.1 z1.2.2.2.2.2.2.2 v_text v_texted H.size z3 e4) gX8_decode_X8_startsDecoder qX8_startsDecoder rfl ⟨Nat.le_of_ble_eq_true rfl, Nat.le_of_ble_eq_true rfl⟩ ⟨rfl, rfl⟩ hNW hK hP hD hS hA hK rfl rfl rfl hl.1 rfl rfl (Nat.le_of_ble_eq_true rfl) dX8_decode_5 z0 (fun H locs hP hD hS => ?_)
  exact L8 fu v_taped z1.1 v_thrown v_seenPrefix v_seenLast z3.1 z3.2.1 v_gained z3.2.2 v_decoded v_decodes z1.2.1 z1.2.2.1 z1.2.2.2.1 z1.2.2.2.2.1 z1.2.2.2.2.2.1 z1.2.2.2.2.2.2.1 z1.2.2.2.2.2.2.2 H locs ls hP hD hS (lv_sub hl [0] rfl) hJ
theorem qX8_errorPosition : (yX8_errorPosition.cls = RX8) ∧ yX8_errorPosition.cls ≠ "java/lang/invoke/MethodHandle" ∧ yX8_errorPosition.cls ≠ "java/lang/invoke/VarHandle" ∧ (parseMethodDescriptor yX8_errorPosition.desc).map (fun d => d.parameters.length) = some 0 := by decide +kernel
set_option maxHeartbeats 4000000 in
set_option maxRecDepth 100000 in
theorem c_X8_errorPosition (l : Launch) (dC : Nat → ClassId) (dI : Nat → Nat → Nat) (kI kB kZ : ClassId) (a : Nat → Nat) (v_tape : Nat → Int32) (v_taped : Int32) (v_errorAt : Int32) (v_thrown : Int32) (v_world : Nat → Int32) (v_aside : Nat → Int32) (v_undone : Nat → Int32) (v_slots : Nat → Int32) (v_isKept : Nat → Int32) (v_undos : Int32) (v_seenPrefix : Nat → Int32) (v_seenLast : Nat → Int32) (v_seen : Int32) (v_previous : Int32) (v_gained : Nat → Int32) (v_gains : Int32) (v_decoded : Nat → Int32) (v_decodes : Int32) (v_readAt : Int32) (v_start : Int32) (v_kind : Int32) (v_word : Int64) (v_letters : Int32) (v_number : Int32) (v_fine : Int32) (v_text : Nat → Int32) (v_texted : Int32) (sz : Nat) (z : Int32 × Int32) (hJ : J_X8_errorPosition v_errorAt v_thrown = some z) : Met l yX8_errorPosition wsX8_errorPosition ({ frames := 1, cells := 0, slots := 0, locals := 21 }) (va_Pc [.ref (a 0)] (RWp dC dI sz (MWc a kI kB kZ v_tape v_taped v_errorAt v_thrown v_world v_aside v_undone v_slots v_isKept v_undos v_seenPrefix v_seenLast v_seen v_previous v_gained v_gains v_decoded v_decodes v_readAt v_start v_kind v_word v_letters v_number v_fine v_text v_texted) [(kI, .int), (kB, .byte), (kZ, .boolean)])) (rwQi dC dI (va_A (MWc a kI kB kZ v_tape v_taped v_errorAt v_thrown v_world v_aside v_undone v_slots v_isKept v_undos v_seenPrefix v_seenLast v_seen v_previous v_gained v_gains v_decoded v_decodes v_readAt v_start v_kind v_word v_letters v_number v_fine v_text v_texted) sz) (MWc a kI kB kZ v_tape v_taped v_errorAt z.2 v_world v_aside v_undone v_slots v_isKept v_undos v_seenPrefix v_seenLast v_seen v_previous v_gained v_gains v_decoded v_decodes v_readAt v_start v_kind v_word v_letters v_number v_fine v_text v_texted) z.1) 0 0 (va_A (MWc a kI kB kZ v_tape v_taped v_errorAt v_thrown v_world v_aside v_undone v_slots v_isKept v_undos v_seenPrefix v_seenLast v_seen v_previous v_gained v_gains v_decoded v_decodes v_readAt v_start v_kind v_word v_letters v_number v_fine v_text v_texted) sz) := by
  refine rw_start (Qc := fun A => rwQi dC dI A (MWc a kI kB kZ v_tape v_taped v_errorAt z.2 v_world v_aside v_undone v_slots v_isKept v_undos v_seenPrefix v_seenLast v_seen v_previous v_gained v_gains v_decoded v_decodes v_readAt v_start v_kind v_word v_letters v_number v_fine v_text v_texted) z.1) (cc := cX8_errorPosition) (maxL := 1) (ret := (some .int)) (by decide) rfl (Nat.le_of_ble_eq_true rfl) ?_
  intro p e s m args below meth c hx hb hr hml hown hts hlocks hNW hK A hA H locs ls hP hD hS hl
  have hown : s.vm.findClass RX8 = some m.cls := hown
  have hl : lv_has ls 1 [(0, .ref (a 0))] := hl
  unfold J_X8_errorPosition at hJ
  refine lv_aload_n hx hb dX8_errorPosition_0 rfl (lv_at hl 0 rfl) ?_
  refine lv_aload_n hx hb dX8_errorPosition_1 rfl (lv_at hl 0 rfl) ?_
  refine va_get (D := (dC, dI)) (ci := 8) (v := .int v_errorAt) (C := RX8) (T := TX8) (N := 27) hx hb hts (fun _ h => List.mem_cons_of_mem _ (List.mem_append_right _ h)) hown hK hP 0 rfl rfl 2 (by decide) (hts _ (List.mem_of_getElem? (i := 1) rfl)) (fun _ h9 => h9) rfl dX8_errorPosition_2 ?_
  obtain ⟨z1, e2, hJ⟩ := bnd hJ
  refine rwViW (As := [.int v_errorAt]) (rest := []) (ci := 8) (q0 := 0) hx hb hml hown hts (c_X8_told l dC dI kI kB kZ a v_tape v_taped v_errorAt v_thrown v_world v_aside v_undone v_slots v_isKept v_undos v_seenPrefix v_seenLast v_seen v_previous v_gained v_gains v_decoded v_decodes v_readAt v_start v_kind v_word v_letters v_number v_fine v_text v_texted v_errorAt H.size z1 e2) gX8_errorPosition_X8_told qX8_told rfl ⟨Nat.le_of_ble_eq_true rfl, Nat.le_of_ble_eq_true rfl⟩ ⟨rfl, rfl⟩ hNW hK hP hD hS hA hK rfl rfl rfl hl.1 rfl rfl (Nat.le_of_ble_eq_true rfl) dX8_errorPosition_5 z0 (fun H locs hP hD hS => ?_)
  obtain rfl := Option.some.inj hJ
  exact rw_iret hx hb hr hlocks rfl hP hD hS dX8_errorPosition_8
theorem qX8_tapes : (yX8_tapes.cls = RX8) ∧ yX8_tapes.cls ≠ "java/lang/invoke/MethodHandle" ∧ yX8_tapes.cls ≠ "java/lang/invoke/VarHandle" ∧ (parseMethodDescriptor yX8_tapes.desc).map (fun d => d.parameters.length) = some 1 := by decide +kernel
set_option maxHeartbeats 4000000 in
set_option maxRecDepth 100000 in
theorem c_X8_tapes (fu : Nat) (l : Launch) (dC : Nat → ClassId) (dI : Nat → Nat → Nat) (kI kB kZ : ClassId) (a : Nat → Nat) (v_tape : Nat → Int32) (v_taped : Int32) (v_errorAt : Int32) (v_thrown : Int32) (v_world : Nat → Int32) (v_aside : Nat → Int32) (v_undone : Nat → Int32) (v_slots : Nat → Int32) (v_isKept : Nat → Int32) (v_undos : Int32) (v_seenPrefix : Nat → Int32) (v_seenLast : Nat → Int32) (v_seen : Int32) (v_previous : Int32) (v_gained : Nat → Int32) (v_gains : Int32) (v_decoded : Nat → Int32) (v_decodes : Int32) (v_readAt : Int32) (v_start : Int32) (v_kind : Int32) (v_word : Int64) (v_letters : Int32) (v_number : Int32) (v_fine : Int32) (v_text : Nat → Int32) (v_texted : Int32) (p0 : Int32) (sz : Nat) (z : (Nat → Int32) × Int32) (hJ : J_X8_tapes fu v_tape v_taped p0 = some z) : Met l yX8_tapes wsX8_tapes ({ frames := 0, cells := 0, slots := 0, locals := 0 }) (va_Pc [.ref (a 0), .int p0] (RWp dC dI sz (MWc a kI kB kZ v_tape v_taped v_errorAt v_thrown v_world v_aside v_undone v_slots v_isKept v_undos v_seenPrefix v_seenLast v_seen v_previous v_gained v_gains v_decoded v_decodes v_readAt v_start v_kind v_word v_letters v_number v_fine v_text v_texted) [(kI, .int), (kB, .byte), (kZ, .boolean)])) (rwQv dC dI (va_A (MWc a kI kB kZ v_tape v_taped v_errorAt v_thrown v_world v_aside v_undone v_slots v_isKept v_undos v_seenPrefix v_seenLast v_seen v_previous v_gained v_gains v_decoded v_decodes v_readAt v_start v_kind v_word v_letters v_number v_fine v_text v_texted) sz) (MWc a kI kB kZ z.1 z.2 v_errorAt v_thrown v_world v_aside v_undone v_slots v_isKept v_undos v_seenPrefix v_seenLast v_seen v_previous v_gained v_gains v_decoded v_decodes v_readAt v_start v_kind v_word v_letters v_number v_fine v_text v_texted)) 0 0 (va_A (MWc a kI kB kZ v_tape v_taped v_errorAt v_thrown v_world v_aside v_undone v_slots v_isKept v_undos v_seenPrefix v_seenLast v_seen v_previous v_gained v_gains v_decoded v_decodes v_readAt v_start v_kind v_word v_letters v_number v_fine v_text v_texted) sz) := by
  refine rw_start (Qc := fun A => rwQv dC dI A (MWc a kI kB kZ z.1 z.2 v_errorAt v_thrown v_world v_aside v_undone v_slots v_isKept v_undos v_seenPrefix v_seenLast v_seen v_previous v_gained v_gains v_decoded v_decodes v_readAt v_start v_kind v_word v_letters v_number v_fine v_text v_texted)) (cc := cX8_tapes) (maxL := 3) (ret := none) (by decide) rfl (Nat.le_of_ble_eq_true rfl) ?_
  intro p e s m args below meth c hx hb hr hml hown hts hlocks hNW hK A hA H locs ls hP hD hS hl
  have hown : s.vm.findClass RX8 = some m.cls := hown
  have hl : lv_has ls 3 [(0, .ref (a 0)), (1, .int p0)] := hl
  unfold J_X8_tapes at hJ
  have L3 : ∀ (n : Nat) (v_tape : Nat → Int32) (v_taped : Int32) (y1 : Int32) (y2 : Int32) (H : Heap) (locs : List Loc) (ls : Array Slot), va_P (dC, dI) vwCl (MWc a kI kB kZ v_tape v_taped v_errorAt v_thrown v_world v_aside v_undone v_slots v_isKept v_undos v_seenPrefix v_seenLast v_seen v_previous v_gained v_gains v_decoded v_decodes v_readAt v_start v_kind v_word v_letters v_number v_fine v_text v_texted) H → va_D A (MWc a kI kB kZ v_tape v_taped v_errorAt v_thrown v_world v_aside v_undone v_slots v_isKept v_undos v_seenPrefix v_seenLast v_seen v_previous v_gained v_gains v_decoded v_decodes v_readAt v_start v_kind v_word v_letters v_number v_fine v_text v_texted) → va_S A s.heap H locs → lv_has ls 3 [(0, .ref (a 0)), (1, .int y1), (2, .int y2)] → J_X8_tapes_b3 fu n v_tape v_taped y1 y2 = some z → W p l e ({ frames := 0, cells := 0, slots := 0, locals := 0 }) s m args below meth c H locs 0 0 (MQ below (rwQv dC dI A (MWc a kI kB kZ z.1 z.2 v_errorAt v_thrown v_world v_aside v_undone v_slots v_isKept v_undos v_seenPrefix v_seenLast v_seen v_previous v_gained v_gains v_decoded v_decodes v_readAt v_start v_kind v_word v_letters v_number v_fine v_text v_texted)) args s 0 0 (A)) (F0 m 3 ls []) := by
    intro n
    induction n with
    | zero =>
      intro v_tape v_taped y1 y2 H locs ls hP hD hS hl hJ
      rw [J_X8_tapes_b3] at hJ; cases hJ
    | succ n ih =>
      intro v_tape v_taped y1 y2 H locs ls hP hD hS hl hJ
      rw [J_X8_tapes_b3] at hJ
      refine lv_iload_n hx hb dX8_tapes_3 rfl (lv_at hl 2 rfl) ?_
      refine lv_if_lt (tgt := 36) hx hb dX8_tapes_4 (by decide) (fun c1 => ?_) (fun c1 => ?_)
      · have hJ := ite_t c1 hJ
        obtain rfl := Option.some.inj hJ
        exact rw_vret hx hb hr hlocks hP hD hS dX8_tapes_36
      · have hJ := ite_f c1 hJ
        refine lv_aload_n hx hb dX8_tapes_7 rfl (lv_at hl 0 rfl) ?_
        refine va_get (D := (dC, dI)) (ci := 8) (v := .ref (a 1)) (C := RX8) (T := TX8) (N := 27) hx hb hts (fun _ h => List.mem_cons_of_mem _ (List.mem_append_right _ h)) hown hK hP 0 rfl rfl 0 (by decide) (hts _ (List.mem_of_getElem? (i := 1) rfl)) (fun _ h9 => h9) rfl dX8_tapes_8 ?_
        refine lv_aload_n hx hb dX8_tapes_11 rfl (lv_at hl 0 rfl) ?_
        refine va_get (D := (dC, dI)) (ci := 8) (v := .int v_taped) (C := RX8) (T := TX8) (N := 27) hx hb hts (fun _ h => List.mem_cons_of_mem _ (List.mem_append_right _ h)) hown hK hP 0 rfl rfl 1 (by decide) (hts _ (List.mem_of_getElem? (i := 2) rfl)) (fun _ h9 => h9) rfl dX8_tapes_12 ?_
        refine lv_iload_n hx hb dX8_tapes_15 rfl (lv_at hl 1 rfl) ?_
        refine lv_iload_n hx hb dX8_tapes_16 rfl (lv_at hl 2 rfl) ?_
        refine lv_ishr hx hb dX8_tapes_17 ?_
        refine lv_i2b (v := (y1 >>> (y2 &&& 31)).toInt8.toInt32) hx hb dX8_tapes_18 rfl ?_
        obtain ⟨g2, e3, hJ⟩ := bnd hJ
        refine wr_byte (n := 800) (f := v_tape) (x := (y1 >>> (y2 &&& 31)).toInt8.toInt32) hx hb hK hP hD hS 1 1 rfl rfl e3 dX8_tapes_19 (fun H locs hP hD hS => ?_)
        have hP : va_P (dC, dI) vwCl (MWc a kI kB kZ g2 v_taped v_errorAt v_thrown v_world v_aside v_undone v_slots v_isKept v_undos v_seenPrefix v_seenLast v_seen v_previous v_gained v_gains v_decoded v_decodes v_readAt v_start v_kind v_word v_letters v_number v_fine v_text v_texted) H := hP
        have hD : va_D A (MWc a kI kB kZ g2 v_taped v_errorAt v_thrown v_world v_aside v_undone v_slots v_isKept v_undos v_seenPrefix v_seenLast v_seen v_previous v_gained v_gains v_decoded v_decodes v_readAt v_start v_kind v_word v_letters v_number v_fine v_text v_texted) := hD
        refine lv_aload_n hx hb dX8_tapes_20 rfl (lv_at hl 0 rfl) ?_
        refine lv_dup hx hb dX8_tapes_21 rfl ?_
        refine va_get (D := (dC, dI)) (ci := 8) (v := .int v_taped) (C := RX8) (T := TX8) (N := 27) hx hb hts (fun _ h => List.mem_cons_of_mem _ (List.mem_append_right _ h)) hown hK hP 0 rfl rfl 1 (by decide) (hts _ (List.mem_of_getElem? (i := 2) rfl)) (fun _ h9 => h9) rfl dX8_tapes_22 ?_
        refine lv_iconst (v := 1) hx hb dX8_tapes_25 (by decide) ?_
        refine lv_iadd hx hb dX8_tapes_26 ?_
        refine va_put (D := (dC, dI)) (ci := 8) (v := .int (v_taped + (1 : Int32))) (ty := .int) (C := RX8) (T := TX8) (N := 27) hx hb hts (fun _ h => List.mem_cons_of_mem _ (List.mem_append_right _ h)) tyX8 tyX8_ok nmX8 hown hK hP hD hS 0 rfl rfl 1 (by decide) (hts _ (List.mem_of_getElem? (i := 2) rfl)) (fun _ h9 => h9) rfl (by decide +kernel) rfl rfl (Nat.le_of_ble_eq_true rfl) dX8_tapes_27 (fun H locs hP hD hS => ?_)
        have hP : va_P (dC, dI) vwCl (MWc a kI kB kZ g2 (v_taped + (1 : Int32)) v_errorAt v_thrown v_world v_aside v_undone v_slots v_isKept v_undos v_seenPrefix v_seenLast v_seen v_previous v_gained v_gains v_decoded v_decodes v_readAt v_start v_kind v_word v_letters v_number v_fine v_text v_texted) H := hP
        have hD : va_D A (MWc a kI kB kZ g2 (v_taped + (1 : Int32)) v_errorAt v_thrown v_world v_aside v_undone v_slots v_isKept v_undos v_seenPrefix v_seenLast v_seen v_previous v_gained v_gains v_decoded v_decodes v_readAt v_start v_kind v_word v_letters v_number v_fine v_text v_texted) := hD
        refine lv_iinc (v := y2 + (-8)) (lv' := [(2, .int (y2 + (-8))), (0, .ref (a 0)), (1, .int y1)]) hx hb dX8_tapes_30 hl (k := 2) rfl rfl (by decide) rfl (fun ls hl => ?_)
        refine lv_goto (tgt := 3) hx hb dX8_tapes_33 (by decide) ?_
        exact ih g2 (v_taped + (1 : Int32)) y1 (y2 + (-8)) H locs ls hP hD hS (lv_sub hl [1, 2, 0] rfl) hJ
  refine lv_bipush (v := 24) hx hb dX8_tapes_0 (by decide) ?_
  refine lv_istore_n (lv' := [(2, .int (24 : Int32)), (0, .ref (a 0)), (1, .int p0)]) hx hb dX8_tapes_2 rfl hl (by decide) rfl (fun ls hl => ?_)
  exact L3 fu v_tape v_taped p0 (24 : Int32) H locs ls hP hD hS (lv_sub hl [1, 2, 0] rfl) hJ
theorem qX8_append : (yX8_append.cls = RX8) ∧ yX8_append.cls ≠ "java/lang/invoke/MethodHandle" ∧ yX8_append.cls ≠ "java/lang/invoke/VarHandle" ∧ (parseMethodDescriptor yX8_append.desc).map (fun d => d.parameters.length) = some 5 := by decide +kernel
set_option maxHeartbeats 4000000 in
set_option maxRecDepth 100000 in
theorem c_X8_append (fu : Nat) (l : Launch) (dC : Nat → ClassId) (dI : Nat → Nat → Nat) (kI kB kZ : ClassId) (a : Nat → Nat) (v_tape : Nat → Int32) (v_taped : Int32) (v_errorAt : Int32) (v_thrown : Int32) (v_world : Nat → Int32) (v_aside : Nat → Int32) (v_undone : Nat → Int32) (v_slots : Nat → Int32) (v_isKept : Nat → Int32) (v_undos : Int32) (v_seenPrefix : Nat → Int32) (v_seenLast : Nat → Int32) (v_seen : Int32) (v_previous : Int32) (v_gained : Nat → Int32) (v_gains : Int32) (v_decoded : Nat → Int32) (v_decodes : Int32) (v_readAt : Int32) (v_start : Int32) (v_kind : Int32) (v_word : Int64) (v_letters : Int32) (v_number : Int32) (v_fine : Int32) (v_text : Nat → Int32) (v_texted : Int32) (p0 : Int32) (p1 : Int32) (p2 : Int32) (p3 : Int32) (p4 : Int32) (sz : Nat) (z : Int32 × (Nat → Int32) × Int32 × Int32) (hJ : J_X8_append fu v_tape v_taped v_thrown p0 p1 p2 p3 p4 = some z) : Met l yX8_append wsX8_append ({ frames := 1, cells := 0, slots := 0, locals := 22 }) (va_Pc [.ref (a 0), .int p0, .int p1, .int p2, .int p3, .int p4] (RWp dC dI sz (MWc a kI kB kZ v_tape v_taped v_errorAt v_thrown v_world v_aside v_undone v_slots v_isKept v_undos v_seenPrefix v_seenLast v_seen v_previous v_gained v_gains v_decoded v_decodes v_readAt v_start v_kind v_word v_letters v_number v_fine v_text v_texted) [(kI, .int), (kB, .byte), (kZ, .boolean)])) (rwQi dC dI (va_A (MWc a kI kB kZ v_tape v_taped v_errorAt v_thrown v_world v_aside v_undone v_slots v_isKept v_undos v_seenPrefix v_seenLast v_seen v_previous v_gained v_gains v_decoded v_decodes v_readAt v_start v_kind v_word v_letters v_number v_fine v_text v_texted) sz) (MWc a kI kB kZ z.2.1 z.2.2.1 v_errorAt z.2.2.2 v_world v_aside v_undone v_slots v_isKept v_undos v_seenPrefix v_seenLast v_seen v_previous v_gained v_gains v_decoded v_decodes v_readAt v_start v_kind v_word v_letters v_number v_fine v_text v_texted) z.1) 0 0 (va_A (MWc a kI kB kZ v_tape v_taped v_errorAt v_thrown v_world v_aside v_undone v_slots v_isKept v_undos v_seenPrefix v_seenLast v_seen v_previous v_gained v_gains v_decoded v_decodes v_readAt v_start v_kind v_word v_letters v_number v_fine v_text v_texted) sz) := by
  refine rw_start (Qc := fun A => rwQi dC dI A (MWc a kI kB kZ z.2.1 z.2.2.1 v_errorAt z.2.2.2 v_world v_aside v_undone v_slots v_isKept v_undos v_seenPrefix v_seenLast v_seen v_previous v_gained v_gains v_decoded v_decodes v_readAt v_start v_kind v_word v_letters v_number v_fine v_text v_texted) z.1) (cc := cX8_append) (maxL := 6) (ret := (some .int)) (by decide) rfl (Nat.le_of_ble_eq_true rfl) ?_
  intro p e s m args below meth c hx hb hr hml hown hts hlocks hNW hK A hA H locs ls hP hD hS hl
  have hown : s.vm.findClass RX8 = some m.cls := hown
  have hl : lv_has ls 6 [(0, .ref (a 0)), (1, .int p0), (2, .int p1), (3, .int p2), (4, .int p3), (5, .int p4)] := hl
  unfold J_X8_append at hJ
  refine lv_aload_n hx hb dX8_append_0 rfl (lv_at hl 0 rfl) ?_
  refine va_get (D := (dC, dI)) (ci := 8) (v := .int v_taped) (C := RX8) (T := TX8) (N := 27) hx hb hts (fun _ h => List.mem_cons_of_mem _ (List.mem_append_right _ h)) hown hK hP 0 rfl rfl 1 (by decide) (hts _ (List.mem_of_getElem? (i := 1) rfl)) (fun _ h9 => h9) rfl dX8_append_1 ?_
  refine lv_sipush (v := 780) hx hb dX8_append_4 (by decide) ?_
  refine lv_icmp_le (tgt := 16) hx hb dX8_append_7 (by decide) (fun c1 => ?_) (fun c1 => ?_)
  · have hJ := ite_t c1 hJ
    refine lv_aload_n hx hb dX8_append_16 rfl (lv_at hl 0 rfl) ?_
    refine lv_iload_n hx hb dX8_append_17 rfl (lv_at hl 1 rfl) ?_
    obtain ⟨z2, e3, hJ⟩ := bnd hJ
    refine rwVvW (As := [.int p0]) (rest := []) (ci := 8) (q0 := 0) hx hb hml hown hts (c_X8_tapes fu l dC dI kI kB kZ a v_tape v_taped v_errorAt v_thrown v_world v_aside v_undone v_slots v_isKept v_undos v_seenPrefix v_seenLast v_seen v_previous v_gained v_gains v_decoded v_decodes v_readAt v_start v_kind v_word v_letters v_number v_fine v_text v_texted p0 H.size z2 e3) gX8_append_X8_tapes qX8_tapes rfl ⟨Nat.le_of_ble_eq_true rfl, Nat.le_of_ble_eq_true rfl⟩ ⟨rfl, rfl⟩ hNW hK hP hD hS hA hK rfl rfl rfl hl.1 rfl rfl (Nat.le_of_ble_eq_true rfl) dX8_append_18 z0 (fun H locs hP hD hS => ?_)
    refine lv_aload_n hx hb dX8_append_21 rfl (lv_at hl 0 rfl) ?_
    refine lv_iload_n hx hb dX8_append_22 rfl (lv_at hl 2 rfl) ?_
    obtain ⟨z4, e5, hJ⟩ := bnd hJ
    refine rwVvW (As := [.int p1]) (rest := []) (ci := 8) (q0 := 0) hx hb hml hown hts (c_X8_tapes fu l dC dI kI kB kZ a z2.1 z2.2 v_errorAt v_thrown v_world v_aside v_undone v_slots v_isKept v_undos v_seenPrefix v_seenLast v_seen v_previous v_gained v_gains v_decoded v_decodes v_readAt v_start v_kind v_word v_letters v_number v_fine v_text v_texted p1 H.size z4 e5) gX8_append_X8_tapes qX8_tapes rfl ⟨Nat.le_of_ble_eq_true rfl, Nat.le_of_ble_eq_true rfl⟩ ⟨rfl, rfl⟩ hNW hK hP hD hS hA hK rfl rfl rfl hl.1 rfl rfl (Nat.le_of_ble_eq_true rfl) dX8_append_23 z0 (fun H locs hP hD hS => ?_)
    refine lv_aload_n hx hb dX8_append_26 rfl (lv_at hl 0 rfl) ?_
    refine lv_iload_n hx hb dX8_append_27 rfl (lv_at hl 3 rfl) ?_
    obtain ⟨z6, e7, hJ⟩ := bnd hJ
    refine rwVvW (As := [.int p2]) (rest := []) (ci := 8) (q0 := 0) hx hb hml hown hts (c_X8_tapes fu l dC dI kI kB kZ a z4.1 z4.2 v_errorAt v_thrown v_world v_aside v_undone v_slots v_isKept v_undos v_seenPrefix v_seenLast v_seen v_previous v_gained v_gains v_decoded v_decodes v_readAt v_start v_kind v_word v_letters v_number v_fine v_text v_texted p2 H.size z6 e7) gX8_append_X8_tapes qX8_tapes rfl ⟨Nat.le_of_ble_eq_true rfl, Nat.le_of_ble_eq_true rfl⟩ ⟨rfl, rfl⟩ hNW hK hP hD hS hA hK rfl rfl rfl hl.1 rfl rfl (Nat.le_of_ble_eq_true rfl) dX8_append_28 z0 (fun H locs hP hD hS => ?_)
    refine lv_aload_n hx hb dX8_append_31 rfl (lv_at hl 0 rfl) ?_
    refine lv_iload hx hb dX8_append_32 (lv_at hl 4 rfl) ?_
    obtain ⟨z8, e9, hJ⟩ := bnd hJ
    refine rwVvW (As := [.int p3]) (rest := []) (ci := 8) (q0 := 0) hx hb hml hown hts (c_X8_tapes fu l dC dI kI kB kZ a z6.1 z6.2 v_errorAt v_thrown v_world v_aside v_undone v_slots v_isKept v_undos v_seenPrefix v_seenLast v_seen v_previous v_gained v_gains v_decoded v_decodes v_readAt v_start v_kind v_word v_letters v_number v_fine v_text v_texted p3 H.size z8 e9) gX8_append_X8_tapes qX8_tapes rfl ⟨Nat.le_of_ble_eq_true rfl, Nat.le_of_ble_eq_true rfl⟩ ⟨rfl, rfl⟩ hNW hK hP hD hS hA hK rfl rfl rfl hl.1 rfl rfl (Nat.le_of_ble_eq_true rfl) dX8_append_34 z0 (fun H locs hP hD hS => ?_)
    refine lv_aload_n hx hb dX8_append_37 rfl (lv_at hl 0 rfl) ?_
    refine lv_iload hx hb dX8_append_38 (lv_at hl 5 rfl) ?_
    obtain ⟨z10, e11, hJ⟩ := bnd hJ
    refine rwVvW (As := [.int p4]) (rest := []) (ci := 8) (q0 := 0) hx hb hml hown hts (c_X8_tapes fu l dC dI kI kB kZ a z8.1 z8.2 v_errorAt v_thrown v_world v_aside v_undone v_slots v_isKept v_undos v_seenPrefix v_seenLast v_seen v_previous v_gained v_gains v_decoded v_decodes v_readAt v_start v_kind v_word v_letters v_number v_fine v_text v_texted p4 H.size z10 e11) gX8_append_X8_tapes qX8_tapes rfl ⟨Nat.le_of_ble_eq_true rfl, Nat.le_of_ble_eq_true rfl⟩ ⟨rfl, rfl⟩ hNW hK hP hD hS hA hK rfl rfl rfl hl.1 rfl rfl (Nat.le_of_ble_eq_true rfl) dX8_append_40 z0 (fun H locs hP hD hS => ?_)
    refine lv_aload_n hx hb dX8_append_43 rfl (lv_at hl 0 rfl) ?_
    refine lv_aload_n hx hb dX8_append_44 rfl (lv_at hl 0 rfl) ?_
    refine va_get (D := (dC, dI)) (ci := 8) (v := .int z10.2) (C := RX8) (T := TX8) (N := 27) hx hb hts (fun _ h => List.mem_cons_of_mem _ (List.mem_append_right _ h)) hown hK hP 0 rfl rfl 1 (by decide) (hts _ (List.mem_of_getElem? (i := 1) rfl)) (fun _ h9 => h9) rfl dX8_append_45 ?_
    obtain ⟨z12, e13, hJ⟩ := bnd hJ
    refine rwViW (As := [.int z10.2]) (rest := []) (ci := 8) (q0 := 0) hx hb hml hown hts (c_X8_told l dC dI kI kB kZ a z10.1 z10.2 v_errorAt v_thrown v_world v_aside v_undone v_slots v_isKept v_undos v_seenPrefix v_seenLast v_seen v_previous v_gained v_gains v_decoded v_decodes v_readAt v_start v_kind v_word v_letters v_number v_fine v_text v_texted z10.2 H.size z12 e13) gX8_append_X8_told qX8_told rfl ⟨Nat.le_of_ble_eq_true rfl, Nat.le_of_ble_eq_true rfl⟩ ⟨rfl, rfl⟩ hNW hK hP hD hS hA hK rfl rfl rfl hl.1 rfl rfl (Nat.le_of_ble_eq_true rfl) dX8_append_48 z0 (fun H locs hP hD hS => ?_)
    obtain rfl := Option.some.inj hJ
    exact rw_iret hx hb hr hlocks rfl hP hD hS dX8_append_51
  · have hJ := ite_f c1 hJ
    refine lv_aload_n hx hb dX8_append_10 rfl (lv_at hl 0 rfl) ?_
    refine lv_iconst (v := 1) hx hb dX8_append_11 (by decide) ?_
    obtain ⟨z14, e15, hJ⟩ := bnd hJ
    refine rwViW (As := [.int (1 : Int32)]) (rest := []) (ci := 8) (q0 := 0) hx hb hml hown hts (c_X8_throwing l dC dI kI kB kZ a v_tape v_taped v_errorAt v_thrown v_world v_aside v_undone v_slots v_isKept v_undos v_seenPrefix v_seenLast v_seen v_previous v_gained v_gains v_decoded v_decodes v_readAt v_start v_kind v_word v_letters v_number v_fine v_text v_texted (1 : Int32) H.size z14 e15) gX8_append_X8_throwing qX8_throwing rfl ⟨Nat.le_of_ble_eq_true rfl, Nat.le_of_ble_eq_true rfl⟩ ⟨rfl, rfl⟩ hNW hK hP hD hS hA hK rfl rfl rfl hl.1 rfl rfl (Nat.le_of_ble_eq_true rfl) dX8_append_12 z0 (fun H locs hP hD hS => ?_)
    obtain rfl := Option.some.inj hJ
    exact rw_iret hx hb hr hlocks rfl hP hD hS dX8_append_15
theorem qX8_truncate : (yX8_truncate.cls = RX8) ∧ yX8_truncate.cls ≠ "java/lang/invoke/MethodHandle" ∧ yX8_truncate.cls ≠ "java/lang/invoke/VarHandle" ∧ (parseMethodDescriptor yX8_truncate.desc).map (fun d => d.parameters.length) = some 1 := by decide +kernel
set_option maxHeartbeats 4000000 in
set_option maxRecDepth 100000 in
theorem c_X8_truncate (l : Launch) (dC : Nat → ClassId) (dI : Nat → Nat → Nat) (kI kB kZ : ClassId) (a : Nat → Nat) (v_tape : Nat → Int32) (v_taped : Int32) (v_errorAt : Int32) (v_thrown : Int32) (v_world : Nat → Int32) (v_aside : Nat → Int32) (v_undone : Nat → Int32) (v_slots : Nat → Int32) (v_isKept : Nat → Int32) (v_undos : Int32) (v_seenPrefix : Nat → Int32) (v_seenLast : Nat → Int32) (v_seen : Int32) (v_previous : Int32) (v_gained : Nat → Int32) (v_gains : Int32) (v_decoded : Nat → Int32) (v_decodes : Int32) (v_readAt : Int32) (v_start : Int32) (v_kind : Int32) (v_word : Int64) (v_letters : Int32) (v_number : Int32) (v_fine : Int32) (v_text : Nat → Int32) (v_texted : Int32) (p0 : Int32) (sz : Nat) (z : Int32 × Int32 × Int32) (hJ : J_X8_truncate v_taped v_thrown p0 = some z) : Met l yX8_truncate wsX8_truncate ({ frames := 1, cells := 0, slots := 0, locals := 22 }) (va_Pc [.ref (a 0), .int p0] (RWp dC dI sz (MWc a kI kB kZ v_tape v_taped v_errorAt v_thrown v_world v_aside v_undone v_slots v_isKept v_undos v_seenPrefix v_seenLast v_seen v_previous v_gained v_gains v_decoded v_decodes v_readAt v_start v_kind v_word v_letters v_number v_fine v_text v_texted) [(kI, .int), (kB, .byte), (kZ, .boolean)])) (rwQi dC dI (va_A (MWc a kI kB kZ v_tape v_taped v_errorAt v_thrown v_world v_aside v_undone v_slots v_isKept v_undos v_seenPrefix v_seenLast v_seen v_previous v_gained v_gains v_decoded v_decodes v_readAt v_start v_kind v_word v_letters v_number v_fine v_text v_texted) sz) (MWc a kI kB kZ v_tape z.2.1 v_errorAt z.2.2 v_world v_aside v_undone v_slots v_isKept v_undos v_seenPrefix v_seenLast v_seen v_previous v_gained v_gains v_decoded v_decodes v_readAt v_start v_kind v_word v_letters v_number v_fine v_text v_texted) z.1) 0 0 (va_A (MWc a kI kB kZ v_tape v_taped v_errorAt v_thrown v_world v_aside v_undone v_slots v_isKept v_undos v_seenPrefix v_seenLast v_seen v_previous v_gained v_gains v_decoded v_decodes v_readAt v_start v_kind v_word v_letters v_number v_fine v_text v_texted) sz) := by
  refine rw_start (Qc := fun A => rwQi dC dI A (MWc a kI kB kZ v_tape z.2.1 v_errorAt z.2.2 v_world v_aside v_undone v_slots v_isKept v_undos v_seenPrefix v_seenLast v_seen v_previous v_gained v_gains v_decoded v_decodes v_readAt v_start v_kind v_word v_letters v_number v_fine v_text v_texted) z.1) (cc := cX8_truncate) (maxL := 2) (ret := (some .int)) (by decide) rfl (Nat.le_of_ble_eq_true rfl) ?_
  intro p e s m args below meth c hx hb hr hml hown hts hlocks hNW hK A hA H locs ls hP hD hS hl
  have hown : s.vm.findClass RX8 = some m.cls := hown
  have hl : lv_has ls 2 [(0, .ref (a 0)), (1, .int p0)] := hl
  unfold J_X8_truncate at hJ
  refine lv_iload_n hx hb dX8_truncate_0 rfl (lv_at hl 1 rfl) ?_
  refine lv_iconst (v := 0) hx hb dX8_truncate_1 (by decide) ?_
  refine lv_aload_n hx hb dX8_truncate_2 rfl (lv_at hl 0 rfl) ?_
  refine va_get (D := (dC, dI)) (ci := 8) (v := .int v_taped) (C := RX8) (T := TX8) (N := 27) hx hb hts (fun _ h => List.mem_cons_of_mem _ (List.mem_append_right _ h)) hown hK hP 0 rfl rfl 1 (by decide) (hts _ (List.mem_of_getElem? (i := 1) rfl)) (fun _ h9 => h9) rfl dX8_truncate_3 ?_
  obtain ⟨z1, e2, hJ⟩ := bnd hJ
  refine roSi (As := [.int p0, .int (0 : Int32), .int v_taped]) (rest := []) hx hb hml hown hts (c_X8_in l dC dI p0 (0 : Int32) v_taped z1 e2) gX8_truncate_X8_in qX8_in rfl ⟨Nat.le_of_ble_eq_true rfl, Nat.le_of_ble_eq_true rfl⟩ ⟨rfl, rfl⟩ hNW hK hP hS (hP.sub (ws' := []) [] rfl) (hK.sub (tys' := []) [] rfl) hl.1 rfl rfl (Nat.le_of_ble_eq_true rfl) dX8_truncate_6 z0 (fun H locs hP hS => ?_)
  refine lv_if_ne (tgt := 18) hx hb dX8_truncate_9 (by decide) (fun c3 => ?_) (fun c3 => ?_)
  · have hJ := ite_f c3 hJ
    refine lv_aload_n hx hb dX8_truncate_18 rfl (lv_at hl 0 rfl) ?_
    refine lv_dup hx hb dX8_truncate_19 rfl ?_
    refine va_get (D := (dC, dI)) (ci := 8) (v := .int v_taped) (C := RX8) (T := TX8) (N := 27) hx hb hts (fun _ h => List.mem_cons_of_mem _ (List.mem_append_right _ h)) hown hK hP 0 rfl rfl 1 (by decide) (hts _ (List.mem_of_getElem? (i := 1) rfl)) (fun _ h9 => h9) rfl dX8_truncate_20 ?_
    refine lv_iload_n hx hb dX8_truncate_23 rfl (lv_at hl 1 rfl) ?_
    refine lv_isub hx hb dX8_truncate_24 ?_
    refine va_put (D := (dC, dI)) (ci := 8) (v := .int (v_taped - p0)) (ty := .int) (C := RX8) (T := TX8) (N := 27) hx hb hts (fun _ h => List.mem_cons_of_mem _ (List.mem_append_right _ h)) tyX8 tyX8_ok nmX8 hown hK hP hD hS 0 rfl rfl 1 (by decide) (hts _ (List.mem_of_getElem? (i := 1) rfl)) (fun _ h9 => h9) rfl (by decide +kernel) rfl rfl (Nat.le_of_ble_eq_true rfl) dX8_truncate_25 (fun H locs hP hD hS => ?_)
    have hP : va_P (dC, dI) vwCl (MWc a kI kB kZ v_tape (v_taped - p0) v_errorAt v_thrown v_world v_aside v_undone v_slots v_isKept v_undos v_seenPrefix v_seenLast v_seen v_previous v_gained v_gains v_decoded v_decodes v_readAt v_start v_kind v_word v_letters v_number v_fine v_text v_texted) H := hP
    have hD : va_D A (MWc a kI kB kZ v_tape (v_taped - p0) v_errorAt v_thrown v_world v_aside v_undone v_slots v_isKept v_undos v_seenPrefix v_seenLast v_seen v_previous v_gained v_gains v_decoded v_decodes v_readAt v_start v_kind v_word v_letters v_number v_fine v_text v_texted) := hD
    refine lv_aload_n hx hb dX8_truncate_28 rfl (lv_at hl 0 rfl) ?_
    refine lv_aload_n hx hb dX8_truncate_29 rfl (lv_at hl 0 rfl) ?_
    refine va_get (D := (dC, dI)) (ci := 8) (v := .int (v_taped - p0)) (C := RX8) (T := TX8) (N := 27) hx hb hts (fun _ h => List.mem_cons_of_mem _ (List.mem_append_right _ h)) hown hK hP 0 rfl rfl 1 (by decide) (hts _ (List.mem_of_getElem? (i := 1) rfl)) (fun _ h9 => h9) rfl dX8_truncate_30 ?_
    obtain ⟨z4, e5, hJ⟩ := bnd hJ
    refine rwViW (As := [.int (v_taped - p0)]) (rest := []) (ci := 8) (q0 := 0) hx hb hml hown hts (c_X8_told l dC dI kI kB kZ a v_tape (v_taped - p0) v_errorAt v_thrown v_world v_aside v_undone v_slots v_isKept v_undos v_seenPrefix v_seenLast v_seen v_previous v_gained v_gains v_decoded v_decodes v_readAt v_start v_kind v_word v_letters v_number v_fine v_text v_texted (v_taped - p0) H.size z4 e5) gX8_truncate_X8_told qX8_told rfl ⟨Nat.le_of_ble_eq_true rfl, Nat.le_of_ble_eq_true rfl⟩ ⟨rfl, rfl⟩ hNW hK hP hD hS hA hK rfl rfl rfl hl.1 rfl rfl (Nat.le_of_ble_eq_true rfl) dX8_truncate_33 z0 (fun H locs hP hD hS => ?_)
    obtain rfl := Option.some.inj hJ
    exact rw_iret hx hb hr hlocks rfl hP hD hS dX8_truncate_36
  · have hJ := ite_t c3 hJ
    refine lv_aload_n hx hb dX8_truncate_12 rfl (lv_at hl 0 rfl) ?_
    refine lv_iconst (v := 1) hx hb dX8_truncate_13 (by decide) ?_
    obtain ⟨z6, e7, hJ⟩ := bnd hJ
    refine rwViW (As := [.int (1 : Int32)]) (rest := []) (ci := 8) (q0 := 0) hx hb hml hown hts (c_X8_throwing l dC dI kI kB kZ a v_tape v_taped v_errorAt v_thrown v_world v_aside v_undone v_slots v_isKept v_undos v_seenPrefix v_seenLast v_seen v_previous v_gained v_gains v_decoded v_decodes v_readAt v_start v_kind v_word v_letters v_number v_fine v_text v_texted (1 : Int32) H.size z6 e7) gX8_truncate_X8_throwing qX8_throwing rfl ⟨Nat.le_of_ble_eq_true rfl, Nat.le_of_ble_eq_true rfl⟩ ⟨rfl, rfl⟩ hNW hK hP hD hS hA hK rfl rfl rfl hl.1 rfl rfl (Nat.le_of_ble_eq_true rfl) dX8_truncate_14 z0 (fun H locs hP hD hS => ?_)
    obtain rfl := Option.some.inj hJ
    exact rw_iret hx hb hr hlocks rfl hP hD hS dX8_truncate_17
theorem qX8_alphabetSize : (yX8_alphabetSize.cls = RX8) ∧ yX8_alphabetSize.cls ≠ "java/lang/invoke/MethodHandle" ∧ yX8_alphabetSize.cls ≠ "java/lang/invoke/VarHandle" ∧ (parseMethodDescriptor yX8_alphabetSize.desc).map (fun d => d.parameters.length) = some 0 := by decide +kernel
set_option maxHeartbeats 4000000 in
set_option maxRecDepth 100000 in
theorem c_X8_alphabetSize (l : Launch) (dC : Nat → ClassId) (dI : Nat → Nat → Nat) (kI kB kZ : ClassId) (a : Nat → Nat) (v_tape : Nat → Int32) (v_taped : Int32) (v_errorAt : Int32) (v_thrown : Int32) (v_world : Nat → Int32) (v_aside : Nat → Int32) (v_undone : Nat → Int32) (v_slots : Nat → Int32) (v_isKept : Nat → Int32) (v_undos : Int32) (v_seenPrefix : Nat → Int32) (v_seenLast : Nat → Int32) (v_seen : Int32) (v_previous : Int32) (v_gained : Nat → Int32) (v_gains : Int32) (v_decoded : Nat → Int32) (v_decodes : Int32) (v_readAt : Int32) (v_start : Int32) (v_kind : Int32) (v_word : Int64) (v_letters : Int32) (v_number : Int32) (v_fine : Int32) (v_text : Nat → Int32) (v_texted : Int32) (sz : Nat) (z : Int32 × Int32) (hJ : J_X8_alphabetSize v_thrown v_world = some z) : Met l yX8_alphabetSize wsX8_alphabetSize ({ frames := 1, cells := 0, slots := 0, locals := 21 }) (va_Pc [.ref (a 0)] (RWp dC dI sz (MWc a kI kB kZ v_tape v_taped v_errorAt v_thrown v_world v_aside v_undone v_slots v_isKept v_undos v_seenPrefix v_seenLast v_seen v_previous v_gained v_gains v_decoded v_decodes v_readAt v_start v_kind v_word v_letters v_number v_fine v_text v_texted) [(kI, .int), (kB, .byte), (kZ, .boolean)])) (rwQi dC dI (va_A (MWc a kI kB kZ v_tape v_taped v_errorAt v_thrown v_world v_aside v_undone v_slots v_isKept v_undos v_seenPrefix v_seenLast v_seen v_previous v_gained v_gains v_decoded v_decodes v_readAt v_start v_kind v_word v_letters v_number v_fine v_text v_texted) sz) (MWc a kI kB kZ v_tape v_taped v_errorAt z.2 v_world v_aside v_undone v_slots v_isKept v_undos v_seenPrefix v_seenLast v_seen v_previous v_gained v_gains v_decoded v_decodes v_readAt v_start v_kind v_word v_letters v_number v_fine v_text v_texted) z.1) 0 0 (va_A (MWc a kI kB kZ v_tape v_taped v_errorAt v_thrown v_world v_aside v_undone v_slots v_isKept v_undos v_seenPrefix v_seenLast v_seen v_previous v_gained v_gains v_decoded v_decodes v_readAt v_start v_kind v_word v_letters v_number v_fine v_text v_texted) sz) := by
  refine rw_start (Qc := fun A => rwQi dC dI A (MWc a kI kB kZ v_tape v_taped v_errorAt z.2 v_world v_aside v_undone v_slots v_isKept v_undos v_seenPrefix v_seenLast v_seen v_previous v_gained v_gains v_decoded v_decodes v_readAt v_start v_kind v_word v_letters v_number v_fine v_text v_texted) z.1) (cc := cX8_alphabetSize) (maxL := 1) (ret := (some .int)) (by decide) rfl (Nat.le_of_ble_eq_true rfl) ?_
  intro p e s m args below meth c hx hb hr hml hown hts hlocks hNW hK A hA H locs ls hP hD hS hl
  have hown : s.vm.findClass RX8 = some m.cls := hown
  have hl : lv_has ls 1 [(0, .ref (a 0))] := hl
  unfold J_X8_alphabetSize at hJ
  refine lv_aload_n hx hb dX8_alphabetSize_0 rfl (lv_at hl 0 rfl) ?_
  refine lv_aload_n hx hb dX8_alphabetSize_1 rfl (lv_at hl 0 rfl) ?_
  refine va_get (D := (dC, dI)) (ci := 8) (v := .ref (a 2)) (C := RX8) (T := TX8) (N := 27) hx hb hts (fun _ h => List.mem_cons_of_mem _ (List.mem_append_right _ h)) hown hK hP 0 rfl rfl 4 (by decide) (hts _ (List.mem_of_getElem? (i := 1) rfl)) (fun _ h9 => h9) rfl dX8_alphabetSize_2 ?_
  refine lv_iconst (v := 0) hx hb dX8_alphabetSize_5 (by decide) ?_
  obtain ⟨z1, e2, hJ⟩ := bnd hJ
  refine rd_int (n := 1726) (f := v_world) hx hb hK hP 2 0 rfl rfl e2 dX8_alphabetSize_6 ?_
  obtain ⟨z3, e4, hJ⟩ := bnd hJ
  refine rwViW (As := [.int z1]) (rest := []) (ci := 8) (q0 := 0) hx hb hml hown hts (c_X8_told l dC dI kI kB kZ a v_tape v_taped v_errorAt v_thrown v_world v_aside v_undone v_slots v_isKept v_undos v_seenPrefix v_seenLast v_seen v_previous v_gained v_gains v_decoded v_decodes v_readAt v_start v_kind v_word v_letters v_number v_fine v_text v_texted z1 H.size z3 e4) gX8_alphabetSize_X8_told qX8_told rfl ⟨Nat.le_of_ble_eq_true rfl, Nat.le_of_ble_eq_true rfl⟩ ⟨rfl, rfl⟩ hNW hK hP hD hS hA hK rfl rfl rfl hl.1 rfl rfl (Nat.le_of_ble_eq_true rfl) dX8_alphabetSize_7 z0 (fun H locs hP hD hS => ?_)
  obtain rfl := Option.some.inj hJ
  exact rw_iret hx hb hr hlocks rfl hP hD hS dX8_alphabetSize_10
theorem qX8_greatestWidth : (yX8_greatestWidth.cls = RX8) ∧ yX8_greatestWidth.cls ≠ "java/lang/invoke/MethodHandle" ∧ yX8_greatestWidth.cls ≠ "java/lang/invoke/VarHandle" ∧ (parseMethodDescriptor yX8_greatestWidth.desc).map (fun d => d.parameters.length) = some 0 := by decide +kernel
set_option maxHeartbeats 4000000 in
set_option maxRecDepth 100000 in
theorem c_X8_greatestWidth (l : Launch) (dC : Nat → ClassId) (dI : Nat → Nat → Nat) (kI kB kZ : ClassId) (a : Nat → Nat) (v_tape : Nat → Int32) (v_taped : Int32) (v_errorAt : Int32) (v_thrown : Int32) (v_world : Nat → Int32) (v_aside : Nat → Int32) (v_undone : Nat → Int32) (v_slots : Nat → Int32) (v_isKept : Nat → Int32) (v_undos : Int32) (v_seenPrefix : Nat → Int32) (v_seenLast : Nat → Int32) (v_seen : Int32) (v_previous : Int32) (v_gained : Nat → Int32) (v_gains : Int32) (v_decoded : Nat → Int32) (v_decodes : Int32) (v_readAt : Int32) (v_start : Int32) (v_kind : Int32) (v_word : Int64) (v_letters : Int32) (v_number : Int32) (v_fine : Int32) (v_text : Nat → Int32) (v_texted : Int32) (sz : Nat) (z : Int32 × Int32) (hJ : J_X8_greatestWidth v_thrown v_world = some z) : Met l yX8_greatestWidth wsX8_greatestWidth ({ frames := 1, cells := 0, slots := 0, locals := 21 }) (va_Pc [.ref (a 0)] (RWp dC dI sz (MWc a kI kB kZ v_tape v_taped v_errorAt v_thrown v_world v_aside v_undone v_slots v_isKept v_undos v_seenPrefix v_seenLast v_seen v_previous v_gained v_gains v_decoded v_decodes v_readAt v_start v_kind v_word v_letters v_number v_fine v_text v_texted) [(kI, .int), (kB, .byte), (kZ, .boolean)])) (rwQi dC dI (va_A (MWc a kI kB kZ v_tape v_taped v_errorAt v_thrown v_world v_aside v_undone v_slots v_isKept v_undos v_seenPrefix v_seenLast v_seen v_previous v_gained v_gains v_decoded v_decodes v_readAt v_start v_kind v_word v_letters v_number v_fine v_text v_texted) sz) (MWc a kI kB kZ v_tape v_taped v_errorAt z.2 v_world v_aside v_undone v_slots v_isKept v_undos v_seenPrefix v_seenLast v_seen v_previous v_gained v_gains v_decoded v_decodes v_readAt v_start v_kind v_word v_letters v_number v_fine v_text v_texted) z.1) 0 0 (va_A (MWc a kI kB kZ v_tape v_taped v_errorAt v_thrown v_world v_aside v_undone v_slots v_isKept v_undos v_seenPrefix v_seenLast v_seen v_previous v_gained v_gains v_decoded v_decodes v_readAt v_start v_kind v_word v_letters v_number v_fine v_text v_texted) sz) := by
  refine rw_start (Qc := fun A => rwQi dC dI A (MWc a kI kB kZ v_tape v_taped v_errorAt z.2 v_world v_aside v_undone v_slots v_isKept v_undos v_seenPrefix v_seenLast v_seen v_previous v_gained v_gains v_decoded v_decodes v_readAt v_start v_kind v_word v_letters v_number v_fine v_text v_texted) z.1) (cc := cX8_greatestWidth) (maxL := 1) (ret := (some .int)) (by decide) rfl (Nat.le_of_ble_eq_true rfl) ?_
  intro p e s m args below meth c hx hb hr hml hown hts hlocks hNW hK A hA H locs ls hP hD hS hl
  have hown : s.vm.findClass RX8 = some m.cls := hown
  have hl : lv_has ls 1 [(0, .ref (a 0))] := hl
  unfold J_X8_greatestWidth at hJ
  refine lv_aload_n hx hb dX8_greatestWidth_0 rfl (lv_at hl 0 rfl) ?_
  refine lv_aload_n hx hb dX8_greatestWidth_1 rfl (lv_at hl 0 rfl) ?_
  refine va_get (D := (dC, dI)) (ci := 8) (v := .ref (a 2)) (C := RX8) (T := TX8) (N := 27) hx hb hts (fun _ h => List.mem_cons_of_mem _ (List.mem_append_right _ h)) hown hK hP 0 rfl rfl 4 (by decide) (hts _ (List.mem_of_getElem? (i := 1) rfl)) (fun _ h9 => h9) rfl dX8_greatestWidth_2 ?_
  refine lv_iconst (v := 1) hx hb dX8_greatestWidth_5 (by decide) ?_
  obtain ⟨z1, e2, hJ⟩ := bnd hJ
  refine rd_int (n := 1726) (f := v_world) hx hb hK hP 2 0 rfl rfl e2 dX8_greatestWidth_6 ?_
  obtain ⟨z3, e4, hJ⟩ := bnd hJ
  refine rwViW (As := [.int z1]) (rest := []) (ci := 8) (q0 := 0) hx hb hml hown hts (c_X8_told l dC dI kI kB kZ a v_tape v_taped v_errorAt v_thrown v_world v_aside v_undone v_slots v_isKept v_undos v_seenPrefix v_seenLast v_seen v_previous v_gained v_gains v_decoded v_decodes v_readAt v_start v_kind v_word v_letters v_number v_fine v_text v_texted z1 H.size z3 e4) gX8_greatestWidth_X8_told qX8_told rfl ⟨Nat.le_of_ble_eq_true rfl, Nat.le_of_ble_eq_true rfl⟩ ⟨rfl, rfl⟩ hNW hK hP hD hS hA hK rfl rfl rfl hl.1 rfl rfl (Nat.le_of_ble_eq_true rfl) dX8_greatestWidth_7 z0 (fun H locs hP hD hS => ?_)
  obtain rfl := Option.some.inj hJ
  exact rw_iret hx hb hr hlocks rfl hP hD hS dX8_greatestWidth_10
theorem qX8_policy : (yX8_policy.cls = RX8) ∧ yX8_policy.cls ≠ "java/lang/invoke/MethodHandle" ∧ yX8_policy.cls ≠ "java/lang/invoke/VarHandle" ∧ (parseMethodDescriptor yX8_policy.desc).map (fun d => d.parameters.length) = some 0 := by decide +kernel
set_option maxHeartbeats 4000000 in
set_option maxRecDepth 100000 in
theorem c_X8_policy (l : Launch) (dC : Nat → ClassId) (dI : Nat → Nat → Nat) (kI kB kZ : ClassId) (a : Nat → Nat) (v_tape : Nat → Int32) (v_taped : Int32) (v_errorAt : Int32) (v_thrown : Int32) (v_world : Nat → Int32) (v_aside : Nat → Int32) (v_undone : Nat → Int32) (v_slots : Nat → Int32) (v_isKept : Nat → Int32) (v_undos : Int32) (v_seenPrefix : Nat → Int32) (v_seenLast : Nat → Int32) (v_seen : Int32) (v_previous : Int32) (v_gained : Nat → Int32) (v_gains : Int32) (v_decoded : Nat → Int32) (v_decodes : Int32) (v_readAt : Int32) (v_start : Int32) (v_kind : Int32) (v_word : Int64) (v_letters : Int32) (v_number : Int32) (v_fine : Int32) (v_text : Nat → Int32) (v_texted : Int32) (sz : Nat) (z : Int32 × Int32) (hJ : J_X8_policy v_thrown v_world = some z) : Met l yX8_policy wsX8_policy ({ frames := 1, cells := 0, slots := 0, locals := 21 }) (va_Pc [.ref (a 0)] (RWp dC dI sz (MWc a kI kB kZ v_tape v_taped v_errorAt v_thrown v_world v_aside v_undone v_slots v_isKept v_undos v_seenPrefix v_seenLast v_seen v_previous v_gained v_gains v_decoded v_decodes v_readAt v_start v_kind v_word v_letters v_number v_fine v_text v_texted) [(kI, .int), (kB, .byte), (kZ, .boolean)])) (rwQi dC dI (va_A (MWc a kI kB kZ v_tape v_taped v_errorAt v_thrown v_world v_aside v_undone v_slots v_isKept v_undos v_seenPrefix v_seenLast v_seen v_previous v_gained v_gains v_decoded v_decodes v_readAt v_start v_kind v_word v_letters v_number v_fine v_text v_texted) sz) (MWc a kI kB kZ v_tape v_taped v_errorAt z.2 v_world v_aside v_undone v_slots v_isKept v_undos v_seenPrefix v_seenLast v_seen v_previous v_gained v_gains v_decoded v_decodes v_readAt v_start v_kind v_word v_letters v_number v_fine v_text v_texted) z.1) 0 0 (va_A (MWc a kI kB kZ v_tape v_taped v_errorAt v_thrown v_world v_aside v_undone v_slots v_isKept v_undos v_seenPrefix v_seenLast v_seen v_previous v_gained v_gains v_decoded v_decodes v_readAt v_start v_kind v_word v_letters v_number v_fine v_text v_texted) sz) := by
  refine rw_start (Qc := fun A => rwQi dC dI A (MWc a kI kB kZ v_tape v_taped v_errorAt z.2 v_world v_aside v_undone v_slots v_isKept v_undos v_seenPrefix v_seenLast v_seen v_previous v_gained v_gains v_decoded v_decodes v_readAt v_start v_kind v_word v_letters v_number v_fine v_text v_texted) z.1) (cc := cX8_policy) (maxL := 1) (ret := (some .int)) (by decide) rfl (Nat.le_of_ble_eq_true rfl) ?_
  intro p e s m args below meth c hx hb hr hml hown hts hlocks hNW hK A hA H locs ls hP hD hS hl
  have hown : s.vm.findClass RX8 = some m.cls := hown
  have hl : lv_has ls 1 [(0, .ref (a 0))] := hl
  unfold J_X8_policy at hJ
  refine lv_aload_n hx hb dX8_policy_0 rfl (lv_at hl 0 rfl) ?_
  refine lv_aload_n hx hb dX8_policy_1 rfl (lv_at hl 0 rfl) ?_
  refine va_get (D := (dC, dI)) (ci := 8) (v := .ref (a 2)) (C := RX8) (T := TX8) (N := 27) hx hb hts (fun _ h => List.mem_cons_of_mem _ (List.mem_append_right _ h)) hown hK hP 0 rfl rfl 4 (by decide) (hts _ (List.mem_of_getElem? (i := 1) rfl)) (fun _ h9 => h9) rfl dX8_policy_2 ?_
  refine lv_iconst (v := 2) hx hb dX8_policy_5 (by decide) ?_
  obtain ⟨z1, e2, hJ⟩ := bnd hJ
  refine rd_int (n := 1726) (f := v_world) hx hb hK hP 2 0 rfl rfl e2 dX8_policy_6 ?_
  obtain ⟨z3, e4, hJ⟩ := bnd hJ
  refine rwViW (As := [.int z1]) (rest := []) (ci := 8) (q0 := 0) hx hb hml hown hts (c_X8_told l dC dI kI kB kZ a v_tape v_taped v_errorAt v_thrown v_world v_aside v_undone v_slots v_isKept v_undos v_seenPrefix v_seenLast v_seen v_previous v_gained v_gains v_decoded v_decodes v_readAt v_start v_kind v_word v_letters v_number v_fine v_text v_texted z1 H.size z3 e4) gX8_policy_X8_told qX8_told rfl ⟨Nat.le_of_ble_eq_true rfl, Nat.le_of_ble_eq_true rfl⟩ ⟨rfl, rfl⟩ hNW hK hP hD hS hA hK rfl rfl rfl hl.1 rfl rfl (Nat.le_of_ble_eq_true rfl) dX8_policy_7 z0 (fun H locs hP hD hS => ?_)
  obtain rfl := Option.some.inj hJ
  exact rw_iret hx hb hr hlocks rfl hP hD hS dX8_policy_10
theorem qX8_limit : (yX8_limit.cls = RX8) ∧ yX8_limit.cls ≠ "java/lang/invoke/MethodHandle" ∧ yX8_limit.cls ≠ "java/lang/invoke/VarHandle" ∧ (parseMethodDescriptor yX8_limit.desc).map (fun d => d.parameters.length) = some 0 := by decide +kernel
set_option maxHeartbeats 4000000 in
set_option maxRecDepth 100000 in
theorem c_X8_limit (l : Launch) (dC : Nat → ClassId) (dI : Nat → Nat → Nat) (kI kB kZ : ClassId) (a : Nat → Nat) (v_tape : Nat → Int32) (v_taped : Int32) (v_errorAt : Int32) (v_thrown : Int32) (v_world : Nat → Int32) (v_aside : Nat → Int32) (v_undone : Nat → Int32) (v_slots : Nat → Int32) (v_isKept : Nat → Int32) (v_undos : Int32) (v_seenPrefix : Nat → Int32) (v_seenLast : Nat → Int32) (v_seen : Int32) (v_previous : Int32) (v_gained : Nat → Int32) (v_gains : Int32) (v_decoded : Nat → Int32) (v_decodes : Int32) (v_readAt : Int32) (v_start : Int32) (v_kind : Int32) (v_word : Int64) (v_letters : Int32) (v_number : Int32) (v_fine : Int32) (v_text : Nat → Int32) (v_texted : Int32) (sz : Nat) (z : Int32 × Int32) (hJ : J_X8_limit v_thrown v_world = some z) : Met l yX8_limit wsX8_limit ({ frames := 1, cells := 0, slots := 0, locals := 21 }) (va_Pc [.ref (a 0)] (RWp dC dI sz (MWc a kI kB kZ v_tape v_taped v_errorAt v_thrown v_world v_aside v_undone v_slots v_isKept v_undos v_seenPrefix v_seenLast v_seen v_previous v_gained v_gains v_decoded v_decodes v_readAt v_start v_kind v_word v_letters v_number v_fine v_text v_texted) [(kI, .int), (kB, .byte), (kZ, .boolean)])) (rwQi dC dI (va_A (MWc a kI kB kZ v_tape v_taped v_errorAt v_thrown v_world v_aside v_undone v_slots v_isKept v_undos v_seenPrefix v_seenLast v_seen v_previous v_gained v_gains v_decoded v_decodes v_readAt v_start v_kind v_word v_letters v_number v_fine v_text v_texted) sz) (MWc a kI kB kZ v_tape v_taped v_errorAt z.2 v_world v_aside v_undone v_slots v_isKept v_undos v_seenPrefix v_seenLast v_seen v_previous v_gained v_gains v_decoded v_decodes v_readAt v_start v_kind v_word v_letters v_number v_fine v_text v_texted) z.1) 0 0 (va_A (MWc a kI kB kZ v_tape v_taped v_errorAt v_thrown v_world v_aside v_undone v_slots v_isKept v_undos v_seenPrefix v_seenLast v_seen v_previous v_gained v_gains v_decoded v_decodes v_readAt v_start v_kind v_word v_letters v_number v_fine v_text v_texted) sz) := by
  refine rw_start (Qc := fun A => rwQi dC dI A (MWc a kI kB kZ v_tape v_taped v_errorAt z.2 v_world v_aside v_undone v_slots v_isKept v_undos v_seenPrefix v_seenLast v_seen v_previous v_gained v_gains v_decoded v_decodes v_readAt v_start v_kind v_word v_letters v_number v_fine v_text v_texted) z.1) (cc := cX8_limit) (maxL := 1) (ret := (some .int)) (by decide) rfl (Nat.le_of_ble_eq_true rfl) ?_
  intro p e s m args below meth c hx hb hr hml hown hts hlocks hNW hK A hA H locs ls hP hD hS hl
  have hown : s.vm.findClass RX8 = some m.cls := hown
  have hl : lv_has ls 1 [(0, .ref (a 0))] := hl
  unfold J_X8_limit at hJ
  refine lv_aload_n hx hb dX8_limit_0 rfl (lv_at hl 0 rfl) ?_
  refine lv_aload_n hx hb dX8_limit_1 rfl (lv_at hl 0 rfl) ?_
  refine va_get (D := (dC, dI)) (ci := 8) (v := .ref (a 2)) (C := RX8) (T := TX8) (N := 27) hx hb hts (fun _ h => List.mem_cons_of_mem _ (List.mem_append_right _ h)) hown hK hP 0 rfl rfl 4 (by decide) (hts _ (List.mem_of_getElem? (i := 1) rfl)) (fun _ h9 => h9) rfl dX8_limit_2 ?_
  refine lv_iconst (v := 3) hx hb dX8_limit_5 (by decide) ?_
  obtain ⟨z1, e2, hJ⟩ := bnd hJ
  refine rd_int (n := 1726) (f := v_world) hx hb hK hP 2 0 rfl rfl e2 dX8_limit_6 ?_
  obtain ⟨z3, e4, hJ⟩ := bnd hJ
  refine rwViW (As := [.int z1]) (rest := []) (ci := 8) (q0 := 0) hx hb hml hown hts (c_X8_told l dC dI kI kB kZ a v_tape v_taped v_errorAt v_thrown v_world v_aside v_undone v_slots v_isKept v_undos v_seenPrefix v_seenLast v_seen v_previous v_gained v_gains v_decoded v_decodes v_readAt v_start v_kind v_word v_letters v_number v_fine v_text v_texted z1 H.size z3 e4) gX8_limit_X8_told qX8_told rfl ⟨Nat.le_of_ble_eq_true rfl, Nat.le_of_ble_eq_true rfl⟩ ⟨rfl, rfl⟩ hNW hK hP hD hS hA hK rfl rfl rfl hl.1 rfl rfl (Nat.le_of_ble_eq_true rfl) dX8_limit_7 z0 (fun H locs hP hD hS => ?_)
  obtain rfl := Option.some.inj hJ
  exact rw_iret hx hb hr hlocks rfl hP hD hS dX8_limit_10
theorem qX8_plainWidth : (yX8_plainWidth.cls = RX8) ∧ yX8_plainWidth.cls ≠ "java/lang/invoke/MethodHandle" ∧ yX8_plainWidth.cls ≠ "java/lang/invoke/VarHandle" ∧ (parseMethodDescriptor yX8_plainWidth.desc).map (fun d => d.parameters.length) = some 0 := by decide +kernel
set_option maxHeartbeats 4000000 in
set_option maxRecDepth 100000 in
theorem c_X8_plainWidth (fu : Nat) (l : Launch) (dC : Nat → ClassId) (dI : Nat → Nat → Nat) (kI kB kZ : ClassId) (a : Nat → Nat) (v_tape : Nat → Int32) (v_taped : Int32) (v_errorAt : Int32) (v_thrown : Int32) (v_world : Nat → Int32) (v_aside : Nat → Int32) (v_undone : Nat → Int32) (v_slots : Nat → Int32) (v_isKept : Nat → Int32) (v_undos : Int32) (v_seenPrefix : Nat → Int32) (v_seenLast : Nat → Int32) (v_seen : Int32) (v_previous : Int32) (v_gained : Nat → Int32) (v_gains : Int32) (v_decoded : Nat → Int32) (v_decodes : Int32) (v_readAt : Int32) (v_start : Int32) (v_kind : Int32) (v_word : Int64) (v_letters : Int32) (v_number : Int32) (v_fine : Int32) (v_text : Nat → Int32) (v_texted : Int32) (sz : Nat) (z : Int32 × Int32) (hJ : J_X8_plainWidth fu v_thrown v_world = some z) : Met l yX8_plainWidth wsX8_plainWidth ({ frames := 2, cells := 0, slots := 0, locals := 41 }) (va_Pc [.ref (a 0)] (RWp dC dI sz (MWc a kI kB kZ v_tape v_taped v_errorAt v_thrown v_world v_aside v_undone v_slots v_isKept v_undos v_seenPrefix v_seenLast v_seen v_previous v_gained v_gains v_decoded v_decodes v_readAt v_start v_kind v_word v_letters v_number v_fine v_text v_texted) [(kI, .int), (kB, .byte), (kZ, .boolean)])) (rwQi dC dI (va_A (MWc a kI kB kZ v_tape v_taped v_errorAt v_thrown v_world v_aside v_undone v_slots v_isKept v_undos v_seenPrefix v_seenLast v_seen v_previous v_gained v_gains v_decoded v_decodes v_readAt v_start v_kind v_word v_letters v_number v_fine v_text v_texted) sz) (MWc a kI kB kZ v_tape v_taped v_errorAt z.2 v_world v_aside v_undone v_slots v_isKept v_undos v_seenPrefix v_seenLast v_seen v_previous v_gained v_gains v_decoded v_decodes v_readAt v_start v_kind v_word v_letters v_number v_fine v_text v_texted) z.1) 0 0 (va_A (MWc a kI kB kZ v_tape v_taped v_errorAt v_thrown v_world v_aside v_undone v_slots v_isKept v_undos v_seenPrefix v_seenLast v_seen v_previous v_gained v_gains v_decoded v_decodes v_readAt v_start v_kind v_word v_letters v_number v_fine v_text v_texted) sz) := by
  refine rw_start (Qc := fun A => rwQi dC dI A (MWc a kI kB kZ v_tape v_taped v_errorAt z.2 v_world v_aside v_undone v_slots v_isKept v_undos v_seenPrefix v_seenLast v_seen v_previous v_gained v_gains v_decoded v_decodes v_readAt v_start v_kind v_word v_letters v_number v_fine v_text v_texted) z.1) (cc := cX8_plainWidth) (maxL := 1) (ret := (some .int)) (by decide) rfl (Nat.le_of_ble_eq_true rfl) ?_
  intro p e s m args below meth c hx hb hr hml hown hts hlocks hNW hK A hA H locs ls hP hD hS hl
  have hown : s.vm.findClass RX8 = some m.cls := hown
  have hl : lv_has ls 1 [(0, .ref (a 0))] := hl
  unfold J_X8_plainWidth at hJ
  refine lv_aload_n hx hb dX8_plainWidth_0 rfl (lv_at hl 0 rfl) ?_
  refine lv_aload_n hx hb dX8_plainWidth_1 rfl (lv_at hl 0 rfl) ?_
  obtain ⟨z1, e2, hJ⟩ := bnd hJ
  refine roVi (As := []) (rest := [.ref (a 0)]) (ci := 8) (q0 := 0) hx hb hml hown hts (c_X8_plain fu l dC dI kI kB kZ a v_tape v_taped v_errorAt v_thrown v_world v_aside v_undone v_slots v_isKept v_undos v_seenPrefix v_seenLast v_seen v_previous v_gained v_gains v_decoded v_decodes v_readAt v_start v_kind v_word v_letters v_number v_fine v_text v_texted z1 e2) gX8_plainWidth_X8_plain qX8_plain rfl ⟨Nat.le_of_ble_eq_true rfl, Nat.le_of_ble_eq_true rfl⟩ ⟨rfl, rfl⟩ hNW hK hP hS hP hK rfl rfl rfl hl.1 rfl rfl (Nat.le_of_ble_eq_true rfl) dX8_plainWidth_2 z0 (fun H locs hP hS => ?_)
  obtain ⟨z3, e4, hJ⟩ := bnd hJ
  refine rwViW (As := [.int z1]) (rest := []) (ci := 8) (q0 := 0) hx hb hml hown hts (c_X8_told l dC dI kI kB kZ a v_tape v_taped v_errorAt v_thrown v_world v_aside v_undone v_slots v_isKept v_undos v_seenPrefix v_seenLast v_seen v_previous v_gained v_gains v_decoded v_decodes v_readAt v_start v_kind v_word v_letters v_number v_fine v_text v_texted z1 H.size z3 e4) gX8_plainWidth_X8_told qX8_told rfl ⟨Nat.le_of_ble_eq_true rfl, Nat.le_of_ble_eq_true rfl⟩ ⟨rfl, rfl⟩ hNW hK hP hD hS hA hK rfl rfl rfl hl.1 rfl rfl (Nat.le_of_ble_eq_true rfl) dX8_plainWidth_5 z0 (fun H locs hP hD hS => ?_)
  obtain rfl := Option.some.inj hJ
  exact rw_iret hx hb hr hlocks rfl hP hD hS dX8_plainWidth_8
theorem qX8_clearCode : (yX8_clearCode.cls = RX8) ∧ yX8_clearCode.cls ≠ "java/lang/invoke/MethodHandle" ∧ yX8_clearCode.cls ≠ "java/lang/invoke/VarHandle" ∧ (parseMethodDescriptor yX8_clearCode.desc).map (fun d => d.parameters.length) = some 0 := by decide +kernel
set_option maxHeartbeats 4000000 in
set_option maxRecDepth 100000 in
theorem c_X8_clearCode (l : Launch) (dC : Nat → ClassId) (dI : Nat → Nat → Nat) (kI kB kZ : ClassId) (a : Nat → Nat) (v_tape : Nat → Int32) (v_taped : Int32) (v_errorAt : Int32) (v_thrown : Int32) (v_world : Nat → Int32) (v_aside : Nat → Int32) (v_undone : Nat → Int32) (v_slots : Nat → Int32) (v_isKept : Nat → Int32) (v_undos : Int32) (v_seenPrefix : Nat → Int32) (v_seenLast : Nat → Int32) (v_seen : Int32) (v_previous : Int32) (v_gained : Nat → Int32) (v_gains : Int32) (v_decoded : Nat → Int32) (v_decodes : Int32) (v_readAt : Int32) (v_start : Int32) (v_kind : Int32) (v_word : Int64) (v_letters : Int32) (v_number : Int32) (v_fine : Int32) (v_text : Nat → Int32) (v_texted : Int32) (sz : Nat) (z : Int32 × Int32) (hJ : J_X8_clearCode v_thrown v_world = some z) : Met l yX8_clearCode wsX8_clearCode ({ frames := 1, cells := 0, slots := 0, locals := 21 }) (va_Pc [.ref (a 0)] (RWp dC dI sz (MWc a kI kB kZ v_tape v_taped v_errorAt v_thrown v_world v_aside v_undone v_slots v_isKept v_undos v_seenPrefix v_seenLast v_seen v_previous v_gained v_gains v_decoded v_decodes v_readAt v_start v_kind v_word v_letters v_number v_fine v_text v_texted) [(kI, .int), (kB, .byte), (kZ, .boolean)])) (rwQi dC dI (va_A (MWc a kI kB kZ v_tape v_taped v_errorAt v_thrown v_world v_aside v_undone v_slots v_isKept v_undos v_seenPrefix v_seenLast v_seen v_previous v_gained v_gains v_decoded v_decodes v_readAt v_start v_kind v_word v_letters v_number v_fine v_text v_texted) sz) (MWc a kI kB kZ v_tape v_taped v_errorAt z.2 v_world v_aside v_undone v_slots v_isKept v_undos v_seenPrefix v_seenLast v_seen v_previous v_gained v_gains v_decoded v_decodes v_readAt v_start v_kind v_word v_letters v_number v_fine v_text v_texted) z.1) 0 0 (va_A (MWc a kI kB kZ v_tape v_taped v_errorAt v_thrown v_world v_aside v_undone v_slots v_isKept v_undos v_seenPrefix v_seenLast v_seen v_previous v_gained v_gains v_decoded v_decodes v_readAt v_start v_kind v_word v_letters v_number v_fine v_text v_texted) sz) := by
  refine rw_start (Qc := fun A => rwQi dC dI A (MWc a kI kB kZ v_tape v_taped v_errorAt z.2 v_world v_aside v_undone v_slots v_isKept v_undos v_seenPrefix v_seenLast v_seen v_previous v_gained v_gains v_decoded v_decodes v_readAt v_start v_kind v_word v_letters v_number v_fine v_text v_texted) z.1) (cc := cX8_clearCode) (maxL := 1) (ret := (some .int)) (by decide) rfl (Nat.le_of_ble_eq_true rfl) ?_
  intro p e s m args below meth c hx hb hr hml hown hts hlocks hNW hK A hA H locs ls hP hD hS hl
  have hown : s.vm.findClass RX8 = some m.cls := hown
  have hl : lv_has ls 1 [(0, .ref (a 0))] := hl
  unfold J_X8_clearCode at hJ
  refine lv_aload_n hx hb dX8_clearCode_0 rfl (lv_at hl 0 rfl) ?_
  refine lv_aload_n hx hb dX8_clearCode_1 rfl (lv_at hl 0 rfl) ?_
  obtain ⟨z1, e2, hJ⟩ := bnd hJ
  refine roVi (As := []) (rest := [.ref (a 0)]) (ci := 8) (q0 := 0) hx hb hml hown hts (c_X8_clear l dC dI kI kB kZ a v_tape v_taped v_errorAt v_thrown v_world v_aside v_undone v_slots v_isKept v_undos v_seenPrefix v_seenLast v_seen v_previous v_gained v_gains v_decoded v_decodes v_readAt v_start v_kind v_word v_letters v_number v_fine v_text v_texted z1 e2) gX8_clearCode_X8_clear qX8_clear rfl ⟨Nat.le_of_ble_eq_true rfl, Nat.le_of_ble_eq_true rfl⟩ ⟨rfl, rfl⟩ hNW hK hP hS hP hK rfl rfl rfl hl.1 rfl rfl (Nat.le_of_ble_eq_true rfl) dX8_clearCode_2 z0 (fun H locs hP hS => ?_)
  obtain ⟨z3, e4, hJ⟩ := bnd hJ
  refine rwViW (As := [.int z1]) (rest := []) (ci := 8) (q0 := 0) hx hb hml hown hts (c_X8_told l dC dI kI kB kZ a v_tape v_taped v_errorAt v_thrown v_world v_aside v_undone v_slots v_isKept v_undos v_seenPrefix v_seenLast v_seen v_previous v_gained v_gains v_decoded v_decodes v_readAt v_start v_kind v_word v_letters v_number v_fine v_text v_texted z1 H.size z3 e4) gX8_clearCode_X8_told qX8_told rfl ⟨Nat.le_of_ble_eq_true rfl, Nat.le_of_ble_eq_true rfl⟩ ⟨rfl, rfl⟩ hNW hK hP hD hS hA hK rfl rfl rfl hl.1 rfl rfl (Nat.le_of_ble_eq_true rfl) dX8_clearCode_5 z0 (fun H locs hP hD hS => ?_)
  obtain rfl := Option.some.inj hJ
  exact rw_iret hx hb hr hlocks rfl hP hD hS dX8_clearCode_8
theorem qX8_codeCount : (yX8_codeCount.cls = RX8) ∧ yX8_codeCount.cls ≠ "java/lang/invoke/MethodHandle" ∧ yX8_codeCount.cls ≠ "java/lang/invoke/VarHandle" ∧ (parseMethodDescriptor yX8_codeCount.desc).map (fun d => d.parameters.length) = some 0 := by decide +kernel
set_option maxHeartbeats 4000000 in
set_option maxRecDepth 100000 in
theorem c_X8_codeCount (l : Launch) (dC : Nat → ClassId) (dI : Nat → Nat → Nat) (kI kB kZ : ClassId) (a : Nat → Nat) (v_tape : Nat → Int32) (v_taped : Int32) (v_errorAt : Int32) (v_thrown : Int32) (v_world : Nat → Int32) (v_aside : Nat → Int32) (v_undone : Nat → Int32) (v_slots : Nat → Int32) (v_isKept : Nat → Int32) (v_undos : Int32) (v_seenPrefix : Nat → Int32) (v_seenLast : Nat → Int32) (v_seen : Int32) (v_previous : Int32) (v_gained : Nat → Int32) (v_gains : Int32) (v_decoded : Nat → Int32) (v_decodes : Int32) (v_readAt : Int32) (v_start : Int32) (v_kind : Int32) (v_word : Int64) (v_letters : Int32) (v_number : Int32) (v_fine : Int32) (v_text : Nat → Int32) (v_texted : Int32) (sz : Nat) (z : Int32 × Int32) (hJ : J_X8_codeCount v_thrown v_world = some z) : Met l yX8_codeCount wsX8_codeCount ({ frames := 1, cells := 0, slots := 0, locals := 21 }) (va_Pc [.ref (a 0)] (RWp dC dI sz (MWc a kI kB kZ v_tape v_taped v_errorAt v_thrown v_world v_aside v_undone v_slots v_isKept v_undos v_seenPrefix v_seenLast v_seen v_previous v_gained v_gains v_decoded v_decodes v_readAt v_start v_kind v_word v_letters v_number v_fine v_text v_texted) [(kI, .int), (kB, .byte), (kZ, .boolean)])) (rwQi dC dI (va_A (MWc a kI kB kZ v_tape v_taped v_errorAt v_thrown v_world v_aside v_undone v_slots v_isKept v_undos v_seenPrefix v_seenLast v_seen v_previous v_gained v_gains v_decoded v_decodes v_readAt v_start v_kind v_word v_letters v_number v_fine v_text v_texted) sz) (MWc a kI kB kZ v_tape v_taped v_errorAt z.2 v_world v_aside v_undone v_slots v_isKept v_undos v_seenPrefix v_seenLast v_seen v_previous v_gained v_gains v_decoded v_decodes v_readAt v_start v_kind v_word v_letters v_number v_fine v_text v_texted) z.1) 0 0 (va_A (MWc a kI kB kZ v_tape v_taped v_errorAt v_thrown v_world v_aside v_undone v_slots v_isKept v_undos v_seenPrefix v_seenLast v_seen v_previous v_gained v_gains v_decoded v_decodes v_readAt v_start v_kind v_word v_letters v_number v_fine v_text v_texted) sz) := by
  refine rw_start (Qc := fun A => rwQi dC dI A (MWc a kI kB kZ v_tape v_taped v_errorAt z.2 v_world v_aside v_undone v_slots v_isKept v_undos v_seenPrefix v_seenLast v_seen v_previous v_gained v_gains v_decoded v_decodes v_readAt v_start v_kind v_word v_letters v_number v_fine v_text v_texted) z.1) (cc := cX8_codeCount) (maxL := 1) (ret := (some .int)) (by decide) rfl (Nat.le_of_ble_eq_true rfl) ?_
  intro p e s m args below meth c hx hb hr hml hown hts hlocks hNW hK A hA H locs ls hP hD hS hl
  have hown : s.vm.findClass RX8 = some m.cls := hown
  have hl : lv_has ls 1 [(0, .ref (a 0))] := hl
  unfold J_X8_codeCount at hJ
  refine lv_aload_n hx hb dX8_codeCount_0 rfl (lv_at hl 0 rfl) ?_
  refine lv_aload_n hx hb dX8_codeCount_1 rfl (lv_at hl 0 rfl) ?_
  refine va_get (D := (dC, dI)) (ci := 8) (v := .ref (a 2)) (C := RX8) (T := TX8) (N := 27) hx hb hts (fun _ h => List.mem_cons_of_mem _ (List.mem_append_right _ h)) hown hK hP 0 rfl rfl 4 (by decide) (hts _ (List.mem_of_getElem? (i := 1) rfl)) (fun _ h9 => h9) rfl dX8_codeCount_2 ?_
  refine lv_iconst (v := 4) hx hb dX8_codeCount_5 (by decide) ?_
  obtain ⟨z1, e2, hJ⟩ := bnd hJ
  refine rd_int (n := 1726) (f := v_world) hx hb hK hP 2 0 rfl rfl e2 dX8_codeCount_6 ?_
  obtain ⟨z3, e4, hJ⟩ := bnd hJ
  refine rwViW (As := [.int z1]) (rest := []) (ci := 8) (q0 := 0) hx hb hml hown hts (c_X8_told l dC dI kI kB kZ a v_tape v_taped v_errorAt v_thrown v_world v_aside v_undone v_slots v_isKept v_undos v_seenPrefix v_seenLast v_seen v_previous v_gained v_gains v_decoded v_decodes v_readAt v_start v_kind v_word v_letters v_number v_fine v_text v_texted z1 H.size z3 e4) gX8_codeCount_X8_told qX8_told rfl ⟨Nat.le_of_ble_eq_true rfl, Nat.le_of_ble_eq_true rfl⟩ ⟨rfl, rfl⟩ hNW hK hP hD hS hA hK rfl rfl rfl hl.1 rfl rfl (Nat.le_of_ble_eq_true rfl) dX8_codeCount_7 z0 (fun H locs hP hD hS => ?_)
  obtain rfl := Option.some.inj hJ
  exact rw_iret hx hb hr hlocks rfl hP hD hS dX8_codeCount_10
theorem qX8_capacity : (yX8_capacity.cls = RX8) ∧ yX8_capacity.cls ≠ "java/lang/invoke/MethodHandle" ∧ yX8_capacity.cls ≠ "java/lang/invoke/VarHandle" ∧ (parseMethodDescriptor yX8_capacity.desc).map (fun d => d.parameters.length) = some 0 := by decide +kernel
set_option maxHeartbeats 4000000 in
set_option maxRecDepth 100000 in
theorem c_X8_capacity (l : Launch) (dC : Nat → ClassId) (dI : Nat → Nat → Nat) (kI kB kZ : ClassId) (a : Nat → Nat) (v_tape : Nat → Int32) (v_taped : Int32) (v_errorAt : Int32) (v_thrown : Int32) (v_world : Nat → Int32) (v_aside : Nat → Int32) (v_undone : Nat → Int32) (v_slots : Nat → Int32) (v_isKept : Nat → Int32) (v_undos : Int32) (v_seenPrefix : Nat → Int32) (v_seenLast : Nat → Int32) (v_seen : Int32) (v_previous : Int32) (v_gained : Nat → Int32) (v_gains : Int32) (v_decoded : Nat → Int32) (v_decodes : Int32) (v_readAt : Int32) (v_start : Int32) (v_kind : Int32) (v_word : Int64) (v_letters : Int32) (v_number : Int32) (v_fine : Int32) (v_text : Nat → Int32) (v_texted : Int32) (sz : Nat) (z : Int32 × Int32) (hJ : J_X8_capacity v_thrown v_world = some z) : Met l yX8_capacity wsX8_capacity ({ frames := 1, cells := 0, slots := 0, locals := 21 }) (va_Pc [.ref (a 0)] (RWp dC dI sz (MWc a kI kB kZ v_tape v_taped v_errorAt v_thrown v_world v_aside v_undone v_slots v_isKept v_undos v_seenPrefix v_seenLast v_seen v_previous v_gained v_gains v_decoded v_decodes v_readAt v_start v_kind v_word v_letters v_number v_fine v_text v_texted) [(kI, .int), (kB, .byte), (kZ, .boolean)])) (rwQi dC dI (va_A (MWc a kI kB kZ v_tape v_taped v_errorAt v_thrown v_world v_aside v_undone v_slots v_isKept v_undos v_seenPrefix v_seenLast v_seen v_previous v_gained v_gains v_decoded v_decodes v_readAt v_start v_kind v_word v_letters v_number v_fine v_text v_texted) sz) (MWc a kI kB kZ v_tape v_taped v_errorAt z.2 v_world v_aside v_undone v_slots v_isKept v_undos v_seenPrefix v_seenLast v_seen v_previous v_gained v_gains v_decoded v_decodes v_readAt v_start v_kind v_word v_letters v_number v_fine v_text v_texted) z.1) 0 0 (va_A (MWc a kI kB kZ v_tape v_taped v_errorAt v_thrown v_world v_aside v_undone v_slots v_isKept v_undos v_seenPrefix v_seenLast v_seen v_previous v_gained v_gains v_decoded v_decodes v_readAt v_start v_kind v_word v_letters v_number v_fine v_text v_texted) sz) := by
  refine rw_start (Qc := fun A => rwQi dC dI A (MWc a kI kB kZ v_tape v_taped v_errorAt z.2 v_world v_aside v_undone v_slots v_isKept v_undos v_seenPrefix v_seenLast v_seen v_previous v_gained v_gains v_decoded v_decodes v_readAt v_start v_kind v_word v_letters v_number v_fine v_text v_texted) z.1) (cc := cX8_capacity) (maxL := 1) (ret := (some .int)) (by decide) rfl (Nat.le_of_ble_eq_true rfl) ?_
  intro p e s m args below meth c hx hb hr hml hown hts hlocks hNW hK A hA H locs ls hP hD hS hl
  have hown : s.vm.findClass RX8 = some m.cls := hown
  have hl : lv_has ls 1 [(0, .ref (a 0))] := hl
  unfold J_X8_capacity at hJ
  refine lv_aload_n hx hb dX8_capacity_0 rfl (lv_at hl 0 rfl) ?_
  refine lv_aload_n hx hb dX8_capacity_1 rfl (lv_at hl 0 rfl) ?_
  obtain ⟨z1, e2, hJ⟩ := bnd hJ
  refine roVi (As := []) (rest := [.ref (a 0)]) (ci := 8) (q0 := 0) hx hb hml hown hts (c_X8_mostCodes l dC dI kI kB kZ a v_tape v_taped v_errorAt v_thrown v_world v_aside v_undone v_slots v_isKept v_undos v_seenPrefix v_seenLast v_seen v_previous v_gained v_gains v_decoded v_decodes v_readAt v_start v_kind v_word v_letters v_number v_fine v_text v_texted z1 e2) gX8_capacity_X8_mostCodes qX8_mostCodes rfl ⟨Nat.le_of_ble_eq_true rfl, Nat.le_of_ble_eq_true rfl⟩ ⟨rfl, rfl⟩ hNW hK hP hS hP hK rfl rfl rfl hl.1 rfl rfl (Nat.le_of_ble_eq_true rfl) dX8_capacity_2 z0 (fun H locs hP hS => ?_)
  obtain ⟨z3, e4, hJ⟩ := bnd hJ
  refine rwViW (As := [.int z1]) (rest := []) (ci := 8) (q0 := 0) hx hb hml hown hts (c_X8_told l dC dI kI kB kZ a v_tape v_taped v_errorAt v_thrown v_world v_aside v_undone v_slots v_isKept v_undos v_seenPrefix v_seenLast v_seen v_previous v_gained v_gains v_decoded v_decodes v_readAt v_start v_kind v_word v_letters v_number v_fine v_text v_texted z1 H.size z3 e4) gX8_capacity_X8_told qX8_told rfl ⟨Nat.le_of_ble_eq_true rfl, Nat.le_of_ble_eq_true rfl⟩ ⟨rfl, rfl⟩ hNW hK hP hD hS hA hK rfl rfl rfl hl.1 rfl rfl (Nat.le_of_ble_eq_true rfl) dX8_capacity_5 z0 (fun H locs hP hD hS => ?_)
  obtain rfl := Option.some.inj hJ
  exact rw_iret hx hb hr hlocks rfl hP hD hS dX8_capacity_8
theorem qX8_isFull : (yX8_isFull.cls = RX8) ∧ yX8_isFull.cls ≠ "java/lang/invoke/MethodHandle" ∧ yX8_isFull.cls ≠ "java/lang/invoke/VarHandle" ∧ (parseMethodDescriptor yX8_isFull.desc).map (fun d => d.parameters.length) = some 0 := by decide +kernel
set_option maxHeartbeats 4000000 in
set_option maxRecDepth 100000 in
theorem c_X8_isFull (l : Launch) (dC : Nat → ClassId) (dI : Nat → Nat → Nat) (kI kB kZ : ClassId) (a : Nat → Nat) (v_tape : Nat → Int32) (v_taped : Int32) (v_errorAt : Int32) (v_thrown : Int32) (v_world : Nat → Int32) (v_aside : Nat → Int32) (v_undone : Nat → Int32) (v_slots : Nat → Int32) (v_isKept : Nat → Int32) (v_undos : Int32) (v_seenPrefix : Nat → Int32) (v_seenLast : Nat → Int32) (v_seen : Int32) (v_previous : Int32) (v_gained : Nat → Int32) (v_gains : Int32) (v_decoded : Nat → Int32) (v_decodes : Int32) (v_readAt : Int32) (v_start : Int32) (v_kind : Int32) (v_word : Int64) (v_letters : Int32) (v_number : Int32) (v_fine : Int32) (v_text : Nat → Int32) (v_texted : Int32) (sz : Nat) (z : Int32 × Int32) (hJ : J_X8_isFull v_thrown v_world = some z) : Met l yX8_isFull wsX8_isFull ({ frames := 2, cells := 0, slots := 0, locals := 40 }) (va_Pc [.ref (a 0)] (RWp dC dI sz (MWc a kI kB kZ v_tape v_taped v_errorAt v_thrown v_world v_aside v_undone v_slots v_isKept v_undos v_seenPrefix v_seenLast v_seen v_previous v_gained v_gains v_decoded v_decodes v_readAt v_start v_kind v_word v_letters v_number v_fine v_text v_texted) [(kI, .int), (kB, .byte), (kZ, .boolean)])) (rwQi dC dI (va_A (MWc a kI kB kZ v_tape v_taped v_errorAt v_thrown v_world v_aside v_undone v_slots v_isKept v_undos v_seenPrefix v_seenLast v_seen v_previous v_gained v_gains v_decoded v_decodes v_readAt v_start v_kind v_word v_letters v_number v_fine v_text v_texted) sz) (MWc a kI kB kZ v_tape v_taped v_errorAt z.2 v_world v_aside v_undone v_slots v_isKept v_undos v_seenPrefix v_seenLast v_seen v_previous v_gained v_gains v_decoded v_decodes v_readAt v_start v_kind v_word v_letters v_number v_fine v_text v_texted) z.1) 0 0 (va_A (MWc a kI kB kZ v_tape v_taped v_errorAt v_thrown v_world v_aside v_undone v_slots v_isKept v_undos v_seenPrefix v_seenLast v_seen v_previous v_gained v_gains v_decoded v_decodes v_readAt v_start v_kind v_word v_letters v_number v_fine v_text v_texted) sz) := by
  refine rw_start (Qc := fun A => rwQi dC dI A (MWc a kI kB kZ v_tape v_taped v_errorAt z.2 v_world v_aside v_undone v_slots v_isKept v_undos v_seenPrefix v_seenLast v_seen v_previous v_gained v_gains v_decoded v_decodes v_readAt v_start v_kind v_word v_letters v_number v_fine v_text v_texted) z.1) (cc := cX8_isFull) (maxL := 1) (ret := (some .boolean)) (by decide) rfl (Nat.le_of_ble_eq_true rfl) ?_
  intro p e s m args below meth c hx hb hr hml hown hts hlocks hNW hK A hA H locs ls hP hD hS hl
  have hown : s.vm.findClass RX8 = some m.cls := hown
  have hl : lv_has ls 1 [(0, .ref (a 0))] := hl
  unfold J_X8_isFull at hJ
  refine lv_aload_n hx hb dX8_isFull_0 rfl (lv_at hl 0 rfl) ?_
  refine lv_aload_n hx hb dX8_isFull_1 rfl (lv_at hl 0 rfl) ?_
  obtain ⟨z1, e2, hJ⟩ := bnd hJ
  refine roVi (As := []) (rest := [.ref (a 0)]) (ci := 8) (q0 := 0) hx hb hml hown hts (c_X8_isAllFull l dC dI kI kB kZ a v_tape v_taped v_errorAt v_thrown v_world v_aside v_undone v_slots v_isKept v_undos v_seenPrefix v_seenLast v_seen v_previous v_gained v_gains v_decoded v_decodes v_readAt v_start v_kind v_word v_letters v_number v_fine v_text v_texted z1 e2) gX8_isFull_X8_isAllFull qX8_isAllFull rfl ⟨Nat.le_of_ble_eq_true rfl, Nat.le_of_ble_eq_true rfl⟩ ⟨rfl, rfl⟩ hNW hK hP hS hP hK rfl rfl rfl hl.1 rfl rfl (Nat.le_of_ble_eq_true rfl) dX8_isFull_2 z0 (fun H locs hP hS => ?_)
  obtain ⟨z3, e4, hJ⟩ := bnd hJ
  refine rwViW (As := [.int z1]) (rest := []) (ci := 8) (q0 := 0) hx hb hml hown hts (c_X8_toldIf l dC dI kI kB kZ a v_tape v_taped v_errorAt v_thrown v_world v_aside v_undone v_slots v_isKept v_undos v_seenPrefix v_seenLast v_seen v_previous v_gained v_gains v_decoded v_decodes v_readAt v_start v_kind v_word v_letters v_number v_fine v_text v_texted z1 H.size z3 e4) gX8_isFull_X8_toldIf qX8_toldIf rfl ⟨Nat.le_of_ble_eq_true rfl, Nat.le_of_ble_eq_true rfl⟩ ⟨rfl, rfl⟩ hNW hK hP hD hS hA hK rfl rfl rfl hl.1 rfl rfl (Nat.le_of_ble_eq_true rfl) dX8_isFull_5 z0 (fun H locs hP hD hS => ?_)
  obtain ⟨h5, hJ⟩ := ite_some hJ
  obtain rfl := Option.some.inj hJ
  exact rw_zret hx hb hr hlocks (nar_z h5) rfl hP hD hS dX8_isFull_8
theorem qX8_codeWidth : (yX8_codeWidth.cls = RX8) ∧ yX8_codeWidth.cls ≠ "java/lang/invoke/MethodHandle" ∧ yX8_codeWidth.cls ≠ "java/lang/invoke/VarHandle" ∧ (parseMethodDescriptor yX8_codeWidth.desc).map (fun d => d.parameters.length) = some 0 := by decide +kernel
set_option maxHeartbeats 4000000 in
set_option maxRecDepth 100000 in
theorem c_X8_codeWidth (fu : Nat) (l : Launch) (dC : Nat → ClassId) (dI : Nat → Nat → Nat) (kI kB kZ : ClassId) (a : Nat → Nat) (v_tape : Nat → Int32) (v_taped : Int32) (v_errorAt : Int32) (v_thrown : Int32) (v_world : Nat → Int32) (v_aside : Nat → Int32) (v_undone : Nat → Int32) (v_slots : Nat → Int32) (v_isKept : Nat → Int32) (v_undos : Int32) (v_seenPrefix : Nat → Int32) (v_seenLast : Nat → Int32) (v_seen : Int32) (v_previous : Int32) (v_gained : Nat → Int32) (v_gains : Int32) (v_decoded : Nat → Int32) (v_decodes : Int32) (v_readAt : Int32) (v_start : Int32) (v_kind : Int32) (v_word : Int64) (v_letters : Int32) (v_number : Int32) (v_fine : Int32) (v_text : Nat → Int32) (v_texted : Int32) (sz : Nat) (z : Int32 × Int32) (hJ : J_X8_codeWidth fu v_thrown v_world = some z) : Met l yX8_codeWidth wsX8_codeWidth ({ frames := 1, cells := 0, slots := 0, locals := 21 }) (va_Pc [.ref (a 0)] (RWp dC dI sz (MWc a kI kB kZ v_tape v_taped v_errorAt v_thrown v_world v_aside v_undone v_slots v_isKept v_undos v_seenPrefix v_seenLast v_seen v_previous v_gained v_gains v_decoded v_decodes v_readAt v_start v_kind v_word v_letters v_number v_fine v_text v_texted) [(kI, .int), (kB, .byte), (kZ, .boolean)])) (rwQi dC dI (va_A (MWc a kI kB kZ v_tape v_taped v_errorAt v_thrown v_world v_aside v_undone v_slots v_isKept v_undos v_seenPrefix v_seenLast v_seen v_previous v_gained v_gains v_decoded v_decodes v_readAt v_start v_kind v_word v_letters v_number v_fine v_text v_texted) sz) (MWc a kI kB kZ v_tape v_taped v_errorAt z.2 v_world v_aside v_undone v_slots v_isKept v_undos v_seenPrefix v_seenLast v_seen v_previous v_gained v_gains v_decoded v_decodes v_readAt v_start v_kind v_word v_letters v_number v_fine v_text v_texted) z.1) 0 0 (va_A (MWc a kI kB kZ v_tape v_taped v_errorAt v_thrown v_world v_aside v_undone v_slots v_isKept v_undos v_seenPrefix v_seenLast v_seen v_previous v_gained v_gains v_decoded v_decodes v_readAt v_start v_kind v_word v_letters v_number v_fine v_text v_texted) sz) := by
  refine rw_start (Qc := fun A => rwQi dC dI A (MWc a kI kB kZ v_tape v_taped v_errorAt z.2 v_world v_aside v_undone v_slots v_isKept v_undos v_seenPrefix v_seenLast v_seen v_previous v_gained v_gains v_decoded v_decodes v_readAt v_start v_kind v_word v_letters v_number v_fine v_text v_texted) z.1) (cc := cX8_codeWidth) (maxL := 1) (ret := (some .int)) (by decide) rfl (Nat.le_of_ble_eq_true rfl) ?_
  intro p e s m args below meth c hx hb hr hml hown hts hlocks hNW hK A hA H locs ls hP hD hS hl
  have hown : s.vm.findClass RX8 = some m.cls := hown
  have hl : lv_has ls 1 [(0, .ref (a 0))] := hl
  unfold J_X8_codeWidth at hJ
  refine lv_aload_n hx hb dX8_codeWidth_0 rfl (lv_at hl 0 rfl) ?_
  refine lv_aload_n hx hb dX8_codeWidth_1 rfl (lv_at hl 0 rfl) ?_
  refine va_get (D := (dC, dI)) (ci := 8) (v := .ref (a 2)) (C := RX8) (T := TX8) (N := 27) hx hb hts (fun _ h => List.mem_cons_of_mem _ (List.mem_append_right _ h)) hown hK hP 0 rfl rfl 4 (by decide) (hts _ (List.mem_of_getElem? (i := 1) rfl)) (fun _ h9 => h9) rfl dX8_codeWidth_2 ?_
  refine lv_iconst (v := 4) hx hb dX8_codeWidth_5 (by decide) ?_
  obtain ⟨z1, e2, hJ⟩ := bnd hJ
  refine rd_int (n := 1726) (f := v_world) hx hb hK hP 2 0 rfl rfl e2 dX8_codeWidth_6 ?_
  obtain ⟨z3, e4, hJ⟩ := bnd hJ
  refine roSi (As := [.int z1]) (rest := [.ref (a 0)]) hx hb hml hown hts (c_X8_bitsFor fu l dC dI z1 z3 e4) gX8_codeWidth_X8_bitsFor qX8_bitsFor rfl ⟨Nat.le_of_ble_eq_true rfl, Nat.le_of_ble_eq_true rfl⟩ ⟨rfl, rfl⟩ hNW hK hP hS (hP.sub (ws' := []) [] rfl) (hK.sub (tys' := []) [] rfl) hl.1 rfl rfl (Nat.le_of_ble_eq_true rfl) dX8_codeWidth_7 z0 (fun H locs hP hS => ?_)
  obtain ⟨z5, e6, hJ⟩ := bnd hJ
  refine rwViW (As := [.int z3]) (rest := []) (ci := 8) (q0 := 0) hx hb hml hown hts (c_X8_told l dC dI kI kB kZ a v_tape v_taped v_errorAt v_thrown v_world v_aside v_undone v_slots v_isKept v_undos v_seenPrefix v_seenLast v_seen v_previous v_gained v_gains v_decoded v_decodes v_readAt v_start v_kind v_word v_letters v_number v_fine v_text v_texted z3 H.size z5 e6) gX8_codeWidth_X8_told qX8_told rfl ⟨Nat.le_of_ble_eq_true rfl, Nat.le_of_ble_eq_true rfl⟩ ⟨rfl, rfl⟩ hNW hK hP hD hS hA hK rfl rfl rfl hl.1 rfl rfl (Nat.le_of_ble_eq_true rfl) dX8_codeWidth_10 z0 (fun H locs hP hD hS => ?_)
  obtain rfl := Option.some.inj hJ
  exact rw_iret hx hb hr hlocks rfl hP hD hS dX8_codeWidth_13
theorem qX8_phraseLength : (yX8_phraseLength.cls = RX8) ∧ yX8_phraseLength.cls ≠ "java/lang/invoke/MethodHandle" ∧ yX8_phraseLength.cls ≠ "java/lang/invoke/VarHandle" ∧ (parseMethodDescriptor yX8_phraseLength.desc).map (fun d => d.parameters.length) = some 1 := by decide +kernel
set_option maxHeartbeats 4000000 in
set_option maxRecDepth 100000 in
theorem c_X8_phraseLength (fu : Nat) (l : Launch) (dC : Nat → ClassId) (dI : Nat → Nat → Nat) (kI kB kZ : ClassId) (a : Nat → Nat) (v_tape : Nat → Int32) (v_taped : Int32) (v_errorAt : Int32) (v_thrown : Int32) (v_world : Nat → Int32) (v_aside : Nat → Int32) (v_undone : Nat → Int32) (v_slots : Nat → Int32) (v_isKept : Nat → Int32) (v_undos : Int32) (v_seenPrefix : Nat → Int32) (v_seenLast : Nat → Int32) (v_seen : Int32) (v_previous : Int32) (v_gained : Nat → Int32) (v_gains : Int32) (v_decoded : Nat → Int32) (v_decodes : Int32) (v_readAt : Int32) (v_start : Int32) (v_kind : Int32) (v_word : Int64) (v_letters : Int32) (v_number : Int32) (v_fine : Int32) (v_text : Nat → Int32) (v_texted : Int32) (p0 : Int32) (sz : Nat) (z : Int32 × Int32) (hJ : J_X8_phraseLength fu v_thrown v_world p0 = some z) : Met l yX8_phraseLength wsX8_phraseLength ({ frames := 3, cells := 0, slots := 0, locals := 64 }) (va_Pc [.ref (a 0), .int p0] (RWp dC dI sz (MWc a kI kB kZ v_tape v_taped v_errorAt v_thrown v_world v_aside v_undone v_slots v_isKept v_undos v_seenPrefix v_seenLast v_seen v_previous v_gained v_gains v_decoded v_decodes v_readAt v_start v_kind v_word v_letters v_number v_fine v_text v_texted) [(kI, .int), (kB, .byte), (kZ, .boolean)])) (rwQi dC dI (va_A (MWc a kI kB kZ v_tape v_taped v_errorAt v_thrown v_world v_aside v_undone v_slots v_isKept v_undos v_seenPrefix v_seenLast v_seen v_previous v_gained v_gains v_decoded v_decodes v_readAt v_start v_kind v_word v_letters v_number v_fine v_text v_texted) sz) (MWc a kI kB kZ v_tape v_taped v_errorAt z.2 v_world v_aside v_undone v_slots v_isKept v_undos v_seenPrefix v_seenLast v_seen v_previous v_gained v_gains v_decoded v_decodes v_readAt v_start v_kind v_word v_letters v_number v_fine v_text v_texted) z.1) 0 0 (va_A (MWc a kI kB kZ v_tape v_taped v_errorAt v_thrown v_world v_aside v_undone v_slots v_isKept v_undos v_seenPrefix v_seenLast v_seen v_previous v_gained v_gains v_decoded v_decodes v_readAt v_start v_kind v_word v_letters v_number v_fine v_text v_texted) sz) := by
  refine rw_start (Qc := fun A => rwQi dC dI A (MWc a kI kB kZ v_tape v_taped v_errorAt z.2 v_world v_aside v_undone v_slots v_isKept v_undos v_seenPrefix v_seenLast v_seen v_previous v_gained v_gains v_decoded v_decodes v_readAt v_start v_kind v_word v_letters v_number v_fine v_text v_texted) z.1) (cc := cX8_phraseLength) (maxL := 2) (ret := (some .int)) (by decide) rfl (Nat.le_of_ble_eq_true rfl) ?_
  intro p e s m args below meth c hx hb hr hml hown hts hlocks hNW hK A hA H locs ls hP hD hS hl
  have hown : s.vm.findClass RX8 = some m.cls := hown
  have hl : lv_has ls 2 [(0, .ref (a 0)), (1, .int p0)] := hl
  unfold J_X8_phraseLength at hJ
  refine lv_aload_n hx hb dX8_phraseLength_0 rfl (lv_at hl 0 rfl) ?_
  refine lv_iload_n hx hb dX8_phraseLength_1 rfl (lv_at hl 1 rfl) ?_
  obtain ⟨z1, e2, hJ⟩ := bnd hJ
  refine roVi (As := [.int p0]) (rest := []) (ci := 8) (q0 := 0) hx hb hml hown hts (c_X8_isCode l dC dI kI kB kZ a v_tape v_taped v_errorAt v_thrown v_world v_aside v_undone v_slots v_isKept v_undos v_seenPrefix v_seenLast v_seen v_previous v_gained v_gains v_decoded v_decodes v_readAt v_start v_kind v_word v_letters v_number v_fine v_text v_texted p0 z1 e2) gX8_phraseLength_X8_isCode qX8_isCode rfl ⟨Nat.le_of_ble_eq_true rfl, Nat.le_of_ble_eq_true rfl⟩ ⟨rfl, rfl⟩ hNW hK hP hS hP hK rfl rfl rfl hl.1 rfl rfl (Nat.le_of_ble_eq_true rfl) dX8_phraseLength_2 z0 (fun H locs hP hS => ?_)
  refine lv_if_ne (tgt := 14) hx hb dX8_phraseLength_5 (by decide) (fun c3 => ?_) (fun c3 => ?_)
  · have hJ := ite_f c3 hJ
    refine lv_aload_n hx hb dX8_phraseLength_14 rfl (lv_at hl 0 rfl) ?_
    refine lv_aload_n hx hb dX8_phraseLength_15 rfl (lv_at hl 0 rfl) ?_
    refine lv_iload_n hx hb dX8_phraseLength_16 rfl (lv_at hl 1 rfl) ?_
    obtain ⟨z4, e5, hJ⟩ := bnd hJ
    refine roVi (As := [.int p0]) (rest := [.ref (a 0)]) (ci := 8) (q0 := 0) hx hb hml hown hts (c_X8_lengthOf fu l dC dI kI kB kZ a v_tape v_taped v_errorAt v_thrown v_world v_aside v_undone v_slots v_isKept v_undos v_seenPrefix v_seenLast v_seen v_previous v_gained v_gains v_decoded v_decodes v_readAt v_start v_kind v_word v_letters v_number v_fine v_text v_texted p0 z4 e5) gX8_phraseLength_X8_lengthOf qX8_lengthOf rfl ⟨Nat.le_of_ble_eq_true rfl, Nat.le_of_ble_eq_true rfl⟩ ⟨rfl, rfl⟩ hNW hK hP hS hP hK rfl rfl rfl hl.1 rfl rfl (Nat.le_of_ble_eq_true rfl) dX8_phraseLength_17 z0 (fun H locs hP hS => ?_)
    obtain ⟨z6, e7, hJ⟩ := bnd hJ
    refine rwViW (As := [.int z4]) (rest := []) (ci := 8) (q0 := 0) hx hb hml hown hts (c_X8_told l dC dI kI kB kZ a v_tape v_taped v_errorAt v_thrown v_world v_aside v_undone v_slots v_isKept v_undos v_seenPrefix v_seenLast v_seen v_previous v_gained v_gains v_decoded v_decodes v_readAt v_start v_kind v_word v_letters v_number v_fine v_text v_texted z4 H.size z6 e7) gX8_phraseLength_X8_told qX8_told rfl ⟨Nat.le_of_ble_eq_true rfl, Nat.le_of_ble_eq_true rfl⟩ ⟨rfl, rfl⟩ hNW hK hP hD hS hA hK rfl rfl rfl hl.1 rfl rfl (Nat.le_of_ble_eq_true rfl) dX8_phraseLength_20 z0 (fun H locs hP hD hS => ?_)
    obtain rfl := Option.some.inj hJ
    exact rw_iret hx hb hr hlocks rfl hP hD hS dX8_phraseLength_23
  · have hJ := ite_t c3 hJ
    refine lv_aload_n hx hb dX8_phraseLength_8 rfl (lv_at hl 0 rfl) ?_
    refine lv_iconst (v := 1) hx hb dX8_phraseLength_9 (by decide) ?_
    obtain ⟨z8, e9, hJ⟩ := bnd hJ
    refine rwViW (As := [.int (1 : Int32)]) (rest := []) (ci := 8) (q0 := 0) hx hb hml hown hts (c_X8_throwing l dC dI kI kB kZ a v_tape v_taped v_errorAt v_thrown v_world v_aside v_undone v_slots v_isKept v_undos v_seenPrefix v_seenLast v_seen v_previous v_gained v_gains v_decoded v_decodes v_readAt v_start v_kind v_word v_letters v_number v_fine v_text v_texted (1 : Int32) H.size z8 e9) gX8_phraseLength_X8_throwing qX8_throwing rfl ⟨Nat.le_of_ble_eq_true rfl, Nat.le_of_ble_eq_true rfl⟩ ⟨rfl, rfl⟩ hNW hK hP hD hS hA hK rfl rfl rfl hl.1 rfl rfl (Nat.le_of_ble_eq_true rfl) dX8_phraseLength_10 z0 (fun H locs hP hD hS => ?_)
    obtain rfl := Option.some.inj hJ
    exact rw_iret hx hb hr hlocks rfl hP hD hS dX8_phraseLength_13
theorem qX8_phraseSymbol : (yX8_phraseSymbol.cls = RX8) ∧ yX8_phraseSymbol.cls ≠ "java/lang/invoke/MethodHandle" ∧ yX8_phraseSymbol.cls ≠ "java/lang/invoke/VarHandle" ∧ (parseMethodDescriptor yX8_phraseSymbol.desc).map (fun d => d.parameters.length) = some 2 := by decide +kernel
set_option maxHeartbeats 4000000 in
set_option maxRecDepth 100000 in
theorem c_X8_phraseSymbol (fu : Nat) (l : Launch) (dC : Nat → ClassId) (dI : Nat → Nat → Nat) (kI kB kZ : ClassId) (a : Nat → Nat) (v_tape : Nat → Int32) (v_taped : Int32) (v_errorAt : Int32) (v_thrown : Int32) (v_world : Nat → Int32) (v_aside : Nat → Int32) (v_undone : Nat → Int32) (v_slots : Nat → Int32) (v_isKept : Nat → Int32) (v_undos : Int32) (v_seenPrefix : Nat → Int32) (v_seenLast : Nat → Int32) (v_seen : Int32) (v_previous : Int32) (v_gained : Nat → Int32) (v_gains : Int32) (v_decoded : Nat → Int32) (v_decodes : Int32) (v_readAt : Int32) (v_start : Int32) (v_kind : Int32) (v_word : Int64) (v_letters : Int32) (v_number : Int32) (v_fine : Int32) (v_text : Nat → Int32) (v_texted : Int32) (p0 : Int32) (p1 : Int32) (sz : Nat) (z : Int32 × Int32) (hJ : J_X8_phraseSymbol fu v_thrown v_world p0 p1 = some z) : Met l yX8_phraseSymbol wsX8_phraseSymbol ({ frames := 4, cells := 0, slots := 0, locals := 88 }) (va_Pc [.ref (a 0), .int p0, .int p1] (RWp dC dI sz (MWc a kI kB kZ v_tape v_taped v_errorAt v_thrown v_world v_aside v_undone v_slots v_isKept v_undos v_seenPrefix v_seenLast v_seen v_previous v_gained v_gains v_decoded v_decodes v_readAt v_start v_kind v_word v_letters v_number v_fine v_text v_texted) [(kI, .int), (kB, .byte), (kZ, .boolean)])) (rwQi dC dI (va_A (MWc a kI kB kZ v_tape v_taped v_errorAt v_thrown v_world v_aside v_undone v_slots v_isKept v_undos v_seenPrefix v_seenLast v_seen v_previous v_gained v_gains v_decoded v_decodes v_readAt v_start v_kind v_word v_letters v_number v_fine v_text v_texted) sz) (MWc a kI kB kZ v_tape v_taped v_errorAt z.2 v_world v_aside v_undone v_slots v_isKept v_undos v_seenPrefix v_seenLast v_seen v_previous v_gained v_gains v_decoded v_decodes v_readAt v_start v_kind v_word v_letters v_number v_fine v_text v_texted) z.1) 0 0 (va_A (MWc a kI kB kZ v_tape v_taped v_errorAt v_thrown v_world v_aside v_undone v_slots v_isKept v_undos v_seenPrefix v_seenLast v_seen v_previous v_gained v_gains v_decoded v_decodes v_readAt v_start v_kind v_word v_letters v_number v_fine v_text v_texted) sz) := by
  refine rw_start (Qc := fun A => rwQi dC dI A (MWc a kI kB kZ v_tape v_taped v_errorAt z.2 v_world v_aside v_undone v_slots v_isKept v_undos v_seenPrefix v_seenLast v_seen v_previous v_gained v_gains v_decoded v_decodes v_readAt v_start v_kind v_word v_letters v_number v_fine v_text v_texted) z.1) (cc := cX8_phraseSymbol) (maxL := 3) (ret := (some .int)) (by decide) rfl (Nat.le_of_ble_eq_true rfl) ?_
  intro p e s m args below meth c hx hb hr hml hown hts hlocks hNW hK A hA H locs ls hP hD hS hl
  have hown : s.vm.findClass RX8 = some m.cls := hown
  have hl : lv_has ls 3 [(0, .ref (a 0)), (1, .int p0), (2, .int p1)] := hl
  unfold J_X8_phraseSymbol at hJ
  refine lv_aload_n hx hb dX8_phraseSymbol_0 rfl (lv_at hl 0 rfl) ?_
  refine lv_iload_n hx hb dX8_phraseSymbol_1 rfl (lv_at hl 1 rfl) ?_
  obtain ⟨z1, e2, hJ⟩ := bnd hJ
  refine roVi (As := [.int p0]) (rest := []) (ci := 8) (q0 := 0) hx hb hml hown hts (c_X8_isCode l dC dI kI kB kZ a v_tape v_taped v_errorAt v_thrown v_world v_aside v_undone v_slots v_isKept v_undos v_seenPrefix v_seenLast v_seen v_previous v_gained v_gains v_decoded v_decodes v_readAt v_start v_kind v_word v_letters v_number v_fine v_text v_texted p0 z1 e2) gX8_phraseSymbol_X8_isCode qX8_isCode rfl ⟨Nat.le_of_ble_eq_true rfl, Nat.le_of_ble_eq_true rfl⟩ ⟨rfl, rfl⟩ hNW hK hP hS hP hK rfl rfl rfl hl.1 rfl rfl (Nat.le_of_ble_eq_true rfl) dX8_phraseSymbol_2 z0 (fun H locs hP hS => ?_)
  refine lv_if_ne (tgt := 14) hx hb dX8_phraseSymbol_5 (by decide) (fun c3 => ?_) (fun c3 => ?_)
  · have hJ := ite_f c3 hJ
    refine lv_iload_n hx hb dX8_phraseSymbol_14 rfl (lv_at hl 2 rfl) ?_
    refine lv_iconst (v := 0) hx hb dX8_phraseSymbol_15 (by decide) ?_
    refine lv_aload_n hx hb dX8_phraseSymbol_16 rfl (lv_at hl 0 rfl) ?_
    refine lv_iload_n hx hb dX8_phraseSymbol_17 rfl (lv_at hl 1 rfl) ?_
    obtain ⟨z4, e5, hJ⟩ := bnd hJ
    refine roVi (As := [.int p0]) (rest := [.int (0 : Int32), .int p1]) (ci := 8) (q0 := 0) hx hb hml hown hts (c_X8_lengthOf fu l dC dI kI kB kZ a v_tape v_taped v_errorAt v_thrown v_world v_aside v_undone v_slots v_isKept v_undos v_seenPrefix v_seenLast v_seen v_previous v_gained v_gains v_decoded v_decodes v_readAt v_start v_kind v_word v_letters v_number v_fine v_text v_texted p0 z4 e5) gX8_phraseSymbol_X8_lengthOf qX8_lengthOf rfl ⟨Nat.le_of_ble_eq_true rfl, Nat.le_of_ble_eq_true rfl⟩ ⟨rfl, rfl⟩ hNW hK hP hS hP hK rfl rfl rfl hl.1 rfl rfl (Nat.le_of_ble_eq_true rfl) dX8_phraseSymbol_18 z0 (fun H locs hP hS => ?_)
    refine lv_iconst (v := 1) hx hb dX8_phraseSymbol_21 (by decide) ?_
    refine lv_isub hx hb dX8_phraseSymbol_22 ?_
    obtain ⟨z6, e7, hJ⟩ := bnd hJ
    refine roSi (As := [.int p1, .int (0 : Int32), .int (z4 - (1 : Int32))]) (rest := []) hx hb hml hown hts (c_X8_in l dC dI p1 (0 : Int32) (z4 - (1 : Int32)) z6 e7) gX8_phraseSymbol_X8_in qX8_in rfl ⟨Nat.le_of_ble_eq_true rfl, Nat.le_of_ble_eq_true rfl⟩ ⟨rfl, rfl⟩ hNW hK hP hS (hP.sub (ws' := []) [] rfl) (hK.sub (tys' := []) [] rfl) hl.1 rfl rfl (Nat.le_of_ble_eq_true rfl) dX8_phraseSymbol_23 z0 (fun H locs hP hS => ?_)
    refine lv_if_ne (tgt := 35) hx hb dX8_phraseSymbol_26 (by decide) (fun c8 => ?_) (fun c8 => ?_)
    · have hJ := ite_f c8 hJ
      refine lv_aload_n hx hb dX8_phraseSymbol_35 rfl (lv_at hl 0 rfl) ?_
      refine lv_aload_n hx hb dX8_phraseSymbol_36 rfl (lv_at hl 0 rfl) ?_
      refine lv_iload_n hx hb dX8_phraseSymbol_37 rfl (lv_at hl 1 rfl) ?_
      refine lv_iload_n hx hb dX8_phraseSymbol_38 rfl (lv_at hl 2 rfl) ?_
      obtain ⟨z9, e10, hJ⟩ := bnd hJ
      refine roVi (As := [.int p0, .int p1]) (rest := [.ref (a 0)]) (ci := 8) (q0 := 0) hx hb hml hown hts (c_X8_symbolOf fu l dC dI kI kB kZ a v_tape v_taped v_errorAt v_thrown v_world v_aside v_undone v_slots v_isKept v_undos v_seenPrefix v_seenLast v_seen v_previous v_gained v_gains v_decoded v_decodes v_readAt v_start v_kind v_word v_letters v_number v_fine v_text v_texted p0 p1 z9 e10) gX8_phraseSymbol_X8_symbolOf qX8_symbolOf rfl ⟨Nat.le_of_ble_eq_true rfl, Nat.le_of_ble_eq_true rfl⟩ ⟨rfl, rfl⟩ hNW hK hP hS hP hK rfl rfl rfl hl.1 rfl rfl (Nat.le_of_ble_eq_true rfl) dX8_phraseSymbol_39 z0 (fun H locs hP hS => ?_)
      obtain ⟨z11, e12, hJ⟩ := bnd hJ
      refine rwViW (As := [.int z9]) (rest := []) (ci := 8) (q0 := 0) hx hb hml hown hts (c_X8_told l dC dI kI kB kZ a v_tape v_taped v_errorAt v_thrown v_world v_aside v_undone v_slots v_isKept v_undos v_seenPrefix v_seenLast v_seen v_previous v_gained v_gains v_decoded v_decodes v_readAt v_start v_kind v_word v_letters v_number v_fine v_text v_texted z9 H.size z11 e12) gX8_phraseSymbol_X8_told qX8_told rfl ⟨Nat.le_of_ble_eq_true rfl, Nat.le_of_ble_eq_true rfl⟩ ⟨rfl, rfl⟩ hNW hK hP hD hS hA hK rfl rfl rfl hl.1 rfl rfl (Nat.le_of_ble_eq_true rfl) dX8_phraseSymbol_42 z0 (fun H locs hP hD hS => ?_)
      obtain rfl := Option.some.inj hJ
      exact rw_iret hx hb hr hlocks rfl hP hD hS dX8_phraseSymbol_45
    · have hJ := ite_t c8 hJ
      refine lv_aload_n hx hb dX8_phraseSymbol_29 rfl (lv_at hl 0 rfl) ?_
      refine lv_iconst (v := 1) hx hb dX8_phraseSymbol_30 (by decide) ?_
      obtain ⟨z13, e14, hJ⟩ := bnd hJ
      refine rwViW (As := [.int (1 : Int32)]) (rest := []) (ci := 8) (q0 := 0) hx hb hml hown hts (c_X8_throwing l dC dI kI kB kZ a v_tape v_taped v_errorAt v_thrown v_world v_aside v_undone v_slots v_isKept v_undos v_seenPrefix v_seenLast v_seen v_previous v_gained v_gains v_decoded v_decodes v_readAt v_start v_kind v_word v_letters v_number v_fine v_text v_texted (1 : Int32) H.size z13 e14) gX8_phraseSymbol_X8_throwing qX8_throwing rfl ⟨Nat.le_of_ble_eq_true rfl, Nat.le_of_ble_eq_true rfl⟩ ⟨rfl, rfl⟩ hNW hK hP hD hS hA hK rfl rfl rfl hl.1 rfl rfl (Nat.le_of_ble_eq_true rfl) dX8_phraseSymbol_31 z0 (fun H locs hP hD hS => ?_)
      obtain rfl := Option.some.inj hJ
      exact rw_iret hx hb hr hlocks rfl hP hD hS dX8_phraseSymbol_34
  · have hJ := ite_t c3 hJ
    refine lv_aload_n hx hb dX8_phraseSymbol_8 rfl (lv_at hl 0 rfl) ?_
    refine lv_iconst (v := 1) hx hb dX8_phraseSymbol_9 (by decide) ?_
    obtain ⟨z15, e16, hJ⟩ := bnd hJ
    refine rwViW (As := [.int (1 : Int32)]) (rest := []) (ci := 8) (q0 := 0) hx hb hml hown hts (c_X8_throwing l dC dI kI kB kZ a v_tape v_taped v_errorAt v_thrown v_world v_aside v_undone v_slots v_isKept v_undos v_seenPrefix v_seenLast v_seen v_previous v_gained v_gains v_decoded v_decodes v_readAt v_start v_kind v_word v_letters v_number v_fine v_text v_texted (1 : Int32) H.size z15 e16) gX8_phraseSymbol_X8_throwing qX8_throwing rfl ⟨Nat.le_of_ble_eq_true rfl, Nat.le_of_ble_eq_true rfl⟩ ⟨rfl, rfl⟩ hNW hK hP hD hS hA hK rfl rfl rfl hl.1 rfl rfl (Nat.le_of_ble_eq_true rfl) dX8_phraseSymbol_10 z0 (fun H locs hP hD hS => ?_)
    obtain rfl := Option.some.inj hJ
    exact rw_iret hx hb hr hlocks rfl hP hD hS dX8_phraseSymbol_13
theorem qX8_prefixOf : (yX8_prefixOf.cls = RX8) ∧ yX8_prefixOf.cls ≠ "java/lang/invoke/MethodHandle" ∧ yX8_prefixOf.cls ≠ "java/lang/invoke/VarHandle" ∧ (parseMethodDescriptor yX8_prefixOf.desc).map (fun d => d.parameters.length) = some 1 := by decide +kernel
set_option maxHeartbeats 4000000 in
set_option maxRecDepth 100000 in
theorem c_X8_prefixOf (l : Launch) (dC : Nat → ClassId) (dI : Nat → Nat → Nat) (kI kB kZ : ClassId) (a : Nat → Nat) (v_tape : Nat → Int32) (v_taped : Int32) (v_errorAt : Int32) (v_thrown : Int32) (v_world : Nat → Int32) (v_aside : Nat → Int32) (v_undone : Nat → Int32) (v_slots : Nat → Int32) (v_isKept : Nat → Int32) (v_undos : Int32) (v_seenPrefix : Nat → Int32) (v_seenLast : Nat → Int32) (v_seen : Int32) (v_previous : Int32) (v_gained : Nat → Int32) (v_gains : Int32) (v_decoded : Nat → Int32) (v_decodes : Int32) (v_readAt : Int32) (v_start : Int32) (v_kind : Int32) (v_word : Int64) (v_letters : Int32) (v_number : Int32) (v_fine : Int32) (v_text : Nat → Int32) (v_texted : Int32) (p0 : Int32) (sz : Nat) (z : Int32 × Int32) (hJ : J_X8_prefixOf v_thrown v_world p0 = some z) : Met l yX8_prefixOf wsX8_prefixOf ({ frames := 2, cells := 0, slots := 0, locals := 43 }) (va_Pc [.ref (a 0), .int p0] (RWp dC dI sz (MWc a kI kB kZ v_tape v_taped v_errorAt v_thrown v_world v_aside v_undone v_slots v_isKept v_undos v_seenPrefix v_seenLast v_seen v_previous v_gained v_gains v_decoded v_decodes v_readAt v_start v_kind v_word v_letters v_number v_fine v_text v_texted) [(kI, .int), (kB, .byte), (kZ, .boolean)])) (rwQi dC dI (va_A (MWc a kI kB kZ v_tape v_taped v_errorAt v_thrown v_world v_aside v_undone v_slots v_isKept v_undos v_seenPrefix v_seenLast v_seen v_previous v_gained v_gains v_decoded v_decodes v_readAt v_start v_kind v_word v_letters v_number v_fine v_text v_texted) sz) (MWc a kI kB kZ v_tape v_taped v_errorAt z.2 v_world v_aside v_undone v_slots v_isKept v_undos v_seenPrefix v_seenLast v_seen v_previous v_gained v_gains v_decoded v_decodes v_readAt v_start v_kind v_word v_letters v_number v_fine v_text v_texted) z.1) 0 0 (va_A (MWc a kI kB kZ v_tape v_taped v_errorAt v_thrown v_world v_aside v_undone v_slots v_isKept v_undos v_seenPrefix v_seenLast v_seen v_previous v_gained v_gains v_decoded v_decodes v_readAt v_start v_kind v_word v_letters v_number v_fine v_text v_texted) sz) := by
  refine rw_start (Qc := fun A => rwQi dC dI A (MWc a kI kB kZ v_tape v_taped v_errorAt z.2 v_world v_aside v_undone v_slots v_isKept v_undos v_seenPrefix v_seenLast v_seen v_previous v_gained v_gains v_decoded v_decodes v_readAt v_start v_kind v_word v_letters v_number v_fine v_text v_texted) z.1) (cc := cX8_prefixOf) (maxL := 2) (ret := (some .int)) (by decide) rfl (Nat.le_of_ble_eq_true rfl) ?_
  intro p e s m args below meth c hx hb hr hml hown hts hlocks hNW hK A hA H locs ls hP hD hS hl
  have hown : s.vm.findClass RX8 = some m.cls := hown
  have hl : lv_has ls 2 [(0, .ref (a 0)), (1, .int p0)] := hl
  unfold J_X8_prefixOf at hJ
  refine lv_aload_n hx hb dX8_prefixOf_0 rfl (lv_at hl 0 rfl) ?_
  refine lv_iload_n hx hb dX8_prefixOf_1 rfl (lv_at hl 1 rfl) ?_
  obtain ⟨z1, e2, hJ⟩ := bnd hJ
  refine roVi (As := [.int p0]) (rest := []) (ci := 8) (q0 := 0) hx hb hml hown hts (c_X8_isCode l dC dI kI kB kZ a v_tape v_taped v_errorAt v_thrown v_world v_aside v_undone v_slots v_isKept v_undos v_seenPrefix v_seenLast v_seen v_previous v_gained v_gains v_decoded v_decodes v_readAt v_start v_kind v_word v_letters v_number v_fine v_text v_texted p0 z1 e2) gX8_prefixOf_X8_isCode qX8_isCode rfl ⟨Nat.le_of_ble_eq_true rfl, Nat.le_of_ble_eq_true rfl⟩ ⟨rfl, rfl⟩ hNW hK hP hS hP hK rfl rfl rfl hl.1 rfl rfl (Nat.le_of_ble_eq_true rfl) dX8_prefixOf_2 z0 (fun H locs hP hS => ?_)
  refine lv_if_ne (tgt := 14) hx hb dX8_prefixOf_5 (by decide) (fun c3 => ?_) (fun c3 => ?_)
  · have hJ := ite_f c3 hJ
    refine lv_aload_n hx hb dX8_prefixOf_14 rfl (lv_at hl 0 rfl) ?_
    refine lv_iload_n hx hb dX8_prefixOf_15 rfl (lv_at hl 1 rfl) ?_
    obtain ⟨z4, e5, hJ⟩ := bnd hJ
    refine roVi (As := [.int p0]) (rest := []) (ci := 8) (q0 := 0) hx hb hml hown hts (c_X8_isFirst l dC dI kI kB kZ a v_tape v_taped v_errorAt v_thrown v_world v_aside v_undone v_slots v_isKept v_undos v_seenPrefix v_seenLast v_seen v_previous v_gained v_gains v_decoded v_decodes v_readAt v_start v_kind v_word v_letters v_number v_fine v_text v_texted p0 z4 e5) gX8_prefixOf_X8_isFirst qX8_isFirst rfl ⟨Nat.le_of_ble_eq_true rfl, Nat.le_of_ble_eq_true rfl⟩ ⟨rfl, rfl⟩ hNW hK hP hS hP hK rfl rfl rfl hl.1 rfl rfl (Nat.le_of_ble_eq_true rfl) dX8_prefixOf_16 z0 (fun H locs hP hS => ?_)
    refine lv_if_eq (tgt := 28) hx hb dX8_prefixOf_19 (by decide) (fun c6 => ?_) (fun c6 => ?_)
    · have hJ := ite_t c6 hJ
      refine lv_aload_n hx hb dX8_prefixOf_28 rfl (lv_at hl 0 rfl) ?_
      refine lv_aload_n hx hb dX8_prefixOf_29 rfl (lv_at hl 0 rfl) ?_
      refine va_get (D := (dC, dI)) (ci := 8) (v := .ref (a 2)) (C := RX8) (T := TX8) (N := 27) hx hb hts (fun _ h => List.mem_cons_of_mem _ (List.mem_append_right _ h)) hown hK hP 0 rfl rfl 4 (by decide) (hts _ (List.mem_of_getElem? (i := 1) rfl)) (fun _ h9 => h9) rfl dX8_prefixOf_30 ?_
      refine lv_bipush (v := 14) hx hb dX8_prefixOf_33 (by decide) ?_
      refine lv_iload_n hx hb dX8_prefixOf_35 rfl (lv_at hl 1 rfl) ?_
      refine lv_iadd hx hb dX8_prefixOf_36 ?_
      obtain ⟨z7, e8, hJ⟩ := bnd hJ
      refine rd_int (n := 1726) (f := v_world) hx hb hK hP 2 0 rfl rfl e8 dX8_prefixOf_37 ?_
      obtain ⟨z9, e10, hJ⟩ := bnd hJ
      refine rwViW (As := [.int z7]) (rest := []) (ci := 8) (q0 := 0) hx hb hml hown hts (c_X8_told l dC dI kI kB kZ a v_tape v_taped v_errorAt v_thrown v_world v_aside v_undone v_slots v_isKept v_undos v_seenPrefix v_seenLast v_seen v_previous v_gained v_gains v_decoded v_decodes v_readAt v_start v_kind v_word v_letters v_number v_fine v_text v_texted z7 H.size z9 e10) gX8_prefixOf_X8_told qX8_told rfl ⟨Nat.le_of_ble_eq_true rfl, Nat.le_of_ble_eq_true rfl⟩ ⟨rfl, rfl⟩ hNW hK hP hD hS hA hK rfl rfl rfl hl.1 rfl rfl (Nat.le_of_ble_eq_true rfl) dX8_prefixOf_38 z0 (fun H locs hP hD hS => ?_)
      obtain rfl := Option.some.inj hJ
      exact rw_iret hx hb hr hlocks rfl hP hD hS dX8_prefixOf_41
    · have hJ := ite_f c6 hJ
      refine lv_aload_n hx hb dX8_prefixOf_22 rfl (lv_at hl 0 rfl) ?_
      refine lv_iconst (v := 2) hx hb dX8_prefixOf_23 (by decide) ?_
      obtain ⟨z11, e12, hJ⟩ := bnd hJ
      refine rwViW (As := [.int (2 : Int32)]) (rest := []) (ci := 8) (q0 := 0) hx hb hml hown hts (c_X8_throwing l dC dI kI kB kZ a v_tape v_taped v_errorAt v_thrown v_world v_aside v_undone v_slots v_isKept v_undos v_seenPrefix v_seenLast v_seen v_previous v_gained v_gains v_decoded v_decodes v_readAt v_start v_kind v_word v_letters v_number v_fine v_text v_texted (2 : Int32) H.size z11 e12) gX8_prefixOf_X8_throwing qX8_throwing rfl ⟨Nat.le_of_ble_eq_true rfl, Nat.le_of_ble_eq_true rfl⟩ ⟨rfl, rfl⟩ hNW hK hP hD hS hA hK rfl rfl rfl hl.1 rfl rfl (Nat.le_of_ble_eq_true rfl) dX8_prefixOf_24 z0 (fun H locs hP hD hS => ?_)
      obtain rfl := Option.some.inj hJ
      exact rw_iret hx hb hr hlocks rfl hP hD hS dX8_prefixOf_27
  · have hJ := ite_t c3 hJ
    refine lv_aload_n hx hb dX8_prefixOf_8 rfl (lv_at hl 0 rfl) ?_
    refine lv_iconst (v := 1) hx hb dX8_prefixOf_9 (by decide) ?_
    obtain ⟨z13, e14, hJ⟩ := bnd hJ
    refine rwViW (As := [.int (1 : Int32)]) (rest := []) (ci := 8) (q0 := 0) hx hb hml hown hts (c_X8_throwing l dC dI kI kB kZ a v_tape v_taped v_errorAt v_thrown v_world v_aside v_undone v_slots v_isKept v_undos v_seenPrefix v_seenLast v_seen v_previous v_gained v_gains v_decoded v_decodes v_readAt v_start v_kind v_word v_letters v_number v_fine v_text v_texted (1 : Int32) H.size z13 e14) gX8_prefixOf_X8_throwing qX8_throwing rfl ⟨Nat.le_of_ble_eq_true rfl, Nat.le_of_ble_eq_true rfl⟩ ⟨rfl, rfl⟩ hNW hK hP hD hS hA hK rfl rfl rfl hl.1 rfl rfl (Nat.le_of_ble_eq_true rfl) dX8_prefixOf_10 z0 (fun H locs hP hD hS => ?_)
    obtain rfl := Option.some.inj hJ
    exact rw_iret hx hb hr hlocks rfl hP hD hS dX8_prefixOf_13
theorem qX8_extensionOf : (yX8_extensionOf.cls = RX8) ∧ yX8_extensionOf.cls ≠ "java/lang/invoke/MethodHandle" ∧ yX8_extensionOf.cls ≠ "java/lang/invoke/VarHandle" ∧ (parseMethodDescriptor yX8_extensionOf.desc).map (fun d => d.parameters.length) = some 2 := by decide +kernel
set_option maxHeartbeats 4000000 in
set_option maxRecDepth 100000 in
theorem c_X8_extensionOf (fu : Nat) (l : Launch) (dC : Nat → ClassId) (dI : Nat → Nat → Nat) (kI kB kZ : ClassId) (a : Nat → Nat) (v_tape : Nat → Int32) (v_taped : Int32) (v_errorAt : Int32) (v_thrown : Int32) (v_world : Nat → Int32) (v_aside : Nat → Int32) (v_undone : Nat → Int32) (v_slots : Nat → Int32) (v_isKept : Nat → Int32) (v_undos : Int32) (v_seenPrefix : Nat → Int32) (v_seenLast : Nat → Int32) (v_seen : Int32) (v_previous : Int32) (v_gained : Nat → Int32) (v_gains : Int32) (v_decoded : Nat → Int32) (v_decodes : Int32) (v_readAt : Int32) (v_start : Int32) (v_kind : Int32) (v_word : Int64) (v_letters : Int32) (v_number : Int32) (v_fine : Int32) (v_text : Nat → Int32) (v_texted : Int32) (p0 : Int32) (p1 : Int32) (sz : Nat) (z : Int32 × Int32) (hJ : J_X8_extensionOf fu v_thrown v_world p0 p1 = some z) : Met l yX8_extensionOf wsX8_extensionOf ({ frames := 2, cells := 0, slots := 0, locals := 43 }) (va_Pc [.ref (a 0), .int p0, .int p1] (RWp dC dI sz (MWc a kI kB kZ v_tape v_taped v_errorAt v_thrown v_world v_aside v_undone v_slots v_isKept v_undos v_seenPrefix v_seenLast v_seen v_previous v_gained v_gains v_decoded v_decodes v_readAt v_start v_kind v_word v_letters v_number v_fine v_text v_texted) [(kI, .int), (kB, .byte), (kZ, .boolean)])) (rwQi dC dI (va_A (MWc a kI kB kZ v_tape v_taped v_errorAt v_thrown v_world v_aside v_undone v_slots v_isKept v_undos v_seenPrefix v_seenLast v_seen v_previous v_gained v_gains v_decoded v_decodes v_readAt v_start v_kind v_word v_letters v_number v_fine v_text v_texted) sz) (MWc a kI kB kZ v_tape v_taped v_errorAt z.2 v_world v_aside v_undone v_slots v_isKept v_undos v_seenPrefix v_seenLast v_seen v_previous v_gained v_gains v_decoded v_decodes v_readAt v_start v_kind v_word v_letters v_number v_fine v_text v_texted) z.1) 0 0 (va_A (MWc a kI kB kZ v_tape v_taped v_errorAt v_thrown v_world v_aside v_undone v_slots v_isKept v_undos v_seenPrefix v_seenLast v_seen v_previous v_gained v_gains v_decoded v_decodes v_readAt v_start v_kind v_word v_letters v_number v_fine v_text v_texted) sz) := by
  refine rw_start (Qc := fun A => rwQi dC dI A (MWc a kI kB kZ v_tape v_taped v_errorAt z.2 v_world v_aside v_undone v_slots v_isKept v_undos v_seenPrefix v_seenLast v_seen v_previous v_gained v_gains v_decoded v_decodes v_readAt v_start v_kind v_word v_letters v_number v_fine v_text v_texted) z.1) (cc := cX8_extensionOf) (maxL := 4) (ret := (some .int)) (by decide) rfl (Nat.le_of_ble_eq_true rfl) ?_
  intro p e s m args below meth c hx hb hr hml hown hts hlocks hNW hK A hA H locs ls hP hD hS hl
  have hown : s.vm.findClass RX8 = some m.cls := hown
  have hl : lv_has ls 4 [(0, .ref (a 0)), (1, .int p0), (2, .int p1)] := hl
  unfold J_X8_extensionOf at hJ
  refine lv_aload_n hx hb dX8_extensionOf_0 rfl (lv_at hl 0 rfl) ?_
  refine lv_iload_n hx hb dX8_extensionOf_1 rfl (lv_at hl 1 rfl) ?_
  obtain ⟨z1, e2, hJ⟩ := bnd hJ
  refine roVi (As := [.int p0]) (rest := []) (ci := 8) (q0 := 0) hx hb hml hown hts (c_X8_isCode l dC dI kI kB kZ a v_tape v_taped v_errorAt v_thrown v_world v_aside v_undone v_slots v_isKept v_undos v_seenPrefix v_seenLast v_seen v_previous v_gained v_gains v_decoded v_decodes v_readAt v_start v_kind v_word v_letters v_number v_fine v_text v_texted p0 z1 e2) gX8_extensionOf_X8_isCode qX8_isCode rfl ⟨Nat.le_of_ble_eq_true rfl, Nat.le_of_ble_eq_true rfl⟩ ⟨rfl, rfl⟩ hNW hK hP hS hP hK rfl rfl rfl hl.1 rfl rfl (Nat.le_of_ble_eq_true rfl) dX8_extensionOf_2 z0 (fun H locs hP hS => ?_)
  refine lv_if_ne (tgt := 14) hx hb dX8_extensionOf_5 (by decide) (fun c3 => ?_) (fun c3 => ?_)
  · have hJ := ite_f c3 hJ
    refine lv_aload_n hx hb dX8_extensionOf_14 rfl (lv_at hl 0 rfl) ?_
    refine lv_iload_n hx hb dX8_extensionOf_15 rfl (lv_at hl 2 rfl) ?_
    obtain ⟨z4, e5, hJ⟩ := bnd hJ
    refine roVi (As := [.int p1]) (rest := []) (ci := 8) (q0 := 0) hx hb hml hown hts (c_X8_isSymbol l dC dI kI kB kZ a v_tape v_taped v_errorAt v_thrown v_world v_aside v_undone v_slots v_isKept v_undos v_seenPrefix v_seenLast v_seen v_previous v_gained v_gains v_decoded v_decodes v_readAt v_start v_kind v_word v_letters v_number v_fine v_text v_texted p1 z4 e5) gX8_extensionOf_X8_isSymbol qX8_isSymbol rfl ⟨Nat.le_of_ble_eq_true rfl, Nat.le_of_ble_eq_true rfl⟩ ⟨rfl, rfl⟩ hNW hK hP hS hP hK rfl rfl rfl hl.1 rfl rfl (Nat.le_of_ble_eq_true rfl) dX8_extensionOf_16 z0 (fun H locs hP hS => ?_)
    refine lv_if_ne (tgt := 28) hx hb dX8_extensionOf_19 (by decide) (fun c6 => ?_) (fun c6 => ?_)
    · have hJ := ite_f c6 hJ
      refine lv_iload_n hx hb dX8_extensionOf_28 rfl (lv_at hl 1 rfl) ?_
      refine lv_aload_n hx hb dX8_extensionOf_29 rfl (lv_at hl 0 rfl) ?_
      obtain ⟨z7, e8, hJ⟩ := bnd hJ
      refine roVi (As := []) (rest := [.int p0]) (ci := 8) (q0 := 0) hx hb hml hown hts (c_X8_clear l dC dI kI kB kZ a v_tape v_taped v_errorAt v_thrown v_world v_aside v_undone v_slots v_isKept v_undos v_seenPrefix v_seenLast v_seen v_previous v_gained v_gains v_decoded v_decodes v_readAt v_start v_kind v_word v_letters v_number v_fine v_text v_texted z7 e8) gX8_extensionOf_X8_clear qX8_clear rfl ⟨Nat.le_of_ble_eq_true rfl, Nat.le_of_ble_eq_true rfl⟩ ⟨rfl, rfl⟩ hNW hK hP hS hP hK rfl rfl rfl hl.1 rfl rfl (Nat.le_of_ble_eq_true rfl) dX8_extensionOf_30 z0 (fun H locs hP hS => ?_)
      refine lv_icmp_ne (tgt := 42) hx hb dX8_extensionOf_33 (by decide) (fun c9 => ?_) (fun c9 => ?_)
      · have hJ := ite_f c9 hJ
        refine lv_aload_n hx hb dX8_extensionOf_42 rfl (lv_at hl 0 rfl) ?_
        refine lv_iload_n hx hb dX8_extensionOf_43 rfl (lv_at hl 1 rfl) ?_
        refine lv_iload_n hx hb dX8_extensionOf_44 rfl (lv_at hl 2 rfl) ?_
        obtain ⟨z10, e11, hJ⟩ := bnd hJ
        refine roVi (As := [.int p0, .int p1]) (rest := []) (ci := 8) (q0 := 0) hx hb hml hown hts (c_X8_longer fu l dC dI kI kB kZ a v_tape v_taped v_errorAt v_thrown v_world v_aside v_undone v_slots v_isKept v_undos v_seenPrefix v_seenLast v_seen v_previous v_gained v_gains v_decoded v_decodes v_readAt v_start v_kind v_word v_letters v_number v_fine v_text v_texted p0 p1 z10 e11) gX8_extensionOf_X8_longer qX8_longer rfl ⟨Nat.le_of_ble_eq_true rfl, Nat.le_of_ble_eq_true rfl⟩ ⟨rfl, rfl⟩ hNW hK hP hS hP hK rfl rfl rfl hl.1 rfl rfl (Nat.le_of_ble_eq_true rfl) dX8_extensionOf_45 z0 (fun H locs hP hS => ?_)
        refine lv_istore_n (lv' := [(3, .int z10), (0, .ref (a 0)), (1, .int p0), (2, .int p1)]) hx hb dX8_extensionOf_48 rfl hl (by decide) rfl (fun ls hl => ?_)
        refine lv_iload_n hx hb dX8_extensionOf_49 rfl (lv_at hl 0 rfl) ?_
        refine lv_if_ge (tgt := 59) hx hb dX8_extensionOf_50 (by decide) (fun c12 => ?_) (fun c12 => ?_)
        · have hJ := ite_t c12 hJ
          refine lv_aload_n hx hb dX8_extensionOf_59 rfl (lv_at hl 1 rfl) ?_
          refine lv_iload_n hx hb dX8_extensionOf_60 rfl (lv_at hl 0 rfl) ?_
          obtain ⟨z13, e14, hJ⟩ := bnd hJ
          refine rwViW (As := [.int z10]) (rest := []) (ci := 8) (q0 := 0) hx hb hml hown hts (c_X8_told l dC dI kI kB kZ a v_tape v_taped v_errorAt v_thrown v_world v_aside v_undone v_slots v_isKept v_undos v_seenPrefix v_seenLast v_seen v_previous v_gained v_gains v_decoded v_decodes v_readAt v_start v_kind v_word v_letters v_number v_fine v_text v_texted z10 H.size z13 e14) gX8_extensionOf_X8_told qX8_told rfl ⟨Nat.le_of_ble_eq_true rfl, Nat.le_of_ble_eq_true rfl⟩ ⟨rfl, rfl⟩ hNW hK hP hD hS hA hK rfl rfl rfl hl.1 rfl rfl (Nat.le_of_ble_eq_true rfl) dX8_extensionOf_61 z0 (fun H locs hP hD hS => ?_)
          obtain rfl := Option.some.inj hJ
          exact rw_iret hx hb hr hlocks rfl hP hD hS dX8_extensionOf_64
        · have hJ := ite_f c12 hJ
          refine lv_aload_n hx hb dX8_extensionOf_53 rfl (lv_at hl 1 rfl) ?_
          refine lv_iconst (v := 3) hx hb dX8_extensionOf_54 (by decide) ?_
          obtain ⟨z15, e16, hJ⟩ := bnd hJ
          refine rwViW (As := [.int (3 : Int32)]) (rest := []) (ci := 8) (q0 := 0) hx hb hml hown hts (c_X8_throwing l dC dI kI kB kZ a v_tape v_taped v_errorAt v_thrown v_world v_aside v_undone v_slots v_isKept v_undos v_seenPrefix v_seenLast v_seen v_previous v_gained v_gains v_decoded v_decodes v_readAt v_start v_kind v_word v_letters v_number v_fine v_text v_texted (3 : Int32) H.size z15 e16) gX8_extensionOf_X8_throwing qX8_throwing rfl ⟨Nat.le_of_ble_eq_true rfl, Nat.le_of_ble_eq_true rfl⟩ ⟨rfl, rfl⟩ hNW hK hP hD hS hA hK rfl rfl rfl hl.1 rfl rfl (Nat.le_of_ble_eq_true rfl) dX8_extensionOf_55 z0 (fun H locs hP hD hS => ?_)
          obtain rfl := Option.some.inj hJ
          exact rw_iret hx hb hr hlocks rfl hP hD hS dX8_extensionOf_58
      · have hJ := ite_t c9 hJ
        refine lv_aload_n hx hb dX8_extensionOf_36 rfl (lv_at hl 0 rfl) ?_
        refine lv_iconst (v := 2) hx hb dX8_extensionOf_37 (by decide) ?_
        obtain ⟨z17, e18, hJ⟩ := bnd hJ
        refine rwViW (As := [.int (2 : Int32)]) (rest := []) (ci := 8) (q0 := 0) hx hb hml hown hts (c_X8_throwing l dC dI kI kB kZ a v_tape v_taped v_errorAt v_thrown v_world v_aside v_undone v_slots v_isKept v_undos v_seenPrefix v_seenLast v_seen v_previous v_gained v_gains v_decoded v_decodes v_readAt v_start v_kind v_word v_letters v_number v_fine v_text v_texted (2 : Int32) H.size z17 e18) gX8_extensionOf_X8_throwing qX8_throwing rfl ⟨Nat.le_of_ble_eq_true rfl, Nat.le_of_ble_eq_true rfl⟩ ⟨rfl, rfl⟩ hNW hK hP hD hS hA hK rfl rfl rfl hl.1 rfl rfl (Nat.le_of_ble_eq_true rfl) dX8_extensionOf_38 z0 (fun H locs hP hD hS => ?_)
        obtain rfl := Option.some.inj hJ
        exact rw_iret hx hb hr hlocks rfl hP hD hS dX8_extensionOf_41
    · have hJ := ite_t c6 hJ
      refine lv_aload_n hx hb dX8_extensionOf_22 rfl (lv_at hl 0 rfl) ?_
      refine lv_iconst (v := 2) hx hb dX8_extensionOf_23 (by decide) ?_
      obtain ⟨z19, e20, hJ⟩ := bnd hJ
      refine rwViW (As := [.int (2 : Int32)]) (rest := []) (ci := 8) (q0 := 0) hx hb hml hown hts (c_X8_throwing l dC dI kI kB kZ a v_tape v_taped v_errorAt v_thrown v_world v_aside v_undone v_slots v_isKept v_undos v_seenPrefix v_seenLast v_seen v_previous v_gained v_gains v_decoded v_decodes v_readAt v_start v_kind v_word v_letters v_number v_fine v_text v_texted (2 : Int32) H.size z19 e20) gX8_extensionOf_X8_throwing qX8_throwing rfl ⟨Nat.le_of_ble_eq_true rfl, Nat.le_of_ble_eq_true rfl⟩ ⟨rfl, rfl⟩ hNW hK hP hD hS hA hK rfl rfl rfl hl.1 rfl rfl (Nat.le_of_ble_eq_true rfl) dX8_extensionOf_24 z0 (fun H locs hP hD hS => ?_)
      obtain rfl := Option.some.inj hJ
      exact rw_iret hx hb hr hlocks rfl hP hD hS dX8_extensionOf_27
  · have hJ := ite_t c3 hJ
    refine lv_aload_n hx hb dX8_extensionOf_8 rfl (lv_at hl 0 rfl) ?_
    refine lv_iconst (v := 1) hx hb dX8_extensionOf_9 (by decide) ?_
    obtain ⟨z21, e22, hJ⟩ := bnd hJ
    refine rwViW (As := [.int (1 : Int32)]) (rest := []) (ci := 8) (q0 := 0) hx hb hml hown hts (c_X8_throwing l dC dI kI kB kZ a v_tape v_taped v_errorAt v_thrown v_world v_aside v_undone v_slots v_isKept v_undos v_seenPrefix v_seenLast v_seen v_previous v_gained v_gains v_decoded v_decodes v_readAt v_start v_kind v_word v_letters v_number v_fine v_text v_texted (1 : Int32) H.size z21 e22) gX8_extensionOf_X8_throwing qX8_throwing rfl ⟨Nat.le_of_ble_eq_true rfl, Nat.le_of_ble_eq_true rfl⟩ ⟨rfl, rfl⟩ hNW hK hP hD hS hA hK rfl rfl rfl hl.1 rfl rfl (Nat.le_of_ble_eq_true rfl) dX8_extensionOf_10 z0 (fun H locs hP hD hS => ?_)
    obtain rfl := Option.some.inj hJ
    exact rw_iret hx hb hr hlocks rfl hP hD hS dX8_extensionOf_13
theorem qX8_extensionCount : (yX8_extensionCount.cls = RX8) ∧ yX8_extensionCount.cls ≠ "java/lang/invoke/MethodHandle" ∧ yX8_extensionCount.cls ≠ "java/lang/invoke/VarHandle" ∧ (parseMethodDescriptor yX8_extensionCount.desc).map (fun d => d.parameters.length) = some 1 := by decide +kernel
set_option maxHeartbeats 4000000 in
set_option maxRecDepth 100000 in
theorem c_X8_extensionCount (fu : Nat) (l : Launch) (dC : Nat → ClassId) (dI : Nat → Nat → Nat) (kI kB kZ : ClassId) (a : Nat → Nat) (v_tape : Nat → Int32) (v_taped : Int32) (v_errorAt : Int32) (v_thrown : Int32) (v_world : Nat → Int32) (v_aside : Nat → Int32) (v_undone : Nat → Int32) (v_slots : Nat → Int32) (v_isKept : Nat → Int32) (v_undos : Int32) (v_seenPrefix : Nat → Int32) (v_seenLast : Nat → Int32) (v_seen : Int32) (v_previous : Int32) (v_gained : Nat → Int32) (v_gains : Int32) (v_decoded : Nat → Int32) (v_decodes : Int32) (v_readAt : Int32) (v_start : Int32) (v_kind : Int32) (v_word : Int64) (v_letters : Int32) (v_number : Int32) (v_fine : Int32) (v_text : Nat → Int32) (v_texted : Int32) (p0 : Int32) (sz : Nat) (z : Int32 × Int32) (hJ : J_X8_extensionCount fu v_thrown v_world p0 = some z) : Met l yX8_extensionCount wsX8_extensionCount ({ frames := 2, cells := 0, slots := 0, locals := 43 }) (va_Pc [.ref (a 0), .int p0] (RWp dC dI sz (MWc a kI kB kZ v_tape v_taped v_errorAt v_thrown v_world v_aside v_undone v_slots v_isKept v_undos v_seenPrefix v_seenLast v_seen v_previous v_gained v_gains v_decoded v_decodes v_readAt v_start v_kind v_word v_letters v_number v_fine v_text v_texted) [(kI, .int), (kB, .byte), (kZ, .boolean)])) (rwQi dC dI (va_A (MWc a kI kB kZ v_tape v_taped v_errorAt v_thrown v_world v_aside v_undone v_slots v_isKept v_undos v_seenPrefix v_seenLast v_seen v_previous v_gained v_gains v_decoded v_decodes v_readAt v_start v_kind v_word v_letters v_number v_fine v_text v_texted) sz) (MWc a kI kB kZ v_tape v_taped v_errorAt z.2 v_world v_aside v_undone v_slots v_isKept v_undos v_seenPrefix v_seenLast v_seen v_previous v_gained v_gains v_decoded v_decodes v_readAt v_start v_kind v_word v_letters v_number v_fine v_text v_texted) z.1) 0 0 (va_A (MWc a kI kB kZ v_tape v_taped v_errorAt v_thrown v_world v_aside v_undone v_slots v_isKept v_undos v_seenPrefix v_seenLast v_seen v_previous v_gained v_gains v_decoded v_decodes v_readAt v_start v_kind v_word v_letters v_number v_fine v_text v_texted) sz) := by
  refine rw_start (Qc := fun A => rwQi dC dI A (MWc a kI kB kZ v_tape v_taped v_errorAt z.2 v_world v_aside v_undone v_slots v_isKept v_undos v_seenPrefix v_seenLast v_seen v_previous v_gained v_gains v_decoded v_decodes v_readAt v_start v_kind v_word v_letters v_number v_fine v_text v_texted) z.1) (cc := cX8_extensionCount) (maxL := 4) (ret := (some .int)) (by decide) rfl (Nat.le_of_ble_eq_true rfl) ?_
  intro p e s m args below meth c hx hb hr hml hown hts hlocks hNW hK A hA H locs ls hP hD hS hl
  have hown : s.vm.findClass RX8 = some m.cls := hown
  have hl : lv_has ls 4 [(0, .ref (a 0)), (1, .int p0)] := hl
  unfold J_X8_extensionCount at hJ
  have L23 : ∀ (n : Nat) (v_thrown : Int32) (y1 : Int32) (y2 : Int32) (y3 : Int32) (H : Heap) (locs : List Loc) (ls : Array Slot), va_P (dC, dI) vwCl (MWc a kI kB kZ v_tape v_taped v_errorAt v_thrown v_world v_aside v_undone v_slots v_isKept v_undos v_seenPrefix v_seenLast v_seen v_previous v_gained v_gains v_decoded v_decodes v_readAt v_start v_kind v_word v_letters v_number v_fine v_text v_texted) H → va_D A (MWc a kI kB kZ v_tape v_taped v_errorAt v_thrown v_world v_aside v_undone v_slots v_isKept v_undos v_seenPrefix v_seenLast v_seen v_previous v_gained v_gains v_decoded v_decodes v_readAt v_start v_kind v_word v_letters v_number v_fine v_text v_texted) → va_S A s.heap H locs → lv_has ls 4 [(0, .ref (a 0)), (1, .int y1), (2, .int y2), (3, .int y3)] → J_X8_extensionCount_b23 fu v_world n v_thrown y1 y2 y3 = some z → W p l e ({ frames := 2, cells := 0, slots := 0, locals := 43 }) s m args below meth c H locs 0 0 (MQ below (rwQi dC dI A (MWc a kI kB kZ v_tape v_taped v_errorAt z.2 v_world v_aside v_undone v_slots v_isKept v_undos v_seenPrefix v_seenLast v_seen v_previous v_gained v_gains v_decoded v_decodes v_readAt v_start v_kind v_word v_letters v_number v_fine v_text v_texted) z.1) args s 0 0 (A)) (F0 m 23 ls []) := by
    intro n
    induction n with
    | zero =>
      intro v_thrown y1 y2 y3 H locs ls hP hD hS hl hJ
      rw [J_X8_extensionCount_b23] at hJ; cases hJ
    | succ n ih =>
      intro v_thrown y1 y2 y3 H locs ls hP hD hS hl hJ
      rw [J_X8_extensionCount_b23] at hJ
      refine lv_iload_n hx hb dX8_extensionCount_23 rfl (lv_at hl 3 rfl) ?_
      refine lv_aload_n hx hb dX8_extensionCount_24 rfl (lv_at hl 0 rfl) ?_
      refine va_get (D := (dC, dI)) (ci := 8) (v := .ref (a 2)) (C := RX8) (T := TX8) (N := 27) hx hb hts (fun _ h => List.mem_cons_of_mem _ (List.mem_append_right _ h)) hown hK hP 0 rfl rfl 4 (by decide) (hts _ (List.mem_of_getElem? (i := 1) rfl)) (fun _ h9 => h9) rfl dX8_extensionCount_25 ?_
      refine lv_iconst (v := 4) hx hb dX8_extensionCount_28 (by decide) ?_
      obtain ⟨z8, e9, hJ⟩ := bnd hJ
      refine rd_int (n := 1726) (f := v_world) hx hb hK hP 2 0 rfl rfl e9 dX8_extensionCount_29 ?_
      refine lv_icmp_ge (tgt := 55) hx hb dX8_extensionCount_30 (by decide) (fun c10 => ?_) (fun c10 => ?_)
      · have hJ := ite_t c10 hJ
        refine lv_aload_n hx hb dX8_extensionCount_55 rfl (lv_at hl 0 rfl) ?_
        refine lv_iload_n hx hb dX8_extensionCount_56 rfl (lv_at hl 2 rfl) ?_
        obtain ⟨z11, e12, hJ⟩ := bnd hJ
        refine rwViW (As := [.int y2]) (rest := []) (ci := 8) (q0 := 0) hx hb hml hown hts (c_X8_told l dC dI kI kB kZ a v_tape v_taped v_errorAt v_thrown v_world v_aside v_undone v_slots v_isKept v_undos v_seenPrefix v_seenLast v_seen v_previous v_gained v_gains v_decoded v_decodes v_readAt v_start v_kind v_word v_letters v_number v_fine v_text v_texted y2 H.size z11 e12) gX8_extensionCount_X8_told qX8_told rfl ⟨Nat.le_of_ble_eq_true rfl, Nat.le_of_ble_eq_true rfl⟩ ⟨rfl, rfl⟩ hNW hK hP hD hS hA hK rfl rfl rfl hl.1 rfl rfl (Nat.le_of_ble_eq_true rfl) dX8_extensionCount_57 z0 (fun H locs hP hD hS => ?_)
        obtain rfl := Option.some.inj hJ
        exact rw_iret hx hb hr hlocks rfl hP hD hS dX8_extensionCount_60
      · have hJ := ite_f c10 hJ
        refine lv_aload_n hx hb dX8_extensionCount_33 rfl (lv_at hl 0 rfl) ?_
        refine va_get (D := (dC, dI)) (ci := 8) (v := .ref (a 2)) (C := RX8) (T := TX8) (N := 27) hx hb hts (fun _ h => List.mem_cons_of_mem _ (List.mem_append_right _ h)) hown hK hP 0 rfl rfl 4 (by decide) (hts _ (List.mem_of_getElem? (i := 1) rfl)) (fun _ h9 => h9) rfl dX8_extensionCount_34 ?_
        refine lv_bipush (v := 14) hx hb dX8_extensionCount_37 (by decide) ?_
        refine lv_iload_n hx hb dX8_extensionCount_39 rfl (lv_at hl 3 rfl) ?_
        refine lv_iadd hx hb dX8_extensionCount_40 ?_
        obtain ⟨z13, e14, hJ⟩ := bnd hJ
        refine rd_int (n := 1726) (f := v_world) hx hb hK hP 2 0 rfl rfl e14 dX8_extensionCount_41 ?_
        refine lv_iload_n hx hb dX8_extensionCount_42 rfl (lv_at hl 1 rfl) ?_
        refine lv_icmp_ne (tgt := 49) hx hb dX8_extensionCount_43 (by decide) (fun c15 => ?_) (fun c15 => ?_)
        · have hJ := ite_f c15 hJ
          refine lv_iinc (v := y3 + 1) (lv' := [(3, .int (y3 + 1)), (0, .ref (a 0)), (1, .int y1), (2, .int y2)]) hx hb dX8_extensionCount_49 hl (k := 3) rfl rfl (by decide) rfl (fun ls hl => ?_)
          refine lv_goto (tgt := 23) hx hb dX8_extensionCount_52 (by decide) ?_
          exact ih v_thrown y1 y2 (y3 + 1) H locs ls hP hD hS (lv_sub hl [1, 2, 3, 0] rfl) hJ
        · have hJ := ite_t c15 hJ
          refine lv_iinc (v := y2 + 1) (lv' := [(2, .int (y2 + 1)), (0, .ref (a 0)), (1, .int y1), (3, .int y3)]) hx hb dX8_extensionCount_46 hl (k := 2) rfl rfl (by decide) rfl (fun ls hl => ?_)
          refine lv_iinc (v := y3 + 1) (lv' := [(3, .int (y3 + 1)), (2, .int (y2 + 1)), (0, .ref (a 0)), (1, .int y1)]) hx hb dX8_extensionCount_49 hl (k := 3) rfl rfl (by decide) rfl (fun ls hl => ?_)
          refine lv_goto (tgt := 23) hx hb dX8_extensionCount_52 (by decide) ?_
          exact ih v_thrown y1 (y2 + 1) (y3 + 1) H locs ls hP hD hS (lv_sub hl [2, 3, 1, 0] rfl) hJ
  refine lv_aload_n hx hb dX8_extensionCount_0 rfl (lv_at hl 0 rfl) ?_
  refine lv_iload_n hx hb dX8_extensionCount_1 rfl (lv_at hl 1 rfl) ?_
  obtain ⟨z1, e2, hJ⟩ := bnd hJ
  refine roVi (As := [.int p0]) (rest := []) (ci := 8) (q0 := 0) hx hb hml hown hts (c_X8_isCode l dC dI kI kB kZ a v_tape v_taped v_errorAt v_thrown v_world v_aside v_undone v_slots v_isKept v_undos v_seenPrefix v_seenLast v_seen v_previous v_gained v_gains v_decoded v_decodes v_readAt v_start v_kind v_word v_letters v_number v_fine v_text v_texted p0 z1 e2) gX8_extensionCount_X8_isCode qX8_isCode rfl ⟨Nat.le_of_ble_eq_true rfl, Nat.le_of_ble_eq_true rfl⟩ ⟨rfl, rfl⟩ hNW hK hP hS hP hK rfl rfl rfl hl.1 rfl rfl (Nat.le_of_ble_eq_true rfl) dX8_extensionCount_2 z0 (fun H locs hP hS => ?_)
  refine lv_if_ne (tgt := 14) hx hb dX8_extensionCount_5 (by decide) (fun c3 => ?_) (fun c3 => ?_)
  · have hJ := ite_f c3 hJ
    refine lv_iconst (v := 0) hx hb dX8_extensionCount_14 (by decide) ?_
    refine lv_istore_n (lv' := [(2, .int (0 : Int32)), (0, .ref (a 0)), (1, .int p0)]) hx hb dX8_extensionCount_15 rfl hl (by decide) rfl (fun ls hl => ?_)
    refine lv_aload_n hx hb dX8_extensionCount_16 rfl (lv_at hl 1 rfl) ?_
    obtain ⟨z4, e5, hJ⟩ := bnd hJ
    refine roVi (As := []) (rest := []) (ci := 8) (q0 := 0) hx hb hml hown hts (c_X8_clear l dC dI kI kB kZ a v_tape v_taped v_errorAt v_thrown v_world v_aside v_undone v_slots v_isKept v_undos v_seenPrefix v_seenLast v_seen v_previous v_gained v_gains v_decoded v_decodes v_readAt v_start v_kind v_word v_letters v_number v_fine v_text v_texted z4 e5) gX8_extensionCount_X8_clear qX8_clear rfl ⟨Nat.le_of_ble_eq_true rfl, Nat.le_of_ble_eq_true rfl⟩ ⟨rfl, rfl⟩ hNW hK hP hS hP hK rfl rfl rfl hl.1 rfl rfl (Nat.le_of_ble_eq_true rfl) dX8_extensionCount_17 z0 (fun H locs hP hS => ?_)
    refine lv_iconst (v := 1) hx hb dX8_extensionCount_20 (by decide) ?_
    refine lv_iadd hx hb dX8_extensionCount_21 ?_
    refine lv_istore_n (lv' := [(3, .int (z4 + (1 : Int32))), (2, .int (0 : Int32)), (0, .ref (a 0)), (1, .int p0)]) hx hb dX8_extensionCount_22 rfl hl (by decide) rfl (fun ls hl => ?_)
    exact L23 fu v_thrown p0 (0 : Int32) (z4 + (1 : Int32)) H locs ls hP hD hS (lv_sub hl [2, 3, 1, 0] rfl) hJ
  · have hJ := ite_t c3 hJ
    refine lv_aload_n hx hb dX8_extensionCount_8 rfl (lv_at hl 0 rfl) ?_
    refine lv_iconst (v := 1) hx hb dX8_extensionCount_9 (by decide) ?_
    obtain ⟨z6, e7, hJ⟩ := bnd hJ
    refine rwViW (As := [.int (1 : Int32)]) (rest := []) (ci := 8) (q0 := 0) hx hb hml hown hts (c_X8_throwing l dC dI kI kB kZ a v_tape v_taped v_errorAt v_thrown v_world v_aside v_undone v_slots v_isKept v_undos v_seenPrefix v_seenLast v_seen v_previous v_gained v_gains v_decoded v_decodes v_readAt v_start v_kind v_word v_letters v_number v_fine v_text v_texted (1 : Int32) H.size z6 e7) gX8_extensionCount_X8_throwing qX8_throwing rfl ⟨Nat.le_of_ble_eq_true rfl, Nat.le_of_ble_eq_true rfl⟩ ⟨rfl, rfl⟩ hNW hK hP hD hS hA hK rfl rfl rfl hl.1 rfl rfl (Nat.le_of_ble_eq_true rfl) dX8_extensionCount_10 z0 (fun H locs hP hD hS => ?_)
    obtain rfl := Option.some.inj hJ
    exact rw_iret hx hb hr hlocks rfl hP hD hS dX8_extensionCount_13
theorem qX8_longestPhrase : (yX8_longestPhrase.cls = RX8) ∧ yX8_longestPhrase.cls ≠ "java/lang/invoke/MethodHandle" ∧ yX8_longestPhrase.cls ≠ "java/lang/invoke/VarHandle" ∧ (parseMethodDescriptor yX8_longestPhrase.desc).map (fun d => d.parameters.length) = some 0 := by decide +kernel
set_option maxHeartbeats 4000000 in
set_option maxRecDepth 100000 in
theorem c_X8_longestPhrase (fu : Nat) (l : Launch) (dC : Nat → ClassId) (dI : Nat → Nat → Nat) (kI kB kZ : ClassId) (a : Nat → Nat) (v_tape : Nat → Int32) (v_taped : Int32) (v_errorAt : Int32) (v_thrown : Int32) (v_world : Nat → Int32) (v_aside : Nat → Int32) (v_undone : Nat → Int32) (v_slots : Nat → Int32) (v_isKept : Nat → Int32) (v_undos : Int32) (v_seenPrefix : Nat → Int32) (v_seenLast : Nat → Int32) (v_seen : Int32) (v_previous : Int32) (v_gained : Nat → Int32) (v_gains : Int32) (v_decoded : Nat → Int32) (v_decodes : Int32) (v_readAt : Int32) (v_start : Int32) (v_kind : Int32) (v_word : Int64) (v_letters : Int32) (v_number : Int32) (v_fine : Int32) (v_text : Nat → Int32) (v_texted : Int32) (sz : Nat) (z : Int32 × Int32) (hJ : J_X8_longestPhrase fu v_thrown v_world = some z) : Met l yX8_longestPhrase wsX8_longestPhrase ({ frames := 3, cells := 0, slots := 0, locals := 64 }) (va_Pc [.ref (a 0)] (RWp dC dI sz (MWc a kI kB kZ v_tape v_taped v_errorAt v_thrown v_world v_aside v_undone v_slots v_isKept v_undos v_seenPrefix v_seenLast v_seen v_previous v_gained v_gains v_decoded v_decodes v_readAt v_start v_kind v_word v_letters v_number v_fine v_text v_texted) [(kI, .int), (kB, .byte), (kZ, .boolean)])) (rwQi dC dI (va_A (MWc a kI kB kZ v_tape v_taped v_errorAt v_thrown v_world v_aside v_undone v_slots v_isKept v_undos v_seenPrefix v_seenLast v_seen v_previous v_gained v_gains v_decoded v_decodes v_readAt v_start v_kind v_word v_letters v_number v_fine v_text v_texted) sz) (MWc a kI kB kZ v_tape v_taped v_errorAt z.2 v_world v_aside v_undone v_slots v_isKept v_undos v_seenPrefix v_seenLast v_seen v_previous v_gained v_gains v_decoded v_decodes v_readAt v_start v_kind v_word v_letters v_number v_fine v_text v_texted) z.1) 0 0 (va_A (MWc a kI kB kZ v_tape v_taped v_errorAt v_thrown v_world v_aside v_undone v_slots v_isKept v_undos v_seenPrefix v_seenLast v_seen v_previous v_gained v_gains v_decoded v_decodes v_readAt v_start v_kind v_word v_letters v_number v_fine v_text v_texted) sz) := by
  refine rw_start (Qc := fun A => rwQi dC dI A (MWc a kI kB kZ v_tape v_taped v_errorAt z.2 v_world v_aside v_undone v_slots v_isKept v_undos v_seenPrefix v_seenLast v_seen v_previous v_gained v_gains v_decoded v_decodes v_readAt v_start v_kind v_word v_letters v_number v_fine v_text v_texted) z.1) (cc := cX8_longestPhrase) (maxL := 5) (ret := (some .int)) (by decide) rfl (Nat.le_of_ble_eq_true rfl) ?_
  intro p e s m args below meth c hx hb hr hml hown hts hlocks hNW hK A hA H locs ls hP hD hS hl
  have hown : s.vm.findClass RX8 = some m.cls := hown
  have hl : lv_has ls 5 [(0, .ref (a 0))] := hl
  unfold J_X8_longestPhrase at hJ
  have L10 : ∀ (n : Nat) (v_thrown : Int32) (y1 : Int32) (y2 : Int32) (y3 : Int32) (H : Heap) (locs : List Loc) (ls : Array Slot), va_P (dC, dI) vwCl (MWc a kI kB kZ v_tape v_taped v_errorAt v_thrown v_world v_aside v_undone v_slots v_isKept v_undos v_seenPrefix v_seenLast v_seen v_previous v_gained v_gains v_decoded v_decodes v_readAt v_start v_kind v_word v_letters v_number v_fine v_text v_texted) H → va_D A (MWc a kI kB kZ v_tape v_taped v_errorAt v_thrown v_world v_aside v_undone v_slots v_isKept v_undos v_seenPrefix v_seenLast v_seen v_previous v_gained v_gains v_decoded v_decodes v_readAt v_start v_kind v_word v_letters v_number v_fine v_text v_texted) → va_S A s.heap H locs → lv_has ls 5 [(0, .ref (a 0)), (1, .int y1), (2, .int y2), (3, .int y3)] → J_X8_longestPhrase_b10 fu v_world n v_thrown y1 y2 y3 = some z → W p l e ({ frames := 3, cells := 0, slots := 0, locals := 64 }) s m args below meth c H locs 0 0 (MQ below (rwQi dC dI A (MWc a kI kB kZ v_tape v_taped v_errorAt z.2 v_world v_aside v_undone v_slots v_isKept v_undos v_seenPrefix v_seenLast v_seen v_previous v_gained v_gains v_decoded v_decodes v_readAt v_start v_kind v_word v_letters v_number v_fine v_text v_texted) z.1) args s 0 0 (A)) (F0 m 10 ls []) := by
    intro n
    induction n with
    | zero =>
      intro v_thrown y1 y2 y3 H locs ls hP hD hS hl hJ
      rw [J_X8_longestPhrase_b10] at hJ; cases hJ
    | succ n ih =>
      intro v_thrown y1 y2 y3 H locs ls hP hD hS hl hJ
      rw [J_X8_longestPhrase_b10] at hJ
      refine lv_iload_n hx hb dX8_longestPhrase_10 rfl (lv_at hl 3 rfl) ?_
      refine lv_aload_n hx hb dX8_longestPhrase_11 rfl (lv_at hl 0 rfl) ?_
      refine va_get (D := (dC, dI)) (ci := 8) (v := .ref (a 2)) (C := RX8) (T := TX8) (N := 27) hx hb hts (fun _ h => List.mem_cons_of_mem _ (List.mem_append_right _ h)) hown hK hP 0 rfl rfl 4 (by decide) (hts _ (List.mem_of_getElem? (i := 1) rfl)) (fun _ h9 => h9) rfl dX8_longestPhrase_12 ?_
      refine lv_iconst (v := 4) hx hb dX8_longestPhrase_15 (by decide) ?_
      obtain ⟨z3, e4, hJ⟩ := bnd hJ
      refine rd_int (n := 1726) (f := v_world) hx hb hK hP 2 0 rfl rfl e4 dX8_longestPhrase_16 ?_
      refine lv_icmp_ge (tgt := 44) hx hb dX8_longestPhrase_17 (by decide) (fun c5 => ?_) (fun c5 => ?_)
      · have hJ := ite_t c5 hJ
        refine lv_aload_n hx hb dX8_longestPhrase_44 rfl (lv_at hl 0 rfl) ?_
        refine lv_iload_n hx hb dX8_longestPhrase_45 rfl (lv_at hl 1 rfl) ?_
        obtain ⟨z6, e7, hJ⟩ := bnd hJ
        refine rwViW (As := [.int y1]) (rest := []) (ci := 8) (q0 := 0) hx hb hml hown hts (c_X8_told l dC dI kI kB kZ a v_tape v_taped v_errorAt v_thrown v_world v_aside v_undone v_slots v_isKept v_undos v_seenPrefix v_seenLast v_seen v_previous v_gained v_gains v_decoded v_decodes v_readAt v_start v_kind v_word v_letters v_number v_fine v_text v_texted y1 H.size z6 e7) gX8_longestPhrase_X8_told qX8_told rfl ⟨Nat.le_of_ble_eq_true rfl, Nat.le_of_ble_eq_true rfl⟩ ⟨rfl, rfl⟩ hNW hK hP hD hS hA hK rfl rfl rfl hl.1 rfl rfl (Nat.le_of_ble_eq_true rfl) dX8_longestPhrase_46 z0 (fun H locs hP hD hS => ?_)
        obtain rfl := Option.some.inj hJ
        exact rw_iret hx hb hr hlocks rfl hP hD hS dX8_longestPhrase_49
      · have hJ := ite_f c5 hJ
        refine lv_aload_n hx hb dX8_longestPhrase_20 rfl (lv_at hl 0 rfl) ?_
        refine lv_iload_n hx hb dX8_longestPhrase_21 rfl (lv_at hl 3 rfl) ?_
        obtain ⟨z8, e9, hJ⟩ := bnd hJ
        refine roVi (As := [.int y3]) (rest := []) (ci := 8) (q0 := 0) hx hb hml hown hts (c_X8_lengthOf fu l dC dI kI kB kZ a v_tape v_taped v_errorAt v_thrown v_world v_aside v_undone v_slots v_isKept v_undos v_seenPrefix v_seenLast v_seen v_previous v_gained v_gains v_decoded v_decodes v_readAt v_start v_kind v_word v_letters v_number v_fine v_text v_texted y3 z8 e9) gX8_longestPhrase_X8_lengthOf qX8_lengthOf rfl ⟨Nat.le_of_ble_eq_true rfl, Nat.le_of_ble_eq_true rfl⟩ ⟨rfl, rfl⟩ hNW hK hP hS hP hK rfl rfl rfl hl.1 rfl rfl (Nat.le_of_ble_eq_true rfl) dX8_longestPhrase_22 z0 (fun H locs hP hS => ?_)
        refine lv_istore (lv' := [(4, .int z8), (0, .ref (a 0)), (1, .int y1), (2, .int y2), (3, .int y3)]) hx hb dX8_longestPhrase_25 hl (by decide) rfl (fun ls hl => ?_)
        refine lv_iload hx hb dX8_longestPhrase_27 (lv_at hl 0 rfl) ?_
        refine lv_iload_n hx hb dX8_longestPhrase_29 rfl (lv_at hl 3 rfl) ?_
        refine lv_icmp_le (tgt := 38) hx hb dX8_longestPhrase_30 (by decide) (fun c10 => ?_) (fun c10 => ?_)
        · have hJ := ite_t c10 hJ
          refine lv_iinc (v := y3 + 1) (lv' := [(3, .int (y3 + 1)), (4, .int z8), (0, .ref (a 0)), (1, .int y1), (2, .int y2)]) hx hb dX8_longestPhrase_38 hl (k := 4) rfl rfl (by decide) rfl (fun ls hl => ?_)
          refine lv_goto (tgt := 10) hx hb dX8_longestPhrase_41 (by decide) ?_
          exact ih v_thrown y1 y2 (y3 + 1) H locs ls hP hD hS (lv_sub hl [2, 3, 4, 0] rfl) hJ
        · have hJ := ite_f c10 hJ
          refine lv_iload_n hx hb dX8_longestPhrase_33 rfl (lv_at hl 4 rfl) ?_
          refine lv_istore_n (lv' := [(1, .int y3), (4, .int z8), (0, .ref (a 0)), (2, .int y2), (3, .int y3)]) hx hb dX8_longestPhrase_34 rfl hl (by decide) rfl (fun ls hl => ?_)
          refine lv_iload hx hb dX8_longestPhrase_35 (lv_at hl 1 rfl) ?_
          refine lv_istore_n (lv' := [(2, .int z8), (1, .int y3), (4, .int z8), (0, .ref (a 0)), (3, .int y3)]) hx hb dX8_longestPhrase_37 rfl hl (by decide) rfl (fun ls hl => ?_)
          refine lv_iinc (v := y3 + 1) (lv' := [(3, .int (y3 + 1)), (2, .int z8), (1, .int y3), (4, .int z8), (0, .ref (a 0))]) hx hb dX8_longestPhrase_38 hl (k := 4) rfl rfl (by decide) rfl (fun ls hl => ?_)
          refine lv_goto (tgt := 10) hx hb dX8_longestPhrase_41 (by decide) ?_
          exact ih v_thrown y3 z8 (y3 + 1) H locs ls hP hD hS (lv_sub hl [4, 2, 1, 0] rfl) hJ
  refine lv_iconst (v := 0) hx hb dX8_longestPhrase_0 (by decide) ?_
  refine lv_istore_n (lv' := [(1, .int (0 : Int32)), (0, .ref (a 0))]) hx hb dX8_longestPhrase_1 rfl hl (by decide) rfl (fun ls hl => ?_)
  refine lv_aload_n hx hb dX8_longestPhrase_2 rfl (lv_at hl 1 rfl) ?_
  refine lv_iload_n hx hb dX8_longestPhrase_3 rfl (lv_at hl 0 rfl) ?_
  obtain ⟨z1, e2, hJ⟩ := bnd hJ
  refine roVi (As := [.int (0 : Int32)]) (rest := []) (ci := 8) (q0 := 0) hx hb hml hown hts (c_X8_lengthOf fu l dC dI kI kB kZ a v_tape v_taped v_errorAt v_thrown v_world v_aside v_undone v_slots v_isKept v_undos v_seenPrefix v_seenLast v_seen v_previous v_gained v_gains v_decoded v_decodes v_readAt v_start v_kind v_word v_letters v_number v_fine v_text v_texted (0 : Int32) z1 e2) gX8_longestPhrase_X8_lengthOf qX8_lengthOf rfl ⟨Nat.le_of_ble_eq_true rfl, Nat.le_of_ble_eq_true rfl⟩ ⟨rfl, rfl⟩ hNW hK hP hS hP hK rfl rfl rfl hl.1 rfl rfl (Nat.le_of_ble_eq_true rfl) dX8_longestPhrase_4 z0 (fun H locs hP hS => ?_)
  refine lv_istore_n (lv' := [(2, .int z1), (1, .int (0 : Int32)), (0, .ref (a 0))]) hx hb dX8_longestPhrase_7 rfl hl (by decide) rfl (fun ls hl => ?_)
  refine lv_iconst (v := 1) hx hb dX8_longestPhrase_8 (by decide) ?_
  refine lv_istore_n (lv' := [(3, .int (1 : Int32)), (2, .int z1), (1, .int (0 : Int32)), (0, .ref (a 0))]) hx hb dX8_longestPhrase_9 rfl hl (by decide) rfl (fun ls hl => ?_)
  exact L10 fu v_thrown (0 : Int32) z1 (1 : Int32) H locs ls hP hD hS (lv_sub hl [3, 2, 1, 0] rfl) hJ
theorem qX8_usesOf : (yX8_usesOf.cls = RX8) ∧ yX8_usesOf.cls ≠ "java/lang/invoke/MethodHandle" ∧ yX8_usesOf.cls ≠ "java/lang/invoke/VarHandle" ∧ (parseMethodDescriptor yX8_usesOf.desc).map (fun d => d.parameters.length) = some 1 := by decide +kernel
set_option maxHeartbeats 4000000 in
set_option maxRecDepth 100000 in
theorem c_X8_usesOf (fu : Nat) (l : Launch) (dC : Nat → ClassId) (dI : Nat → Nat → Nat) (kI kB kZ : ClassId) (a : Nat → Nat) (v_tape : Nat → Int32) (v_taped : Int32) (v_errorAt : Int32) (v_thrown : Int32) (v_world : Nat → Int32) (v_aside : Nat → Int32) (v_undone : Nat → Int32) (v_slots : Nat → Int32) (v_isKept : Nat → Int32) (v_undos : Int32) (v_seenPrefix : Nat → Int32) (v_seenLast : Nat → Int32) (v_seen : Int32) (v_previous : Int32) (v_gained : Nat → Int32) (v_gains : Int32) (v_decoded : Nat → Int32) (v_decodes : Int32) (v_readAt : Int32) (v_start : Int32) (v_kind : Int32) (v_word : Int64) (v_letters : Int32) (v_number : Int32) (v_fine : Int32) (v_text : Nat → Int32) (v_texted : Int32) (p0 : Int32) (sz : Nat) (z : Int32 × Int32) (hJ : J_X8_usesOf fu v_thrown v_world p0 = some z) : Met l yX8_usesOf wsX8_usesOf ({ frames := 2, cells := 0, slots := 0, locals := 43 }) (va_Pc [.ref (a 0), .int p0] (RWp dC dI sz (MWc a kI kB kZ v_tape v_taped v_errorAt v_thrown v_world v_aside v_undone v_slots v_isKept v_undos v_seenPrefix v_seenLast v_seen v_previous v_gained v_gains v_decoded v_decodes v_readAt v_start v_kind v_word v_letters v_number v_fine v_text v_texted) [(kI, .int), (kB, .byte), (kZ, .boolean)])) (rwQi dC dI (va_A (MWc a kI kB kZ v_tape v_taped v_errorAt v_thrown v_world v_aside v_undone v_slots v_isKept v_undos v_seenPrefix v_seenLast v_seen v_previous v_gained v_gains v_decoded v_decodes v_readAt v_start v_kind v_word v_letters v_number v_fine v_text v_texted) sz) (MWc a kI kB kZ v_tape v_taped v_errorAt z.2 v_world v_aside v_undone v_slots v_isKept v_undos v_seenPrefix v_seenLast v_seen v_previous v_gained v_gains v_decoded v_decodes v_readAt v_start v_kind v_word v_letters v_number v_fine v_text v_texted) z.1) 0 0 (va_A (MWc a kI kB kZ v_tape v_taped v_errorAt v_thrown v_world v_aside v_undone v_slots v_isKept v_undos v_seenPrefix v_seenLast v_seen v_previous v_gained v_gains v_decoded v_decodes v_readAt v_start v_kind v_word v_letters v_number v_fine v_text v_texted) sz) := by
  refine rw_start (Qc := fun A => rwQi dC dI A (MWc a kI kB kZ v_tape v_taped v_errorAt z.2 v_world v_aside v_undone v_slots v_isKept v_undos v_seenPrefix v_seenLast v_seen v_previous v_gained v_gains v_decoded v_decodes v_readAt v_start v_kind v_word v_letters v_number v_fine v_text v_texted) z.1) (cc := cX8_usesOf) (maxL := 4) (ret := (some .int)) (by decide) rfl (Nat.le_of_ble_eq_true rfl) ?_
  intro p e s m args below meth c hx hb hr hml hown hts hlocks hNW hK A hA H locs ls hP hD hS hl
  have hown : s.vm.findClass RX8 = some m.cls := hown
  have hl : lv_has ls 4 [(0, .ref (a 0)), (1, .int p0)] := hl
  unfold J_X8_usesOf at hJ
  have L18 : ∀ (n : Nat) (v_thrown : Int32) (y1 : Int32) (y2 : Int32) (y3 : Int32) (H : Heap) (locs : List Loc) (ls : Array Slot), va_P (dC, dI) vwCl (MWc a kI kB kZ v_tape v_taped v_errorAt v_thrown v_world v_aside v_undone v_slots v_isKept v_undos v_seenPrefix v_seenLast v_seen v_previous v_gained v_gains v_decoded v_decodes v_readAt v_start v_kind v_word v_letters v_number v_fine v_text v_texted) H → va_D A (MWc a kI kB kZ v_tape v_taped v_errorAt v_thrown v_world v_aside v_undone v_slots v_isKept v_undos v_seenPrefix v_seenLast v_seen v_previous v_gained v_gains v_decoded v_decodes v_readAt v_start v_kind v_word v_letters v_number v_fine v_text v_texted) → va_S A s.heap H locs → lv_has ls 4 [(0, .ref (a 0)), (1, .int y1), (2, .int y2), (3, .int y3)] → J_X8_usesOf_b18 fu v_world n v_thrown y1 y2 y3 = some z → W p l e ({ frames := 2, cells := 0, slots := 0, locals := 43 }) s m args below meth c H locs 0 0 (MQ below (rwQi dC dI A (MWc a kI kB kZ v_tape v_taped v_errorAt z.2 v_world v_aside v_undone v_slots v_isKept v_undos v_seenPrefix v_seenLast v_seen v_previous v_gained v_gains v_decoded v_decodes v_readAt v_start v_kind v_word v_letters v_number v_fine v_text v_texted) z.1) args s 0 0 (A)) (F0 m 18 ls []) := by
    intro n
    induction n with
    | zero =>
      intro v_thrown y1 y2 y3 H locs ls hP hD hS hl hJ
      rw [J_X8_usesOf_b18] at hJ; cases hJ
    | succ n ih =>
      intro v_thrown y1 y2 y3 H locs ls hP hD hS hl hJ
      rw [J_X8_usesOf_b18] at hJ
      refine lv_iload_n hx hb dX8_usesOf_18 rfl (lv_at hl 3 rfl) ?_
      refine lv_aload_n hx hb dX8_usesOf_19 rfl (lv_at hl 0 rfl) ?_
      refine va_get (D := (dC, dI)) (ci := 8) (v := .ref (a 2)) (C := RX8) (T := TX8) (N := 27) hx hb hts (fun _ h => List.mem_cons_of_mem _ (List.mem_append_right _ h)) hown hK hP 0 rfl rfl 4 (by decide) (hts _ (List.mem_of_getElem? (i := 1) rfl)) (fun _ h9 => h9) rfl dX8_usesOf_20 ?_
      refine lv_bipush (v := 7) hx hb dX8_usesOf_23 (by decide) ?_
      obtain ⟨z6, e7, hJ⟩ := bnd hJ
      refine rd_int (n := 1726) (f := v_world) hx hb hK hP 2 0 rfl rfl e7 dX8_usesOf_25 ?_
      refine lv_icmp_ge (tgt := 47) hx hb dX8_usesOf_26 (by decide) (fun c8 => ?_) (fun c8 => ?_)
      · have hJ := ite_t c8 hJ
        refine lv_aload_n hx hb dX8_usesOf_47 rfl (lv_at hl 0 rfl) ?_
        refine lv_iload_n hx hb dX8_usesOf_48 rfl (lv_at hl 2 rfl) ?_
        obtain ⟨z9, e10, hJ⟩ := bnd hJ
        refine rwViW (As := [.int y2]) (rest := []) (ci := 8) (q0 := 0) hx hb hml hown hts (c_X8_told l dC dI kI kB kZ a v_tape v_taped v_errorAt v_thrown v_world v_aside v_undone v_slots v_isKept v_undos v_seenPrefix v_seenLast v_seen v_previous v_gained v_gains v_decoded v_decodes v_readAt v_start v_kind v_word v_letters v_number v_fine v_text v_texted y2 H.size z9 e10) gX8_usesOf_X8_told qX8_told rfl ⟨Nat.le_of_ble_eq_true rfl, Nat.le_of_ble_eq_true rfl⟩ ⟨rfl, rfl⟩ hNW hK hP hD hS hA hK rfl rfl rfl hl.1 rfl rfl (Nat.le_of_ble_eq_true rfl) dX8_usesOf_49 z0 (fun H locs hP hD hS => ?_)
        obtain rfl := Option.some.inj hJ
        exact rw_iret hx hb hr hlocks rfl hP hD hS dX8_usesOf_52
      · have hJ := ite_f c8 hJ
        refine lv_aload_n hx hb dX8_usesOf_29 rfl (lv_at hl 0 rfl) ?_
        refine lv_iload_n hx hb dX8_usesOf_30 rfl (lv_at hl 3 rfl) ?_
        obtain ⟨z11, e12, hJ⟩ := bnd hJ
        refine roVi (As := [.int y3]) (rest := []) (ci := 8) (q0 := 0) hx hb hml hown hts (c_X8_codeAt l dC dI kI kB kZ a v_tape v_taped v_errorAt v_thrown v_world v_aside v_undone v_slots v_isKept v_undos v_seenPrefix v_seenLast v_seen v_previous v_gained v_gains v_decoded v_decodes v_readAt v_start v_kind v_word v_letters v_number v_fine v_text v_texted y3 z11 e12) gX8_usesOf_X8_codeAt qX8_codeAt rfl ⟨Nat.le_of_ble_eq_true rfl, Nat.le_of_ble_eq_true rfl⟩ ⟨rfl, rfl⟩ hNW hK hP hS hP hK rfl rfl rfl hl.1 rfl rfl (Nat.le_of_ble_eq_true rfl) dX8_usesOf_31 z0 (fun H locs hP hS => ?_)
        refine lv_iload_n hx hb dX8_usesOf_34 rfl (lv_at hl 1 rfl) ?_
        refine lv_icmp_ne (tgt := 41) hx hb dX8_usesOf_35 (by decide) (fun c13 => ?_) (fun c13 => ?_)
        · have hJ := ite_f c13 hJ
          refine lv_iinc (v := y3 + 1) (lv' := [(3, .int (y3 + 1)), (0, .ref (a 0)), (1, .int y1), (2, .int y2)]) hx hb dX8_usesOf_41 hl (k := 3) rfl rfl (by decide) rfl (fun ls hl => ?_)
          refine lv_goto (tgt := 18) hx hb dX8_usesOf_44 (by decide) ?_
          exact ih v_thrown y1 y2 (y3 + 1) H locs ls hP hD hS (lv_sub hl [1, 2, 3, 0] rfl) hJ
        · have hJ := ite_t c13 hJ
          refine lv_iinc (v := y2 + 1) (lv' := [(2, .int (y2 + 1)), (0, .ref (a 0)), (1, .int y1), (3, .int y3)]) hx hb dX8_usesOf_38 hl (k := 2) rfl rfl (by decide) rfl (fun ls hl => ?_)
          refine lv_iinc (v := y3 + 1) (lv' := [(3, .int (y3 + 1)), (2, .int (y2 + 1)), (0, .ref (a 0)), (1, .int y1)]) hx hb dX8_usesOf_41 hl (k := 3) rfl rfl (by decide) rfl (fun ls hl => ?_)
          refine lv_goto (tgt := 18) hx hb dX8_usesOf_44 (by decide) ?_
          exact ih v_thrown y1 (y2 + 1) (y3 + 1) H locs ls hP hD hS (lv_sub hl [2, 3, 1, 0] rfl) hJ
  refine lv_aload_n hx hb dX8_usesOf_0 rfl (lv_at hl 0 rfl) ?_
  refine lv_iload_n hx hb dX8_usesOf_1 rfl (lv_at hl 1 rfl) ?_
  obtain ⟨z1, e2, hJ⟩ := bnd hJ
  refine roVi (As := [.int p0]) (rest := []) (ci := 8) (q0 := 0) hx hb hml hown hts (c_X8_isCode l dC dI kI kB kZ a v_tape v_taped v_errorAt v_thrown v_world v_aside v_undone v_slots v_isKept v_undos v_seenPrefix v_seenLast v_seen v_previous v_gained v_gains v_decoded v_decodes v_readAt v_start v_kind v_word v_letters v_number v_fine v_text v_texted p0 z1 e2) gX8_usesOf_X8_isCode qX8_isCode rfl ⟨Nat.le_of_ble_eq_true rfl, Nat.le_of_ble_eq_true rfl⟩ ⟨rfl, rfl⟩ hNW hK hP hS hP hK rfl rfl rfl hl.1 rfl rfl (Nat.le_of_ble_eq_true rfl) dX8_usesOf_2 z0 (fun H locs hP hS => ?_)
  refine lv_if_ne (tgt := 14) hx hb dX8_usesOf_5 (by decide) (fun c3 => ?_) (fun c3 => ?_)
  · have hJ := ite_f c3 hJ
    refine lv_iconst (v := 0) hx hb dX8_usesOf_14 (by decide) ?_
    refine lv_istore_n (lv' := [(2, .int (0 : Int32)), (0, .ref (a 0)), (1, .int p0)]) hx hb dX8_usesOf_15 rfl hl (by decide) rfl (fun ls hl => ?_)
    refine lv_iconst (v := 0) hx hb dX8_usesOf_16 (by decide) ?_
    refine lv_istore_n (lv' := [(3, .int (0 : Int32)), (2, .int (0 : Int32)), (0, .ref (a 0)), (1, .int p0)]) hx hb dX8_usesOf_17 rfl hl (by decide) rfl (fun ls hl => ?_)
    exact L18 fu v_thrown p0 (0 : Int32) (0 : Int32) H locs ls hP hD hS (lv_sub hl [2, 3, 1, 0] rfl) hJ
  · have hJ := ite_t c3 hJ
    refine lv_aload_n hx hb dX8_usesOf_8 rfl (lv_at hl 0 rfl) ?_
    refine lv_iconst (v := 1) hx hb dX8_usesOf_9 (by decide) ?_
    obtain ⟨z4, e5, hJ⟩ := bnd hJ
    refine rwViW (As := [.int (1 : Int32)]) (rest := []) (ci := 8) (q0 := 0) hx hb hml hown hts (c_X8_throwing l dC dI kI kB kZ a v_tape v_taped v_errorAt v_thrown v_world v_aside v_undone v_slots v_isKept v_undos v_seenPrefix v_seenLast v_seen v_previous v_gained v_gains v_decoded v_decodes v_readAt v_start v_kind v_word v_letters v_number v_fine v_text v_texted (1 : Int32) H.size z4 e5) gX8_usesOf_X8_throwing qX8_throwing rfl ⟨Nat.le_of_ble_eq_true rfl, Nat.le_of_ble_eq_true rfl⟩ ⟨rfl, rfl⟩ hNW hK hP hD hS hA hK rfl rfl rfl hl.1 rfl rfl (Nat.le_of_ble_eq_true rfl) dX8_usesOf_10 z0 (fun H locs hP hD hS => ?_)
    obtain rfl := Option.some.inj hJ
    exact rw_iret hx hb hr hlocks rfl hP hD hS dX8_usesOf_13
theorem qX8_onTape : (yX8_onTape.cls = RX8) ∧ yX8_onTape.cls ≠ "java/lang/invoke/MethodHandle" ∧ yX8_onTape.cls ≠ "java/lang/invoke/VarHandle" ∧ (parseMethodDescriptor yX8_onTape.desc).map (fun d => d.parameters.length) = some 0 := by decide +kernel
set_option maxHeartbeats 4000000 in
set_option maxRecDepth 100000 in
theorem c_X8_onTape (fu : Nat) (l : Launch) (dC : Nat → ClassId) (dI : Nat → Nat → Nat) (kI kB kZ : ClassId) (a : Nat → Nat) (v_tape : Nat → Int32) (v_taped : Int32) (v_errorAt : Int32) (v_thrown : Int32) (v_world : Nat → Int32) (v_aside : Nat → Int32) (v_undone : Nat → Int32) (v_slots : Nat → Int32) (v_isKept : Nat → Int32) (v_undos : Int32) (v_seenPrefix : Nat → Int32) (v_seenLast : Nat → Int32) (v_seen : Int32) (v_previous : Int32) (v_gained : Nat → Int32) (v_gains : Int32) (v_decoded : Nat → Int32) (v_decodes : Int32) (v_readAt : Int32) (v_start : Int32) (v_kind : Int32) (v_word : Int64) (v_letters : Int32) (v_number : Int32) (v_fine : Int32) (v_text : Nat → Int32) (v_texted : Int32) (z : Int32) (hJ : J_X8_onTape fu v_tape v_taped v_world = some z) : Met l yX8_onTape wsX8_onTape ({ frames := 4, cells := 0, slots := 0, locals := 88 }) (va_Pc [.ref (a 0)] (ROp dC dI (MWc a kI kB kZ v_tape v_taped v_errorAt v_thrown v_world v_aside v_undone v_slots v_isKept v_undos v_seenPrefix v_seenLast v_seen v_previous v_gained v_gains v_decoded v_decodes v_readAt v_start v_kind v_word v_letters v_number v_fine v_text v_texted) [(kI, .int), (kB, .byte), (kZ, .boolean)])) (roQi z) 0 0 (fun _ => False) := by
  refine ro_start (cc := cX8_onTape) (maxL := 3) (ret := (some .int)) (by decide) rfl (Nat.le_of_ble_eq_true rfl) ?_
  intro p e s m args below meth c hx hb hr hml hown hts hlocks hNW hK H locs ls hP hS hl
  have hown : s.vm.findClass RX8 = some m.cls := hown
  have hl : lv_has ls 3 [(0, .ref (a 0))] := hl
  unfold J_X8_onTape at hJ
  have L33 : ∀ (n : Nat) (y1 : Int32) (y2 : Int32) (H : Heap) (locs : List Loc) (ls : Array Slot), va_P (dC, dI) vwCl (MWc a kI kB kZ v_tape v_taped v_errorAt v_thrown v_world v_aside v_undone v_slots v_isKept v_undos v_seenPrefix v_seenLast v_seen v_previous v_gained v_gains v_decoded v_decodes v_readAt v_start v_kind v_word v_letters v_number v_fine v_text v_texted) H → va_S (fun _ => False) s.heap H locs → lv_has ls 3 [(0, .ref (a 0)), (1, .int y1), (2, .int y2)] → J_X8_onTape_b33 fu v_tape v_taped v_world n y1 y2 = some z → W p l e ({ frames := 4, cells := 0, slots := 0, locals := 88 }) s m args below meth c H locs 0 0 (MQ below (roQi z) args s 0 0 (fun _ => False)) (F0 m 33 ls []) := by
    intro n
    induction n with
    | zero =>
      intro y1 y2 H locs ls hP hS hl hJ
      rw [J_X8_onTape_b33] at hJ; cases hJ
    | succ n ih =>
      intro y1 y2 H locs ls hP hS hl hJ
      rw [J_X8_onTape_b33] at hJ
      refine lv_iload_n hx hb dX8_onTape_33 rfl (lv_at hl 2 rfl) ?_
      refine lv_aload_n hx hb dX8_onTape_34 rfl (lv_at hl 0 rfl) ?_
      refine va_get (D := (dC, dI)) (ci := 8) (v := .int v_taped) (C := RX8) (T := TX8) (N := 27) hx hb hts (fun _ h => List.mem_cons_of_mem _ (List.mem_append_right _ h)) hown hK hP 0 rfl rfl 1 (by decide) (hts _ (List.mem_of_getElem? (i := 1) rfl)) (fun _ h9 => h9) rfl dX8_onTape_35 ?_
      refine lv_icmp_ge (tgt := 66) hx hb dX8_onTape_38 (by decide) (fun c7 => ?_) (fun c7 => ?_)
      · have hJ := ite_t c7 hJ
        refine lv_iload_n hx hb dX8_onTape_66 rfl (lv_at hl 1 rfl) ?_
        exact ro_iret hx hb hr hlocks hS hJ dX8_onTape_67
      · have hJ := ite_f c7 hJ
        refine lv_iload_n hx hb dX8_onTape_41 rfl (lv_at hl 1 rfl) ?_
        refine lv_if_lt (tgt := 66) hx hb dX8_onTape_42 (by decide) (fun c8 => ?_) (fun c8 => ?_)
        · have hJ := ite_t c8 hJ
          refine lv_iload_n hx hb dX8_onTape_66 rfl (lv_at hl 1 rfl) ?_
          exact ro_iret hx hb hr hlocks hS hJ dX8_onTape_67
        · have hJ := ite_f c8 hJ
          refine lv_aload_n hx hb dX8_onTape_45 rfl (lv_at hl 0 rfl) ?_
          refine lv_iload_n hx hb dX8_onTape_46 rfl (lv_at hl 1 rfl) ?_
          refine lv_aload_n hx hb dX8_onTape_47 rfl (lv_at hl 0 rfl) ?_
          refine va_get (D := (dC, dI)) (ci := 8) (v := .ref (a 1)) (C := RX8) (T := TX8) (N := 27) hx hb hts (fun _ h => List.mem_cons_of_mem _ (List.mem_append_right _ h)) hown hK hP 0 rfl rfl 0 (by decide) (hts _ (List.mem_of_getElem? (i := 2) rfl)) (fun _ h9 => h9) rfl dX8_onTape_48 ?_
          refine lv_iload_n hx hb dX8_onTape_51 rfl (lv_at hl 2 rfl) ?_
          obtain ⟨z9, e10, hJ⟩ := bnd hJ
          refine rd_byte (n := 800) (f := v_tape) hx hb hK hP 1 1 rfl rfl e10 dX8_onTape_52 ?_
          refine lv_bipush (v := 97) hx hb dX8_onTape_53 (by decide) ?_
          refine lv_isub hx hb dX8_onTape_55 ?_
          obtain ⟨z11, e12, hJ⟩ := bnd hJ
          refine roVi (As := [.int y1, .int (z9 - (97 : Int32))]) (rest := []) (ci := 8) (q0 := 0) hx hb hml hown hts (c_X8_longer fu l dC dI kI kB kZ a v_tape v_taped v_errorAt v_thrown v_world v_aside v_undone v_slots v_isKept v_undos v_seenPrefix v_seenLast v_seen v_previous v_gained v_gains v_decoded v_decodes v_readAt v_start v_kind v_word v_letters v_number v_fine v_text v_texted y1 (z9 - (97 : Int32)) z11 e12) gX8_onTape_X8_longer qX8_longer rfl ⟨Nat.le_of_ble_eq_true rfl, Nat.le_of_ble_eq_true rfl⟩ ⟨rfl, rfl⟩ hNW hK hP hS hP hK rfl rfl rfl hl.1 rfl rfl (Nat.le_of_ble_eq_true rfl) dX8_onTape_56 z0 (fun H locs hP hS => ?_)
          refine lv_istore_n (lv' := [(1, .int z11), (0, .ref (a 0)), (2, .int y2)]) hx hb dX8_onTape_59 rfl hl (by decide) rfl (fun ls hl => ?_)
          refine lv_iinc (v := y2 + 1) (lv' := [(2, .int (y2 + 1)), (1, .int z11), (0, .ref (a 0))]) hx hb dX8_onTape_60 hl (k := 2) rfl rfl (by decide) rfl (fun ls hl => ?_)
          refine lv_goto (tgt := 33) hx hb dX8_onTape_63 (by decide) ?_
          exact ih z11 (y2 + 1) H locs ls hP hS (lv_sub hl [2, 1, 0] rfl) hJ
  refine lv_aload_n hx hb dX8_onTape_0 rfl (lv_at hl 0 rfl) ?_
  refine va_get (D := (dC, dI)) (ci := 8) (v := .int v_taped) (C := RX8) (T := TX8) (N := 27) hx hb hts (fun _ h => List.mem_cons_of_mem _ (List.mem_append_right _ h)) hown hK hP 0 rfl rfl 1 (by decide) (hts _ (List.mem_of_getElem? (i := 1) rfl)) (fun _ h9 => h9) rfl dX8_onTape_1 ?_
  refine lv_if_eq (tgt := 19) hx hb dX8_onTape_4 (by decide) (fun c1 => ?_) (fun c1 => ?_)
  · have hJ := ite_t c1 hJ
    refine lv_iconst (v := -1) hx hb dX8_onTape_19 (by decide) ?_
    exact ro_iret hx hb hr hlocks hS hJ dX8_onTape_20
  · have hJ := ite_f c1 hJ
    refine lv_aload_n hx hb dX8_onTape_7 rfl (lv_at hl 0 rfl) ?_
    refine lv_iconst (v := 0) hx hb dX8_onTape_8 (by decide) ?_
    refine lv_aload_n hx hb dX8_onTape_9 rfl (lv_at hl 0 rfl) ?_
    refine va_get (D := (dC, dI)) (ci := 8) (v := .int v_taped) (C := RX8) (T := TX8) (N := 27) hx hb hts (fun _ h => List.mem_cons_of_mem _ (List.mem_append_right _ h)) hown hK hP 0 rfl rfl 1 (by decide) (hts _ (List.mem_of_getElem? (i := 1) rfl)) (fun _ h9 => h9) rfl dX8_onTape_10 ?_
    obtain ⟨z2, e3, hJ⟩ := bnd hJ
    refine roVi (As := [.int (0 : Int32), .int v_taped]) (rest := []) (ci := 8) (q0 := 0) hx hb hml hown hts (c_X8_areLetters fu l dC dI kI kB kZ a v_tape v_taped v_errorAt v_thrown v_world v_aside v_undone v_slots v_isKept v_undos v_seenPrefix v_seenLast v_seen v_previous v_gained v_gains v_decoded v_decodes v_readAt v_start v_kind v_word v_letters v_number v_fine v_text v_texted (0 : Int32) v_taped z2 e3) gX8_onTape_X8_areLetters qX8_areLetters rfl ⟨Nat.le_of_ble_eq_true rfl, Nat.le_of_ble_eq_true rfl⟩ ⟨rfl, rfl⟩ hNW hK hP hS hP hK rfl rfl rfl hl.1 rfl rfl (Nat.le_of_ble_eq_true rfl) dX8_onTape_13 z0 (fun H locs hP hS => ?_)
    refine lv_if_ne (tgt := 21) hx hb dX8_onTape_16 (by decide) (fun c4 => ?_) (fun c4 => ?_)
    · have hJ := ite_f c4 hJ
      refine lv_aload_n hx hb dX8_onTape_21 rfl (lv_at hl 0 rfl) ?_
      refine va_get (D := (dC, dI)) (ci := 8) (v := .ref (a 1)) (C := RX8) (T := TX8) (N := 27) hx hb hts (fun _ h => List.mem_cons_of_mem _ (List.mem_append_right _ h)) hown hK hP 0 rfl rfl 0 (by decide) (hts _ (List.mem_of_getElem? (i := 2) rfl)) (fun _ h9 => h9) rfl dX8_onTape_22 ?_
      refine lv_iconst (v := 0) hx hb dX8_onTape_25 (by decide) ?_
      obtain ⟨z5, e6, hJ⟩ := bnd hJ
      refine rd_byte (n := 800) (f := v_tape) hx hb hK hP 1 1 rfl rfl e6 dX8_onTape_26 ?_
      refine lv_bipush (v := 97) hx hb dX8_onTape_27 (by decide) ?_
      refine lv_isub hx hb dX8_onTape_29 ?_
      refine lv_istore_n (lv' := [(1, .int (z5 - (97 : Int32))), (0, .ref (a 0))]) hx hb dX8_onTape_30 rfl hl (by decide) rfl (fun ls hl => ?_)
      refine lv_iconst (v := 1) hx hb dX8_onTape_31 (by decide) ?_
      refine lv_istore_n (lv' := [(2, .int (1 : Int32)), (1, .int (z5 - (97 : Int32))), (0, .ref (a 0))]) hx hb dX8_onTape_32 rfl hl (by decide) rfl (fun ls hl => ?_)
      exact L33 fu (z5 - (97 : Int32)) (1 : Int32) H locs ls hP hS (lv_sub hl [2, 1, 0] rfl) hJ
    · have hJ := ite_t c4 hJ
      refine lv_iconst (v := -1) hx hb dX8_onTape_19 (by decide) ?_
      exact ro_iret hx hb hr hlocks hS hJ dX8_onTape_20
theorem qX8_findTape : (yX8_findTape.cls = RX8) ∧ yX8_findTape.cls ≠ "java/lang/invoke/MethodHandle" ∧ yX8_findTape.cls ≠ "java/lang/invoke/VarHandle" ∧ (parseMethodDescriptor yX8_findTape.desc).map (fun d => d.parameters.length) = some 0 := by decide +kernel
set_option maxHeartbeats 4000000 in
set_option maxRecDepth 100000 in
theorem c_X8_findTape (fu : Nat) (l : Launch) (dC : Nat → ClassId) (dI : Nat → Nat → Nat) (kI kB kZ : ClassId) (a : Nat → Nat) (v_tape : Nat → Int32) (v_taped : Int32) (v_errorAt : Int32) (v_thrown : Int32) (v_world : Nat → Int32) (v_aside : Nat → Int32) (v_undone : Nat → Int32) (v_slots : Nat → Int32) (v_isKept : Nat → Int32) (v_undos : Int32) (v_seenPrefix : Nat → Int32) (v_seenLast : Nat → Int32) (v_seen : Int32) (v_previous : Int32) (v_gained : Nat → Int32) (v_gains : Int32) (v_decoded : Nat → Int32) (v_decodes : Int32) (v_readAt : Int32) (v_start : Int32) (v_kind : Int32) (v_word : Int64) (v_letters : Int32) (v_number : Int32) (v_fine : Int32) (v_text : Nat → Int32) (v_texted : Int32) (sz : Nat) (z : Int32 × Int32) (hJ : J_X8_findTape fu v_tape v_taped v_thrown v_world = some z) : Met l yX8_findTape wsX8_findTape ({ frames := 5, cells := 0, slots := 0, locals := 110 }) (va_Pc [.ref (a 0)] (RWp dC dI sz (MWc a kI kB kZ v_tape v_taped v_errorAt v_thrown v_world v_aside v_undone v_slots v_isKept v_undos v_seenPrefix v_seenLast v_seen v_previous v_gained v_gains v_decoded v_decodes v_readAt v_start v_kind v_word v_letters v_number v_fine v_text v_texted) [(kI, .int), (kB, .byte), (kZ, .boolean)])) (rwQi dC dI (va_A (MWc a kI kB kZ v_tape v_taped v_errorAt v_thrown v_world v_aside v_undone v_slots v_isKept v_undos v_seenPrefix v_seenLast v_seen v_previous v_gained v_gains v_decoded v_decodes v_readAt v_start v_kind v_word v_letters v_number v_fine v_text v_texted) sz) (MWc a kI kB kZ v_tape v_taped v_errorAt z.2 v_world v_aside v_undone v_slots v_isKept v_undos v_seenPrefix v_seenLast v_seen v_previous v_gained v_gains v_decoded v_decodes v_readAt v_start v_kind v_word v_letters v_number v_fine v_text v_texted) z.1) 0 0 (va_A (MWc a kI kB kZ v_tape v_taped v_errorAt v_thrown v_world v_aside v_undone v_slots v_isKept v_undos v_seenPrefix v_seenLast v_seen v_previous v_gained v_gains v_decoded v_decodes v_readAt v_start v_kind v_word v_letters v_number v_fine v_text v_texted) sz) := by
  refine rw_start (Qc := fun A => rwQi dC dI A (MWc a kI kB kZ v_tape v_taped v_errorAt z.2 v_world v_aside v_undone v_slots v_isKept v_undos v_seenPrefix v_seenLast v_seen v_previous v_gained v_gains v_decoded v_decodes v_readAt v_start v_kind v_word v_letters v_number v_fine v_text v_texted) z.1) (cc := cX8_findTape) (maxL := 2) (ret := (some .int)) (by decide) rfl (Nat.le_of_ble_eq_true rfl) ?_
  intro p e s m args below meth c hx hb hr hml hown hts hlocks hNW hK A hA H locs ls hP hD hS hl
  have hown : s.vm.findClass RX8 = some m.cls := hown
  have hl : lv_has ls 2 [(0, .ref (a 0))] := hl
  unfold J_X8_findTape at hJ
  refine lv_aload_n hx hb dX8_findTape_0 rfl (lv_at hl 0 rfl) ?_
  obtain ⟨z1, e2, hJ⟩ := bnd hJ
  refine roVi (As := []) (rest := []) (ci := 8) (q0 := 0) hx hb hml hown hts (c_X8_onTape fu l dC dI kI kB kZ a v_tape v_taped v_errorAt v_thrown v_world v_aside v_undone v_slots v_isKept v_undos v_seenPrefix v_seenLast v_seen v_previous v_gained v_gains v_decoded v_decodes v_readAt v_start v_kind v_word v_letters v_number v_fine v_text v_texted z1 e2) gX8_findTape_X8_onTape qX8_onTape rfl ⟨Nat.le_of_ble_eq_true rfl, Nat.le_of_ble_eq_true rfl⟩ ⟨rfl, rfl⟩ hNW hK hP hS hP hK rfl rfl rfl hl.1 rfl rfl (Nat.le_of_ble_eq_true rfl) dX8_findTape_1 z0 (fun H locs hP hS => ?_)
  refine lv_istore_n (lv' := [(1, .int z1), (0, .ref (a 0))]) hx hb dX8_findTape_4 rfl hl (by decide) rfl (fun ls hl => ?_)
  refine lv_iload_n hx hb dX8_findTape_5 rfl (lv_at hl 0 rfl) ?_
  refine lv_if_ge (tgt := 15) hx hb dX8_findTape_6 (by decide) (fun c3 => ?_) (fun c3 => ?_)
  · have hJ := ite_t c3 hJ
    refine lv_aload_n hx hb dX8_findTape_15 rfl (lv_at hl 1 rfl) ?_
    refine lv_iload_n hx hb dX8_findTape_16 rfl (lv_at hl 0 rfl) ?_
    obtain ⟨z4, e5, hJ⟩ := bnd hJ
    refine rwViW (As := [.int z1]) (rest := []) (ci := 8) (q0 := 0) hx hb hml hown hts (c_X8_told l dC dI kI kB kZ a v_tape v_taped v_errorAt v_thrown v_world v_aside v_undone v_slots v_isKept v_undos v_seenPrefix v_seenLast v_seen v_previous v_gained v_gains v_decoded v_decodes v_readAt v_start v_kind v_word v_letters v_number v_fine v_text v_texted z1 H.size z4 e5) gX8_findTape_X8_told qX8_told rfl ⟨Nat.le_of_ble_eq_true rfl, Nat.le_of_ble_eq_true rfl⟩ ⟨rfl, rfl⟩ hNW hK hP hD hS hA hK rfl rfl rfl hl.1 rfl rfl (Nat.le_of_ble_eq_true rfl) dX8_findTape_17 z0 (fun H locs hP hD hS => ?_)
    obtain rfl := Option.some.inj hJ
    exact rw_iret hx hb hr hlocks rfl hP hD hS dX8_findTape_20
  · have hJ := ite_f c3 hJ
    refine lv_aload_n hx hb dX8_findTape_9 rfl (lv_at hl 1 rfl) ?_
    refine lv_iconst (v := 1) hx hb dX8_findTape_10 (by decide) ?_
    obtain ⟨z6, e7, hJ⟩ := bnd hJ
    refine rwViW (As := [.int (1 : Int32)]) (rest := []) (ci := 8) (q0 := 0) hx hb hml hown hts (c_X8_throwing l dC dI kI kB kZ a v_tape v_taped v_errorAt v_thrown v_world v_aside v_undone v_slots v_isKept v_undos v_seenPrefix v_seenLast v_seen v_previous v_gained v_gains v_decoded v_decodes v_readAt v_start v_kind v_word v_letters v_number v_fine v_text v_texted (1 : Int32) H.size z6 e7) gX8_findTape_X8_throwing qX8_throwing rfl ⟨Nat.le_of_ble_eq_true rfl, Nat.le_of_ble_eq_true rfl⟩ ⟨rfl, rfl⟩ hNW hK hP hD hS hA hK rfl rfl rfl hl.1 rfl rfl (Nat.le_of_ble_eq_true rfl) dX8_findTape_11 z0 (fun H locs hP hD hS => ?_)
    obtain rfl := Option.some.inj hJ
    exact rw_iret hx hb hr hlocks rfl hP hD hS dX8_findTape_14
theorem qX8_hasPhrase : (yX8_hasPhrase.cls = RX8) ∧ yX8_hasPhrase.cls ≠ "java/lang/invoke/MethodHandle" ∧ yX8_hasPhrase.cls ≠ "java/lang/invoke/VarHandle" ∧ (parseMethodDescriptor yX8_hasPhrase.desc).map (fun d => d.parameters.length) = some 0 := by decide +kernel
set_option maxHeartbeats 4000000 in
set_option maxRecDepth 100000 in
theorem c_X8_hasPhrase (l : Launch) (dC : Nat → ClassId) (dI : Nat → Nat → Nat) (kI kB kZ : ClassId) (a : Nat → Nat) (v_tape : Nat → Int32) (v_taped : Int32) (v_errorAt : Int32) (v_thrown : Int32) (v_world : Nat → Int32) (v_aside : Nat → Int32) (v_undone : Nat → Int32) (v_slots : Nat → Int32) (v_isKept : Nat → Int32) (v_undos : Int32) (v_seenPrefix : Nat → Int32) (v_seenLast : Nat → Int32) (v_seen : Int32) (v_previous : Int32) (v_gained : Nat → Int32) (v_gains : Int32) (v_decoded : Nat → Int32) (v_decodes : Int32) (v_readAt : Int32) (v_start : Int32) (v_kind : Int32) (v_word : Int64) (v_letters : Int32) (v_number : Int32) (v_fine : Int32) (v_text : Nat → Int32) (v_texted : Int32) (sz : Nat) (z : Int32 × Int32) (hJ : J_X8_hasPhrase v_thrown v_world = some z) : Met l yX8_hasPhrase wsX8_hasPhrase ({ frames := 1, cells := 0, slots := 0, locals := 21 }) (va_Pc [.ref (a 0)] (RWp dC dI sz (MWc a kI kB kZ v_tape v_taped v_errorAt v_thrown v_world v_aside v_undone v_slots v_isKept v_undos v_seenPrefix v_seenLast v_seen v_previous v_gained v_gains v_decoded v_decodes v_readAt v_start v_kind v_word v_letters v_number v_fine v_text v_texted) [(kI, .int), (kB, .byte), (kZ, .boolean)])) (rwQi dC dI (va_A (MWc a kI kB kZ v_tape v_taped v_errorAt v_thrown v_world v_aside v_undone v_slots v_isKept v_undos v_seenPrefix v_seenLast v_seen v_previous v_gained v_gains v_decoded v_decodes v_readAt v_start v_kind v_word v_letters v_number v_fine v_text v_texted) sz) (MWc a kI kB kZ v_tape v_taped v_errorAt z.2 v_world v_aside v_undone v_slots v_isKept v_undos v_seenPrefix v_seenLast v_seen v_previous v_gained v_gains v_decoded v_decodes v_readAt v_start v_kind v_word v_letters v_number v_fine v_text v_texted) z.1) 0 0 (va_A (MWc a kI kB kZ v_tape v_taped v_errorAt v_thrown v_world v_aside v_undone v_slots v_isKept v_undos v_seenPrefix v_seenLast v_seen v_previous v_gained v_gains v_decoded v_decodes v_readAt v_start v_kind v_word v_letters v_number v_fine v_text v_texted) sz) := by
  refine rw_start (Qc := fun A => rwQi dC dI A (MWc a kI kB kZ v_tape v_taped v_errorAt z.2 v_world v_aside v_undone v_slots v_isKept v_undos v_seenPrefix v_seenLast v_seen v_previous v_gained v_gains v_decoded v_decodes v_readAt v_start v_kind v_word v_letters v_number v_fine v_text v_texted) z.1) (cc := cX8_hasPhrase) (maxL := 1) (ret := (some .boolean)) (by decide) rfl (Nat.le_of_ble_eq_true rfl) ?_
  intro p e s m args below meth c hx hb hr hml hown hts hlocks hNW hK A hA H locs ls hP hD hS hl
  have hown : s.vm.findClass RX8 = some m.cls := hown
  have hl : lv_has ls 1 [(0, .ref (a 0))] := hl
  unfold J_X8_hasPhrase at hJ
  have L15 : ∀ (v_thrown : Int32) (k1 : Int32) (H : Heap) (locs : List Loc) (ls : Array Slot), va_P (dC, dI) vwCl (MWc a kI kB kZ v_tape v_taped v_errorAt v_thrown v_world v_aside v_undone v_slots v_isKept v_undos v_seenPrefix v_seenLast v_seen v_previous v_gained v_gains v_decoded v_decodes v_readAt v_start v_kind v_word v_letters v_number v_fine v_text v_texted) H → va_D A (MWc a kI kB kZ v_tape v_taped v_errorAt v_thrown v_world v_aside v_undone v_slots v_isKept v_undos v_seenPrefix v_seenLast v_seen v_previous v_gained v_gains v_decoded v_decodes v_readAt v_start v_kind v_word v_letters v_number v_fine v_text v_texted) → va_S A s.heap H locs → lv_has ls 1 [] → J_X8_hasPhrase_b15 v_world v_thrown k1 = some z → W p l e ({ frames := 1, cells := 0, slots := 0, locals := 21 }) s m args below meth c H locs 0 0 (MQ below (rwQi dC dI A (MWc a kI kB kZ v_tape v_taped v_errorAt z.2 v_world v_aside v_undone v_slots v_isKept v_undos v_seenPrefix v_seenLast v_seen v_previous v_gained v_gains v_decoded v_decodes v_readAt v_start v_kind v_word v_letters v_number v_fine v_text v_texted) z.1) args s 0 0 (A)) (F0 m 15 ls [.int k1, .ref (a 0)]) := by
    intro v_thrown k1 H locs ls hP hD hS hl hJ
    unfold J_X8_hasPhrase_b15 at hJ
    obtain ⟨z4, e5, hJ⟩ := bnd hJ
    refine rwViW (As := [.int k1]) (rest := []) (ci := 8) (q0 := 0) hx hb hml hown hts (c_X8_toldIf l dC dI kI kB kZ a v_tape v_taped v_errorAt v_thrown v_world v_aside v_undone v_slots v_isKept v_undos v_seenPrefix v_seenLast v_seen v_previous v_gained v_gains v_decoded v_decodes v_readAt v_start v_kind v_word v_letters v_number v_fine v_text v_texted k1 H.size z4 e5) gX8_hasPhrase_X8_toldIf qX8_toldIf rfl ⟨Nat.le_of_ble_eq_true rfl, Nat.le_of_ble_eq_true rfl⟩ ⟨rfl, rfl⟩ hNW hK hP hD hS hA hK rfl rfl rfl hl.1 rfl rfl (Nat.le_of_ble_eq_true rfl) dX8_hasPhrase_15 z0 (fun H locs hP hD hS => ?_)
    obtain ⟨h6, hJ⟩ := ite_some hJ
    obtain rfl := Option.some.inj hJ
    exact rw_zret hx hb hr hlocks (nar_z h6) rfl hP hD hS dX8_hasPhrase_18
  refine lv_aload_n hx hb dX8_hasPhrase_0 rfl (lv_at hl 0 rfl) ?_
  refine lv_aload_n hx hb dX8_hasPhrase_1 rfl (lv_at hl 0 rfl) ?_
  refine va_get (D := (dC, dI)) (ci := 8) (v := .ref (a 2)) (C := RX8) (T := TX8) (N := 27) hx hb hts (fun _ h => List.mem_cons_of_mem _ (List.mem_append_right _ h)) hown hK hP 0 rfl rfl 4 (by decide) (hts _ (List.mem_of_getElem? (i := 1) rfl)) (fun _ h9 => h9) rfl dX8_hasPhrase_2 ?_
  refine lv_iconst (v := 5) hx hb dX8_hasPhrase_5 (by decide) ?_
  obtain ⟨z1, e2, hJ⟩ := bnd hJ
  refine rd_int (n := 1726) (f := v_world) hx hb hK hP 2 0 rfl rfl e2 dX8_hasPhrase_6 ?_
  refine lv_if_le (tgt := 14) hx hb dX8_hasPhrase_7 (by decide) (fun c3 => ?_) (fun c3 => ?_)
  · have hJ := ite_t c3 hJ
    refine lv_iconst (v := 0) hx hb dX8_hasPhrase_14 (by decide) ?_
    exact L15 v_thrown (0 : Int32) H locs ls hP hD hS (lv_sub hl [] rfl) hJ
  · have hJ := ite_f c3 hJ
    refine lv_iconst (v := 1) hx hb dX8_hasPhrase_10 (by decide) ?_
    refine lv_goto (tgt := 15) hx hb dX8_hasPhrase_11 (by decide) ?_
    exact L15 v_thrown (1 : Int32) H locs ls hP hD hS (lv_sub hl [] rfl) hJ
theorem qX8_currentPhrase : (yX8_currentPhrase.cls = RX8) ∧ yX8_currentPhrase.cls ≠ "java/lang/invoke/MethodHandle" ∧ yX8_currentPhrase.cls ≠ "java/lang/invoke/VarHandle" ∧ (parseMethodDescriptor yX8_currentPhrase.desc).map (fun d => d.parameters.length) = some 0 := by decide +kernel
set_option maxHeartbeats 4000000 in
set_option maxRecDepth 100000 in
theorem c_X8_currentPhrase (l : Launch) (dC : Nat → ClassId) (dI : Nat → Nat → Nat) (kI kB kZ : ClassId) (a : Nat → Nat) (v_tape : Nat → Int32) (v_taped : Int32) (v_errorAt : Int32) (v_thrown : Int32) (v_world : Nat → Int32) (v_aside : Nat → Int32) (v_undone : Nat → Int32) (v_slots : Nat → Int32) (v_isKept : Nat → Int32) (v_undos : Int32) (v_seenPrefix : Nat → Int32) (v_seenLast : Nat → Int32) (v_seen : Int32) (v_previous : Int32) (v_gained : Nat → Int32) (v_gains : Int32) (v_decoded : Nat → Int32) (v_decodes : Int32) (v_readAt : Int32) (v_start : Int32) (v_kind : Int32) (v_word : Int64) (v_letters : Int32) (v_number : Int32) (v_fine : Int32) (v_text : Nat → Int32) (v_texted : Int32) (sz : Nat) (z : Int32 × Int32) (hJ : J_X8_currentPhrase v_thrown v_world = some z) : Met l yX8_currentPhrase wsX8_currentPhrase ({ frames := 1, cells := 0, slots := 0, locals := 21 }) (va_Pc [.ref (a 0)] (RWp dC dI sz (MWc a kI kB kZ v_tape v_taped v_errorAt v_thrown v_world v_aside v_undone v_slots v_isKept v_undos v_seenPrefix v_seenLast v_seen v_previous v_gained v_gains v_decoded v_decodes v_readAt v_start v_kind v_word v_letters v_number v_fine v_text v_texted) [(kI, .int), (kB, .byte), (kZ, .boolean)])) (rwQi dC dI (va_A (MWc a kI kB kZ v_tape v_taped v_errorAt v_thrown v_world v_aside v_undone v_slots v_isKept v_undos v_seenPrefix v_seenLast v_seen v_previous v_gained v_gains v_decoded v_decodes v_readAt v_start v_kind v_word v_letters v_number v_fine v_text v_texted) sz) (MWc a kI kB kZ v_tape v_taped v_errorAt z.2 v_world v_aside v_undone v_slots v_isKept v_undos v_seenPrefix v_seenLast v_seen v_previous v_gained v_gains v_decoded v_decodes v_readAt v_start v_kind v_word v_letters v_number v_fine v_text v_texted) z.1) 0 0 (va_A (MWc a kI kB kZ v_tape v_taped v_errorAt v_thrown v_world v_aside v_undone v_slots v_isKept v_undos v_seenPrefix v_seenLast v_seen v_previous v_gained v_gains v_decoded v_decodes v_readAt v_start v_kind v_word v_letters v_number v_fine v_text v_texted) sz) := by
  refine rw_start (Qc := fun A => rwQi dC dI A (MWc a kI kB kZ v_tape v_taped v_errorAt z.2 v_world v_aside v_undone v_slots v_isKept v_undos v_seenPrefix v_seenLast v_seen v_previous v_gained v_gains v_decoded v_decodes v_readAt v_start v_kind v_word v_letters v_number v_fine v_text v_texted) z.1) (cc := cX8_currentPhrase) (maxL := 1) (ret := (some .int)) (by decide) rfl (Nat.le_of_ble_eq_true rfl) ?_
  intro p e s m args below meth c hx hb hr hml hown hts hlocks hNW hK A hA H locs ls hP hD hS hl
  have hown : s.vm.findClass RX8 = some m.cls := hown
  have hl : lv_has ls 1 [(0, .ref (a 0))] := hl
  unfold J_X8_currentPhrase at hJ
  refine lv_aload_n hx hb dX8_currentPhrase_0 rfl (lv_at hl 0 rfl) ?_
  refine va_get (D := (dC, dI)) (ci := 8) (v := .ref (a 2)) (C := RX8) (T := TX8) (N := 27) hx hb hts (fun _ h => List.mem_cons_of_mem _ (List.mem_append_right _ h)) hown hK hP 0 rfl rfl 4 (by decide) (hts _ (List.mem_of_getElem? (i := 1) rfl)) (fun _ h9 => h9) rfl dX8_currentPhrase_1 ?_
  refine lv_iconst (v := 5) hx hb dX8_currentPhrase_4 (by decide) ?_
  obtain ⟨z1, e2, hJ⟩ := bnd hJ
  refine rd_int (n := 1726) (f := v_world) hx hb hK hP 2 0 rfl rfl e2 dX8_currentPhrase_5 ?_
  refine lv_if_ne (tgt := 15) hx hb dX8_currentPhrase_6 (by decide) (fun c3 => ?_) (fun c3 => ?_)
  · have hJ := ite_f c3 hJ
    refine lv_aload_n hx hb dX8_currentPhrase_15 rfl (lv_at hl 0 rfl) ?_
    refine lv_aload_n hx hb dX8_currentPhrase_16 rfl (lv_at hl 0 rfl) ?_
    refine va_get (D := (dC, dI)) (ci := 8) (v := .ref (a 2)) (C := RX8) (T := TX8) (N := 27) hx hb hts (fun _ h => List.mem_cons_of_mem _ (List.mem_append_right _ h)) hown hK hP 0 rfl rfl 4 (by decide) (hts _ (List.mem_of_getElem? (i := 1) rfl)) (fun _ h9 => h9) rfl dX8_currentPhrase_17 ?_
    refine lv_iconst (v := 5) hx hb dX8_currentPhrase_20 (by decide) ?_
    obtain ⟨z4, e5, hJ⟩ := bnd hJ
    refine rd_int (n := 1726) (f := v_world) hx hb hK hP 2 0 rfl rfl e5 dX8_currentPhrase_21 ?_
    refine lv_iconst (v := 1) hx hb dX8_currentPhrase_22 (by decide) ?_
    refine lv_isub hx hb dX8_currentPhrase_23 ?_
    obtain ⟨z6, e7, hJ⟩ := bnd hJ
    refine rwViW (As := [.int (z4 - (1 : Int32))]) (rest := []) (ci := 8) (q0 := 0) hx hb hml hown hts (c_X8_told l dC dI kI kB kZ a v_tape v_taped v_errorAt v_thrown v_world v_aside v_undone v_slots v_isKept v_undos v_seenPrefix v_seenLast v_seen v_previous v_gained v_gains v_decoded v_decodes v_readAt v_start v_kind v_word v_letters v_number v_fine v_text v_texted (z4 - (1 : Int32)) H.size z6 e7) gX8_currentPhrase_X8_told qX8_told rfl ⟨Nat.le_of_ble_eq_true rfl, Nat.le_of_ble_eq_true rfl⟩ ⟨rfl, rfl⟩ hNW hK hP hD hS hA hK rfl rfl rfl hl.1 rfl rfl (Nat.le_of_ble_eq_true rfl) dX8_currentPhrase_24 z0 (fun H locs hP hD hS => ?_)
    obtain rfl := Option.some.inj hJ
    exact rw_iret hx hb hr hlocks rfl hP hD hS dX8_currentPhrase_27
  · have hJ := ite_t c3 hJ
    refine lv_aload_n hx hb dX8_currentPhrase_9 rfl (lv_at hl 0 rfl) ?_
    refine lv_iconst (v := 1) hx hb dX8_currentPhrase_10 (by decide) ?_
    obtain ⟨z8, e9, hJ⟩ := bnd hJ
    refine rwViW (As := [.int (1 : Int32)]) (rest := []) (ci := 8) (q0 := 0) hx hb hml hown hts (c_X8_throwing l dC dI kI kB kZ a v_tape v_taped v_errorAt v_thrown v_world v_aside v_undone v_slots v_isKept v_undos v_seenPrefix v_seenLast v_seen v_previous v_gained v_gains v_decoded v_decodes v_readAt v_start v_kind v_word v_letters v_number v_fine v_text v_texted (1 : Int32) H.size z8 e9) gX8_currentPhrase_X8_throwing qX8_throwing rfl ⟨Nat.le_of_ble_eq_true rfl, Nat.le_of_ble_eq_true rfl⟩ ⟨rfl, rfl⟩ hNW hK hP hD hS hA hK rfl rfl rfl hl.1 rfl rfl (Nat.le_of_ble_eq_true rfl) dX8_currentPhrase_11 z0 (fun H locs hP hD hS => ?_)
    obtain rfl := Option.some.inj hJ
    exact rw_iret hx hb hr hlocks rfl hP hD hS dX8_currentPhrase_14
theorem qX8_wouldEnd : (yX8_wouldEnd.cls = RX8) ∧ yX8_wouldEnd.cls ≠ "java/lang/invoke/MethodHandle" ∧ yX8_wouldEnd.cls ≠ "java/lang/invoke/VarHandle" ∧ (parseMethodDescriptor yX8_wouldEnd.desc).map (fun d => d.parameters.length) = some 1 := by decide +kernel
set_option maxHeartbeats 4000000 in
set_option maxRecDepth 100000 in
theorem c_X8_wouldEnd (fu : Nat) (l : Launch) (dC : Nat → ClassId) (dI : Nat → Nat → Nat) (kI kB kZ : ClassId) (a : Nat → Nat) (v_tape : Nat → Int32) (v_taped : Int32) (v_errorAt : Int32) (v_thrown : Int32) (v_world : Nat → Int32) (v_aside : Nat → Int32) (v_undone : Nat → Int32) (v_slots : Nat → Int32) (v_isKept : Nat → Int32) (v_undos : Int32) (v_seenPrefix : Nat → Int32) (v_seenLast : Nat → Int32) (v_seen : Int32) (v_previous : Int32) (v_gained : Nat → Int32) (v_gains : Int32) (v_decoded : Nat → Int32) (v_decodes : Int32) (v_readAt : Int32) (v_start : Int32) (v_kind : Int32) (v_word : Int64) (v_letters : Int32) (v_number : Int32) (v_fine : Int32) (v_text : Nat → Int32) (v_texted : Int32) (p0 : Int32) (z : Int32) (hJ : J_X8_wouldEnd fu v_world p0 = some z) : Met l yX8_wouldEnd wsX8_wouldEnd ({ frames := 2, cells := 0, slots := 0, locals := 43 }) (va_Pc [.ref (a 0), .int p0] (ROp dC dI (MWc a kI kB kZ v_tape v_taped v_errorAt v_thrown v_world v_aside v_undone v_slots v_isKept v_undos v_seenPrefix v_seenLast v_seen v_previous v_gained v_gains v_decoded v_decodes v_readAt v_start v_kind v_word v_letters v_number v_fine v_text v_texted) [(kI, .int), (kB, .byte), (kZ, .boolean)])) (roQi z) 0 0 (fun _ => False) := by
  refine ro_start (cc := cX8_wouldEnd) (maxL := 3) (ret := (some .boolean)) (by decide) rfl (Nat.le_of_ble_eq_true rfl) ?_
  intro p e s m args below meth c hx hb hr hml hown hts hlocks hNW hK H locs ls hP hS hl
  have hown : s.vm.findClass RX8 = some m.cls := hown
  have hl : lv_has ls 3 [(0, .ref (a 0)), (1, .int p0)] := hl
  unfold J_X8_wouldEnd at hJ
  refine lv_aload_n hx hb dX8_wouldEnd_0 rfl (lv_at hl 0 rfl) ?_
  refine va_get (D := (dC, dI)) (ci := 8) (v := .ref (a 2)) (C := RX8) (T := TX8) (N := 27) hx hb hts (fun _ h => List.mem_cons_of_mem _ (List.mem_append_right _ h)) hown hK hP 0 rfl rfl 4 (by decide) (hts _ (List.mem_of_getElem? (i := 1) rfl)) (fun _ h9 => h9) rfl dX8_wouldEnd_1 ?_
  refine lv_iconst (v := 5) hx hb dX8_wouldEnd_4 (by decide) ?_
  obtain ⟨z1, e2, hJ⟩ := bnd hJ
  refine rd_int (n := 1726) (f := v_world) hx hb hK hP 2 0 rfl rfl e2 dX8_wouldEnd_5 ?_
  refine lv_iconst (v := 1) hx hb dX8_wouldEnd_6 (by decide) ?_
  refine lv_isub hx hb dX8_wouldEnd_7 ?_
  refine lv_istore_n (lv' := [(2, .int (z1 - (1 : Int32))), (0, .ref (a 0)), (1, .int p0)]) hx hb dX8_wouldEnd_8 rfl hl (by decide) rfl (fun ls hl => ?_)
  refine lv_iload_n hx hb dX8_wouldEnd_9 rfl (lv_at hl 0 rfl) ?_
  refine lv_if_ge (tgt := 15) hx hb dX8_wouldEnd_10 (by decide) (fun c3 => ?_) (fun c3 => ?_)
  · have hJ := ite_t c3 hJ
    refine lv_aload_n hx hb dX8_wouldEnd_15 rfl (lv_at hl 1 rfl) ?_
    refine lv_iload_n hx hb dX8_wouldEnd_16 rfl (lv_at hl 0 rfl) ?_
    refine lv_iload_n hx hb dX8_wouldEnd_17 rfl (lv_at hl 2 rfl) ?_
    obtain ⟨z4, e5, hJ⟩ := bnd hJ
    refine roVi (As := [.int (z1 - (1 : Int32)), .int p0]) (rest := []) (ci := 8) (q0 := 0) hx hb hml hown hts (c_X8_longer fu l dC dI kI kB kZ a v_tape v_taped v_errorAt v_thrown v_world v_aside v_undone v_slots v_isKept v_undos v_seenPrefix v_seenLast v_seen v_previous v_gained v_gains v_decoded v_decodes v_readAt v_start v_kind v_word v_letters v_number v_fine v_text v_texted (z1 - (1 : Int32)) p0 z4 e5) gX8_wouldEnd_X8_longer qX8_longer rfl ⟨Nat.le_of_ble_eq_true rfl, Nat.le_of_ble_eq_true rfl⟩ ⟨rfl, rfl⟩ hNW hK hP hS hP hK rfl rfl rfl hl.1 rfl rfl (Nat.le_of_ble_eq_true rfl) dX8_wouldEnd_18 z0 (fun H locs hP hS => ?_)
    refine lv_if_ge (tgt := 28) hx hb dX8_wouldEnd_21 (by decide) (fun c6 => ?_) (fun c6 => ?_)
    · have hJ := ite_t c6 hJ
      refine lv_iconst (v := 0) hx hb dX8_wouldEnd_28 (by decide) ?_
      exact ro_zret hx hb hr hlocks rfl hS hJ dX8_wouldEnd_29
    · have hJ := ite_f c6 hJ
      refine lv_iconst (v := 1) hx hb dX8_wouldEnd_24 (by decide) ?_
      refine lv_goto (tgt := 29) hx hb dX8_wouldEnd_25 (by decide) ?_
      exact ro_zret hx hb hr hlocks rfl hS hJ dX8_wouldEnd_29
  · have hJ := ite_f c3 hJ
    refine lv_iconst (v := 0) hx hb dX8_wouldEnd_13 (by decide) ?_
    exact ro_zret hx hb hr hlocks rfl hS hJ dX8_wouldEnd_14
theorem qX8_wouldClear : (yX8_wouldClear.cls = RX8) ∧ yX8_wouldClear.cls ≠ "java/lang/invoke/MethodHandle" ∧ yX8_wouldClear.cls ≠ "java/lang/invoke/VarHandle" ∧ (parseMethodDescriptor yX8_wouldClear.desc).map (fun d => d.parameters.length) = some 0 := by decide +kernel
set_option maxHeartbeats 4000000 in
set_option maxRecDepth 100000 in
theorem c_X8_wouldClear (fu : Nat) (l : Launch) (dC : Nat → ClassId) (dI : Nat → Nat → Nat) (kI kB kZ : ClassId) (a : Nat → Nat) (v_tape : Nat → Int32) (v_taped : Int32) (v_errorAt : Int32) (v_thrown : Int32) (v_world : Nat → Int32) (v_aside : Nat → Int32) (v_undone : Nat → Int32) (v_slots : Nat → Int32) (v_isKept : Nat → Int32) (v_undos : Int32) (v_seenPrefix : Nat → Int32) (v_seenLast : Nat → Int32) (v_seen : Int32) (v_previous : Int32) (v_gained : Nat → Int32) (v_gains : Int32) (v_decoded : Nat → Int32) (v_decodes : Int32) (v_readAt : Int32) (v_start : Int32) (v_kind : Int32) (v_word : Int64) (v_letters : Int32) (v_number : Int32) (v_fine : Int32) (v_text : Nat → Int32) (v_texted : Int32) (z : Int32) (hJ : J_X8_wouldClear fu v_world = some z) : Met l yX8_wouldClear wsX8_wouldClear ({ frames := 4, cells := 0, slots := 0, locals := 86 }) (va_Pc [.ref (a 0)] (ROp dC dI (MWc a kI kB kZ v_tape v_taped v_errorAt v_thrown v_world v_aside v_undone v_slots v_isKept v_undos v_seenPrefix v_seenLast v_seen v_previous v_gained v_gains v_decoded v_decodes v_readAt v_start v_kind v_word v_letters v_number v_fine v_text v_texted) [(kI, .int), (kB, .byte), (kZ, .boolean)])) (roQi z) 0 0 (fun _ => False) := by
  refine ro_start (cc := cX8_wouldClear) (maxL := 3) (ret := (some .boolean)) (by decide) rfl (Nat.le_of_ble_eq_true rfl) ?_
  intro p e s m args below meth c hx hb hr hml hown hts hlocks hNW hK H locs ls hP hS hl
  have hown : s.vm.findClass RX8 = some m.cls := hown
  have hl : lv_has ls 3 [(0, .ref (a 0))] := hl
  unfold J_X8_wouldClear at hJ
  refine lv_aload_n hx hb dX8_wouldClear_0 rfl (lv_at hl 0 rfl) ?_
  obtain ⟨z1, e2, hJ⟩ := bnd hJ
  refine roVi (As := []) (rest := []) (ci := 8) (q0 := 0) hx hb hml hown hts (c_X8_isAllFull l dC dI kI kB kZ a v_tape v_taped v_errorAt v_thrown v_world v_aside v_undone v_slots v_isKept v_undos v_seenPrefix v_seenLast v_seen v_previous v_gained v_gains v_decoded v_decodes v_readAt v_start v_kind v_word v_letters v_number v_fine v_text v_texted z1 e2) gX8_wouldClear_X8_isAllFull qX8_isAllFull rfl ⟨Nat.le_of_ble_eq_true rfl, Nat.le_of_ble_eq_true rfl⟩ ⟨rfl, rfl⟩ hNW hK hP hS hP hK rfl rfl rfl hl.1 rfl rfl (Nat.le_of_ble_eq_true rfl) dX8_wouldClear_1 z0 (fun H locs hP hS => ?_)
  refine lv_if_ne (tgt := 9) hx hb dX8_wouldClear_4 (by decide) (fun c3 => ?_) (fun c3 => ?_)
  · have hJ := ite_f c3 hJ
    refine lv_aload_n hx hb dX8_wouldClear_9 rfl (lv_at hl 0 rfl) ?_
    refine va_get (D := (dC, dI)) (ci := 8) (v := .ref (a 2)) (C := RX8) (T := TX8) (N := 27) hx hb hts (fun _ h => List.mem_cons_of_mem _ (List.mem_append_right _ h)) hown hK hP 0 rfl rfl 4 (by decide) (hts _ (List.mem_of_getElem? (i := 1) rfl)) (fun _ h9 => h9) rfl dX8_wouldClear_10 ?_
    refine lv_iconst (v := 2) hx hb dX8_wouldClear_13 (by decide) ?_
    obtain ⟨z4, e5, hJ⟩ := bnd hJ
    refine rd_int (n := 1726) (f := v_world) hx hb hK hP 2 0 rfl rfl e5 dX8_wouldClear_14 ?_
    refine lv_iconst (v := 2) hx hb dX8_wouldClear_15 (by decide) ?_
    refine lv_icmp_eq (tgt := 35) hx hb dX8_wouldClear_16 (by decide) (fun c6 => ?_) (fun c6 => ?_)
    · have hJ := ite_t c6 hJ
      refine lv_aload_n hx hb dX8_wouldClear_35 rfl (lv_at hl 0 rfl) ?_
      obtain ⟨z7, e8, hJ⟩ := bnd hJ
      refine roVi (As := []) (rest := []) (ci := 8) (q0 := 0) hx hb hml hown hts (c_X8_bitsSince fu l dC dI kI kB kZ a v_tape v_taped v_errorAt v_thrown v_world v_aside v_undone v_slots v_isKept v_undos v_seenPrefix v_seenLast v_seen v_previous v_gained v_gains v_decoded v_decodes v_readAt v_start v_kind v_word v_letters v_number v_fine v_text v_texted z7 e8) gX8_wouldClear_X8_bitsSince qX8_bitsSince rfl ⟨Nat.le_of_ble_eq_true rfl, Nat.le_of_ble_eq_true rfl⟩ ⟨rfl, rfl⟩ hNW hK hP hS hP hK rfl rfl rfl hl.1 rfl rfl (Nat.le_of_ble_eq_true rfl) dX8_wouldClear_36 z0 (fun H locs hP hS => ?_)
      refine lv_aload_n hx hb dX8_wouldClear_39 rfl (lv_at hl 0 rfl) ?_
      refine va_get (D := (dC, dI)) (ci := 8) (v := .ref (a 2)) (C := RX8) (T := TX8) (N := 27) hx hb hts (fun _ h => List.mem_cons_of_mem _ (List.mem_append_right _ h)) hown hK hP 0 rfl rfl 4 (by decide) (hts _ (List.mem_of_getElem? (i := 1) rfl)) (fun _ h9 => h9) rfl dX8_wouldClear_40 ?_
      refine lv_iconst (v := 4) hx hb dX8_wouldClear_43 (by decide) ?_
      obtain ⟨z9, e10, hJ⟩ := bnd hJ
      refine rd_int (n := 1726) (f := v_world) hx hb hK hP 2 0 rfl rfl e10 dX8_wouldClear_44 ?_
      obtain ⟨z11, e12, hJ⟩ := bnd hJ
      refine roSi (As := [.int z9]) (rest := [.int z7]) hx hb hml hown hts (c_X8_bitsFor fu l dC dI z9 z11 e12) gX8_wouldClear_X8_bitsFor qX8_bitsFor rfl ⟨Nat.le_of_ble_eq_true rfl, Nat.le_of_ble_eq_true rfl⟩ ⟨rfl, rfl⟩ hNW hK hP hS (hP.sub (ws' := []) [] rfl) (hK.sub (tys' := []) [] rfl) hl.1 rfl rfl (Nat.le_of_ble_eq_true rfl) dX8_wouldClear_45 z0 (fun H locs hP hS => ?_)
      refine lv_iadd hx hb dX8_wouldClear_48 ?_
      refine lv_istore_n (lv' := [(1, .int (z7 + z11)), (0, .ref (a 0))]) hx hb dX8_wouldClear_49 rfl hl (by decide) rfl (fun ls hl => ?_)
      refine lv_aload_n hx hb dX8_wouldClear_50 rfl (lv_at hl 1 rfl) ?_
      obtain ⟨z13, e14, hJ⟩ := bnd hJ
      refine roVi (As := []) (rest := []) (ci := 8) (q0 := 0) hx hb hml hown hts (c_X8_symbolsSince fu l dC dI kI kB kZ a v_tape v_taped v_errorAt v_thrown v_world v_aside v_undone v_slots v_isKept v_undos v_seenPrefix v_seenLast v_seen v_previous v_gained v_gains v_decoded v_decodes v_readAt v_start v_kind v_word v_letters v_number v_fine v_text v_texted z13 e14) gX8_wouldClear_X8_symbolsSince qX8_symbolsSince rfl ⟨Nat.le_of_ble_eq_true rfl, Nat.le_of_ble_eq_true rfl⟩ ⟨rfl, rfl⟩ hNW hK hP hS hP hK rfl rfl rfl hl.1 rfl rfl (Nat.le_of_ble_eq_true rfl) dX8_wouldClear_51 z0 (fun H locs hP hS => ?_)
      refine lv_aload_n hx hb dX8_wouldClear_54 rfl (lv_at hl 1 rfl) ?_
      refine lv_aload_n hx hb dX8_wouldClear_55 rfl (lv_at hl 1 rfl) ?_
      refine va_get (D := (dC, dI)) (ci := 8) (v := .ref (a 2)) (C := RX8) (T := TX8) (N := 27) hx hb hts (fun _ h => List.mem_cons_of_mem _ (List.mem_append_right _ h)) hown hK hP 0 rfl rfl 4 (by decide) (hts _ (List.mem_of_getElem? (i := 1) rfl)) (fun _ h9 => h9) rfl dX8_wouldClear_56 ?_
      refine lv_iconst (v := 5) hx hb dX8_wouldClear_59 (by decide) ?_
      obtain ⟨z15, e16, hJ⟩ := bnd hJ
      refine rd_int (n := 1726) (f := v_world) hx hb hK hP 2 0 rfl rfl e16 dX8_wouldClear_60 ?_
      refine lv_iconst (v := 1) hx hb dX8_wouldClear_61 (by decide) ?_
      refine lv_isub hx hb dX8_wouldClear_62 ?_
      obtain ⟨z17, e18, hJ⟩ := bnd hJ
      refine roVi (As := [.int (z15 - (1 : Int32))]) (rest := [.int z13]) (ci := 8) (q0 := 0) hx hb hml hown hts (c_X8_lengthOf fu l dC dI kI kB kZ a v_tape v_taped v_errorAt v_thrown v_world v_aside v_undone v_slots v_isKept v_undos v_seenPrefix v_seenLast v_seen v_previous v_gained v_gains v_decoded v_decodes v_readAt v_start v_kind v_word v_letters v_number v_fine v_text v_texted (z15 - (1 : Int32)) z17 e18) gX8_wouldClear_X8_lengthOf qX8_lengthOf rfl ⟨Nat.le_of_ble_eq_true rfl, Nat.le_of_ble_eq_true rfl⟩ ⟨rfl, rfl⟩ hNW hK hP hS hP hK rfl rfl rfl hl.1 rfl rfl (Nat.le_of_ble_eq_true rfl) dX8_wouldClear_63 z0 (fun H locs hP hS => ?_)
      refine lv_iadd hx hb dX8_wouldClear_66 ?_
      refine lv_istore_n (lv' := [(2, .int (z13 + z17)), (1, .int (z7 + z11)), (0, .ref (a 0))]) hx hb dX8_wouldClear_67 rfl hl (by decide) rfl (fun ls hl => ?_)
      refine lv_aload_n hx hb dX8_wouldClear_68 rfl (lv_at hl 2 rfl) ?_
      refine lv_iload_n hx hb dX8_wouldClear_69 rfl (lv_at hl 1 rfl) ?_
      refine lv_iload_n hx hb dX8_wouldClear_70 rfl (lv_at hl 0 rfl) ?_
      obtain ⟨z19, e20, hJ⟩ := bnd hJ
      refine roVi (As := [.int (z7 + z11), .int (z13 + z17)]) (rest := []) (ci := 8) (q0 := 0) hx hb hml hown hts (c_X8_percentOf fu l dC dI kI kB kZ a v_tape v_taped v_errorAt v_thrown v_world v_aside v_undone v_slots v_isKept v_undos v_seenPrefix v_seenLast v_seen v_previous v_gained v_gains v_decoded v_decodes v_readAt v_start v_kind v_word v_letters v_number v_fine v_text v_texted (z7 + z11) (z13 + z17) z19 e20) gX8_wouldClear_X8_percentOf qX8_percentOf rfl ⟨Nat.le_of_ble_eq_true rfl, Nat.le_of_ble_eq_true rfl⟩ ⟨rfl, rfl⟩ hNW hK hP hS hP hK rfl rfl rfl hl.1 rfl rfl (Nat.le_of_ble_eq_true rfl) dX8_wouldClear_71 z0 (fun H locs hP hS => ?_)
      refine lv_aload_n hx hb dX8_wouldClear_74 rfl (lv_at hl 2 rfl) ?_
      refine va_get (D := (dC, dI)) (ci := 8) (v := .ref (a 2)) (C := RX8) (T := TX8) (N := 27) hx hb hts (fun _ h => List.mem_cons_of_mem _ (List.mem_append_right _ h)) hown hK hP 0 rfl rfl 4 (by decide) (hts _ (List.mem_of_getElem? (i := 1) rfl)) (fun _ h9 => h9) rfl dX8_wouldClear_75 ?_
      refine lv_iconst (v := 3) hx hb dX8_wouldClear_78 (by decide) ?_
      obtain ⟨z21, e22, hJ⟩ := bnd hJ
      refine rd_int (n := 1726) (f := v_world) hx hb hK hP 2 0 rfl rfl e22 dX8_wouldClear_79 ?_
      refine lv_icmp_le (tgt := 87) hx hb dX8_wouldClear_80 (by decide) (fun c23 => ?_) (fun c23 => ?_)
      · have hJ := ite_t c23 hJ
        refine lv_iconst (v := 0) hx hb dX8_wouldClear_87 (by decide) ?_
        exact ro_zret hx hb hr hlocks rfl hS hJ dX8_wouldClear_88
      · have hJ := ite_f c23 hJ
        refine lv_iconst (v := 1) hx hb dX8_wouldClear_83 (by decide) ?_
        refine lv_goto (tgt := 88) hx hb dX8_wouldClear_84 (by decide) ?_
        exact ro_zret hx hb hr hlocks rfl hS hJ dX8_wouldClear_88
    · have hJ := ite_f c6 hJ
      refine lv_aload_n hx hb dX8_wouldClear_19 rfl (lv_at hl 0 rfl) ?_
      refine va_get (D := (dC, dI)) (ci := 8) (v := .ref (a 2)) (C := RX8) (T := TX8) (N := 27) hx hb hts (fun _ h => List.mem_cons_of_mem _ (List.mem_append_right _ h)) hown hK hP 0 rfl rfl 4 (by decide) (hts _ (List.mem_of_getElem? (i := 1) rfl)) (fun _ h9 => h9) rfl dX8_wouldClear_20 ?_
      refine lv_iconst (v := 2) hx hb dX8_wouldClear_23 (by decide) ?_
      obtain ⟨z24, e25, hJ⟩ := bnd hJ
      refine rd_int (n := 1726) (f := v_world) hx hb hK hP 2 0 rfl rfl e25 dX8_wouldClear_24 ?_
      refine lv_iconst (v := 1) hx hb dX8_wouldClear_25 (by decide) ?_
      refine lv_icmp_ne (tgt := 33) hx hb dX8_wouldClear_26 (by decide) (fun c26 => ?_) (fun c26 => ?_)
      · have hJ := ite_f c26 hJ
        refine lv_iconst (v := 0) hx hb dX8_wouldClear_33 (by decide) ?_
        exact ro_zret hx hb hr hlocks rfl hS hJ dX8_wouldClear_34
      · have hJ := ite_t c26 hJ
        refine lv_iconst (v := 1) hx hb dX8_wouldClear_29 (by decide) ?_
        refine lv_goto (tgt := 34) hx hb dX8_wouldClear_30 (by decide) ?_
        exact ro_zret hx hb hr hlocks rfl hS hJ dX8_wouldClear_34
  · have hJ := ite_t c3 hJ
    refine lv_iconst (v := 0) hx hb dX8_wouldClear_7 (by decide) ?_
    exact ro_zret hx hb hr hlocks rfl hS hJ dX8_wouldClear_8
theorem qX8_clearsBy : (yX8_clearsBy.cls = RX8) ∧ yX8_clearsBy.cls ≠ "java/lang/invoke/MethodHandle" ∧ yX8_clearsBy.cls ≠ "java/lang/invoke/VarHandle" ∧ (parseMethodDescriptor yX8_clearsBy.desc).map (fun d => d.parameters.length) = some 1 := by decide +kernel
set_option maxHeartbeats 4000000 in
set_option maxRecDepth 100000 in
theorem c_X8_clearsBy (fu : Nat) (l : Launch) (dC : Nat → ClassId) (dI : Nat → Nat → Nat) (kI kB kZ : ClassId) (a : Nat → Nat) (v_tape : Nat → Int32) (v_taped : Int32) (v_errorAt : Int32) (v_thrown : Int32) (v_world : Nat → Int32) (v_aside : Nat → Int32) (v_undone : Nat → Int32) (v_slots : Nat → Int32) (v_isKept : Nat → Int32) (v_undos : Int32) (v_seenPrefix : Nat → Int32) (v_seenLast : Nat → Int32) (v_seen : Int32) (v_previous : Int32) (v_gained : Nat → Int32) (v_gains : Int32) (v_decoded : Nat → Int32) (v_decodes : Int32) (v_readAt : Int32) (v_start : Int32) (v_kind : Int32) (v_word : Int64) (v_letters : Int32) (v_number : Int32) (v_fine : Int32) (v_text : Nat → Int32) (v_texted : Int32) (p0 : Int32) (z : Int32) (hJ : J_X8_clearsBy fu v_world p0 = some z) : Met l yX8_clearsBy wsX8_clearsBy ({ frames := 5, cells := 0, slots := 0, locals := 108 }) (va_Pc [.ref (a 0), .int p0] (ROp dC dI (MWc a kI kB kZ v_tape v_taped v_errorAt v_thrown v_world v_aside v_undone v_slots v_isKept v_undos v_seenPrefix v_seenLast v_seen v_previous v_gained v_gains v_decoded v_decodes v_readAt v_start v_kind v_word v_letters v_number v_fine v_text v_texted) [(kI, .int), (kB, .byte), (kZ, .boolean)])) (roQi z) 0 0 (fun _ => False) := by
  refine ro_start (cc := cX8_clearsBy) (maxL := 2) (ret := (some .int)) (by decide) rfl (Nat.le_of_ble_eq_true rfl) ?_
  intro p e s m args below meth c hx hb hr hml hown hts hlocks hNW hK H locs ls hP hS hl
  have hown : s.vm.findClass RX8 = some m.cls := hown
  have hl : lv_has ls 2 [(0, .ref (a 0)), (1, .int p0)] := hl
  unfold J_X8_clearsBy at hJ
  refine lv_aload_n hx hb dX8_clearsBy_0 rfl (lv_at hl 0 rfl) ?_
  refine lv_iload_n hx hb dX8_clearsBy_1 rfl (lv_at hl 1 rfl) ?_
  obtain ⟨z1, e2, hJ⟩ := bnd hJ
  refine roVi (As := [.int p0]) (rest := []) (ci := 8) (q0 := 0) hx hb hml hown hts (c_X8_wouldEnd fu l dC dI kI kB kZ a v_tape v_taped v_errorAt v_thrown v_world v_aside v_undone v_slots v_isKept v_undos v_seenPrefix v_seenLast v_seen v_previous v_gained v_gains v_decoded v_decodes v_readAt v_start v_kind v_word v_letters v_number v_fine v_text v_texted p0 z1 e2) gX8_clearsBy_X8_wouldEnd qX8_wouldEnd rfl ⟨Nat.le_of_ble_eq_true rfl, Nat.le_of_ble_eq_true rfl⟩ ⟨rfl, rfl⟩ hNW hK hP hS hP hK rfl rfl rfl hl.1 rfl rfl (Nat.le_of_ble_eq_true rfl) dX8_clearsBy_2 z0 (fun H locs hP hS => ?_)
  refine lv_if_ne (tgt := 10) hx hb dX8_clearsBy_5 (by decide) (fun c3 => ?_) (fun c3 => ?_)
  · have hJ := ite_f c3 hJ
    refine lv_aload_n hx hb dX8_clearsBy_10 rfl (lv_at hl 0 rfl) ?_
    obtain ⟨z4, e5, hJ⟩ := bnd hJ
    refine roVi (As := []) (rest := []) (ci := 8) (q0 := 0) hx hb hml hown hts (c_X8_wouldClear fu l dC dI kI kB kZ a v_tape v_taped v_errorAt v_thrown v_world v_aside v_undone v_slots v_isKept v_undos v_seenPrefix v_seenLast v_seen v_previous v_gained v_gains v_decoded v_decodes v_readAt v_start v_kind v_word v_letters v_number v_fine v_text v_texted z4 e5) gX8_clearsBy_X8_wouldClear qX8_wouldClear rfl ⟨Nat.le_of_ble_eq_true rfl, Nat.le_of_ble_eq_true rfl⟩ ⟨rfl, rfl⟩ hNW hK hP hS hP hK rfl rfl rfl hl.1 rfl rfl (Nat.le_of_ble_eq_true rfl) dX8_clearsBy_11 z0 (fun H locs hP hS => ?_)
    refine lv_if_eq (tgt := 21) hx hb dX8_clearsBy_14 (by decide) (fun c6 => ?_) (fun c6 => ?_)
    · have hJ := ite_t c6 hJ
      refine lv_iconst (v := 0) hx hb dX8_clearsBy_21 (by decide) ?_
      exact ro_iret hx hb hr hlocks hS hJ dX8_clearsBy_22
    · have hJ := ite_f c6 hJ
      refine lv_iconst (v := 1) hx hb dX8_clearsBy_17 (by decide) ?_
      refine lv_goto (tgt := 22) hx hb dX8_clearsBy_18 (by decide) ?_
      exact ro_iret hx hb hr hlocks hS hJ dX8_clearsBy_22
  · have hJ := ite_t c3 hJ
    refine lv_iconst (v := 0) hx hb dX8_clearsBy_8 (by decide) ?_
    exact ro_iret hx hb hr hlocks hS hJ dX8_clearsBy_9
theorem qX8_codesBy : (yX8_codesBy.cls = RX8) ∧ yX8_codesBy.cls ≠ "java/lang/invoke/MethodHandle" ∧ yX8_codesBy.cls ≠ "java/lang/invoke/VarHandle" ∧ (parseMethodDescriptor yX8_codesBy.desc).map (fun d => d.parameters.length) = some 1 := by decide +kernel
set_option maxHeartbeats 4000000 in
set_option maxRecDepth 100000 in
theorem c_X8_codesBy (fu : Nat) (l : Launch) (dC : Nat → ClassId) (dI : Nat → Nat → Nat) (kI kB kZ : ClassId) (a : Nat → Nat) (v_tape : Nat → Int32) (v_taped : Int32) (v_errorAt : Int32) (v_thrown : Int32) (v_world : Nat → Int32) (v_aside : Nat → Int32) (v_undone : Nat → Int32) (v_slots : Nat → Int32) (v_isKept : Nat → Int32) (v_undos : Int32) (v_seenPrefix : Nat → Int32) (v_seenLast : Nat → Int32) (v_seen : Int32) (v_previous : Int32) (v_gained : Nat → Int32) (v_gains : Int32) (v_decoded : Nat → Int32) (v_decodes : Int32) (v_readAt : Int32) (v_start : Int32) (v_kind : Int32) (v_word : Int64) (v_letters : Int32) (v_number : Int32) (v_fine : Int32) (v_text : Nat → Int32) (v_texted : Int32) (p0 : Int32) (z : Int32) (hJ : J_X8_codesBy fu v_world p0 = some z) : Met l yX8_codesBy wsX8_codesBy ({ frames := 6, cells := 0, slots := 0, locals := 129 }) (va_Pc [.ref (a 0), .int p0] (ROp dC dI (MWc a kI kB kZ v_tape v_taped v_errorAt v_thrown v_world v_aside v_undone v_slots v_isKept v_undos v_seenPrefix v_seenLast v_seen v_previous v_gained v_gains v_decoded v_decodes v_readAt v_start v_kind v_word v_letters v_number v_fine v_text v_texted) [(kI, .int), (kB, .byte), (kZ, .boolean)])) (roQi z) 0 0 (fun _ => False) := by
  refine ro_start (cc := cX8_codesBy) (maxL := 2) (ret := (some .int)) (by decide) rfl (Nat.le_of_ble_eq_true rfl) ?_
  intro p e s m args below meth c hx hb hr hml hown hts hlocks hNW hK H locs ls hP hS hl
  have hown : s.vm.findClass RX8 = some m.cls := hown
  have hl : lv_has ls 2 [(0, .ref (a 0)), (1, .int p0)] := hl
  unfold J_X8_codesBy at hJ
  refine lv_aload_n hx hb dX8_codesBy_0 rfl (lv_at hl 0 rfl) ?_
  refine lv_iload_n hx hb dX8_codesBy_1 rfl (lv_at hl 1 rfl) ?_
  obtain ⟨z1, e2, hJ⟩ := bnd hJ
  refine roVi (As := [.int p0]) (rest := []) (ci := 8) (q0 := 0) hx hb hml hown hts (c_X8_wouldEnd fu l dC dI kI kB kZ a v_tape v_taped v_errorAt v_thrown v_world v_aside v_undone v_slots v_isKept v_undos v_seenPrefix v_seenLast v_seen v_previous v_gained v_gains v_decoded v_decodes v_readAt v_start v_kind v_word v_letters v_number v_fine v_text v_texted p0 z1 e2) gX8_codesBy_X8_wouldEnd qX8_wouldEnd rfl ⟨Nat.le_of_ble_eq_true rfl, Nat.le_of_ble_eq_true rfl⟩ ⟨rfl, rfl⟩ hNW hK hP hS hP hK rfl rfl rfl hl.1 rfl rfl (Nat.le_of_ble_eq_true rfl) dX8_codesBy_2 z0 (fun H locs hP hS => ?_)
  refine lv_if_ne (tgt := 10) hx hb dX8_codesBy_5 (by decide) (fun c3 => ?_) (fun c3 => ?_)
  · have hJ := ite_f c3 hJ
    refine lv_iconst (v := 1) hx hb dX8_codesBy_10 (by decide) ?_
    refine lv_aload_n hx hb dX8_codesBy_11 rfl (lv_at hl 0 rfl) ?_
    refine lv_iload_n hx hb dX8_codesBy_12 rfl (lv_at hl 1 rfl) ?_
    obtain ⟨z4, e5, hJ⟩ := bnd hJ
    refine roVi (As := [.int p0]) (rest := [.int (1 : Int32)]) (ci := 8) (q0 := 0) hx hb hml hown hts (c_X8_clearsBy fu l dC dI kI kB kZ a v_tape v_taped v_errorAt v_thrown v_world v_aside v_undone v_slots v_isKept v_undos v_seenPrefix v_seenLast v_seen v_previous v_gained v_gains v_decoded v_decodes v_readAt v_start v_kind v_word v_letters v_number v_fine v_text v_texted p0 z4 e5) gX8_codesBy_X8_clearsBy qX8_clearsBy rfl ⟨Nat.le_of_ble_eq_true rfl, Nat.le_of_ble_eq_true rfl⟩ ⟨rfl, rfl⟩ hNW hK hP hS hP hK rfl rfl rfl hl.1 rfl rfl (Nat.le_of_ble_eq_true rfl) dX8_codesBy_13 z0 (fun H locs hP hS => ?_)
    refine lv_iadd hx hb dX8_codesBy_16 ?_
    exact ro_iret hx hb hr hlocks hS hJ dX8_codesBy_17
  · have hJ := ite_t c3 hJ
    refine lv_iconst (v := 0) hx hb dX8_codesBy_8 (by decide) ?_
    exact ro_iret hx hb hr hlocks hS hJ dX8_codesBy_9
