theorem qX8_thrown : (yX8_thrown.cls = RX8) ∧ yX8_thrown.cls ≠ "java/lang/invoke/MethodHandle" ∧ yX8_thrown.cls ≠ "java/lang/invoke/VarHandle" ∧ (parseMethodDescriptor yX8_thrown.desc).map (fun d => d.parameters.length) = some 0 := by decide +kernel
set_option maxHeartbeats 4000000 in
set_option maxRecDepth 100000 in
theorem c_X8_thrown (l : Launch) (dC : Nat → ClassId) (dI : Nat → Nat → Nat) (kI kB kZ : ClassId) (a : Nat → Nat) (v_tape : Nat → Int32) (v_taped : Int32) (v_errorAt : Int32) (v_thrown : Int32) (v_world : Nat → Int32) (v_aside : Nat → Int32) (v_undone : Nat → Int32) (v_slots : Nat → Int32) (v_isKept : Nat → Int32) (v_undos : Int32) (v_seenPrefix : Nat → Int32) (v_seenLast : Nat → Int32) (v_seen : Int32) (v_previous : Int32) (v_gained : Nat → Int32) (v_gains : Int32) (v_decoded : Nat → Int32) (v_decodes : Int32) (v_readAt : Int32) (v_start : Int32) (v_kind : Int32) (v_word : Int64) (v_letters : Int32) (v_number : Int32) (v_fine : Int32) (v_text : Nat → Int32) (v_texted : Int32) (z : Int32) (hJ : J_X8_thrown v_thrown = some z) : Met l yX8_thrown wsX8_thrown ({ frames := 0, cells := 0, slots := 0, locals := 0 }) (va_Pc [.ref (a 0)] (ROp dC dI (MWc a kI kB kZ v_tape v_taped v_errorAt v_thrown v_world v_aside v_undone v_slots v_isKept v_undos v_seenPrefix v_seenLast v_seen v_previous v_gained v_gains v_decoded v_decodes v_readAt v_start v_kind v_word v_letters v_number v_fine v_text v_texted) [(kI, .int), (kB, .byte), (kZ, .boolean)])) (roQi z) 0 0 (fun _ => False) := by
  refine ro_start (cc := cX8_thrown) (maxL := 1) (ret := (some .int)) (by decide) rfl (Nat.le_of_ble_eq_true rfl) ?_
  intro p e s m args below meth c hx hb hr hml hown hts hlocks hNW hK H locs ls hP hS hl
  have hown : s.vm.findClass RX8 = some m.cls := hown
  have hl : lv_has ls 1 [(0, .ref (a 0))] := hl
  unfold J_X8_thrown at hJ
  refine lv_aload_n hx hb dX8_thrown_0 rfl (lv_at hl 0 rfl) ?_
  refine va_get (D := (dC, dI)) (ci := 8) (v := .int v_thrown) (C := RX8) (T := TX8) (N := 27) hx hb hts (fun _ h => List.mem_cons_of_mem _ (List.mem_append_right _ h)) hown hK hP 0 rfl rfl 3 (by decide) (hts _ (List.mem_of_getElem? (i := 1) rfl)) (fun _ h9 => h9) rfl dX8_thrown_1 ?_
  exact ro_iret hx hb hr hlocks hS hJ dX8_thrown_4
theorem qX8_in : (yX8_in.cls = RX8) ∧ yX8_in.cls ≠ "java/lang/invoke/MethodHandle" ∧ yX8_in.cls ≠ "java/lang/invoke/VarHandle" ∧ (parseMethodDescriptor yX8_in.desc).map (fun d => d.parameters.length) = some 3 := by decide +kernel
set_option maxHeartbeats 4000000 in
set_option maxRecDepth 100000 in
theorem c_X8_in (l : Launch) (dC : Nat → ClassId) (dI : Nat → Nat → Nat) (p0 : Int32) (p1 : Int32) (p2 : Int32) (z : Int32) (hJ : J_X8_in p0 p1 p2 = some z) : Met l yX8_in wsX8_in ({ frames := 0, cells := 0, slots := 0, locals := 0 }) (va_Pc [.int p0, .int p1, .int p2] (ROp dC dI ([]) [])) (roQi z) 0 0 (fun _ => False) := by
  refine ro_start (cc := cX8_in) (maxL := 3) (ret := (some .boolean)) (by decide) rfl (Nat.le_of_ble_eq_true rfl) ?_
  intro p e s m args below meth c hx hb hr hml hown hts hlocks hNW hK H locs ls hP hS hl
  have hown : s.vm.findClass RX8 = some m.cls := hown
  have hl : lv_has ls 3 [(0, .int p0), (1, .int p1), (2, .int p2)] := hl
  unfold J_X8_in at hJ
  refine lv_iload_n hx hb dX8_in_0 rfl (lv_at hl 0 rfl) ?_
  refine lv_iload_n hx hb dX8_in_1 rfl (lv_at hl 1 rfl) ?_
  refine lv_icmp_lt (tgt := 14) hx hb dX8_in_2 (by decide) (fun c1 => ?_) (fun c1 => ?_)
  · have hJ := ite_t c1 hJ
    refine lv_iconst (v := 0) hx hb dX8_in_14 (by decide) ?_
    exact ro_zret hx hb hr hlocks rfl hS hJ dX8_in_15
  · have hJ := ite_f c1 hJ
    refine lv_iload_n hx hb dX8_in_5 rfl (lv_at hl 0 rfl) ?_
    refine lv_iload_n hx hb dX8_in_6 rfl (lv_at hl 2 rfl) ?_
    refine lv_icmp_gt (tgt := 14) hx hb dX8_in_7 (by decide) (fun c2 => ?_) (fun c2 => ?_)
    · have hJ := ite_t c2 hJ
      refine lv_iconst (v := 0) hx hb dX8_in_14 (by decide) ?_
      exact ro_zret hx hb hr hlocks rfl hS hJ dX8_in_15
    · have hJ := ite_f c2 hJ
      refine lv_iconst (v := 1) hx hb dX8_in_10 (by decide) ?_
      refine lv_goto (tgt := 15) hx hb dX8_in_11 (by decide) ?_
      exact ro_zret hx hb hr hlocks rfl hS hJ dX8_in_15
theorem qX8_more : (yX8_more.cls = RX8) ∧ yX8_more.cls ≠ "java/lang/invoke/MethodHandle" ∧ yX8_more.cls ≠ "java/lang/invoke/VarHandle" ∧ (parseMethodDescriptor yX8_more.desc).map (fun d => d.parameters.length) = some 2 := by decide +kernel
set_option maxHeartbeats 4000000 in
set_option maxRecDepth 100000 in
theorem c_X8_more (l : Launch) (dC : Nat → ClassId) (dI : Nat → Nat → Nat) (p0 : Int32) (p1 : Int32) (z : Int32) (hJ : J_X8_more p0 p1 = some z) : Met l yX8_more wsX8_more ({ frames := 0, cells := 0, slots := 0, locals := 0 }) (va_Pc [.int p0, .int p1] (ROp dC dI ([]) [])) (roQi z) 0 0 (fun _ => False) := by
  refine ro_start (cc := cX8_more) (maxL := 2) (ret := (some .int)) (by decide) rfl (Nat.le_of_ble_eq_true rfl) ?_
  intro p e s m args below meth c hx hb hr hml hown hts hlocks hNW hK H locs ls hP hS hl
  have hown : s.vm.findClass RX8 = some m.cls := hown
  have hl : lv_has ls 2 [(0, .int p0), (1, .int p1)] := hl
  unfold J_X8_more at hJ
  refine lv_iload_n hx hb dX8_more_0 rfl (lv_at hl 0 rfl) ?_
  refine lv_iload_n hx hb dX8_more_1 rfl (lv_at hl 1 rfl) ?_
  refine lv_icmp_le (tgt := 9) hx hb dX8_more_2 (by decide) (fun c1 => ?_) (fun c1 => ?_)
  · have hJ := ite_t c1 hJ
    refine lv_iload_n hx hb dX8_more_9 rfl (lv_at hl 1 rfl) ?_
    exact ro_iret hx hb hr hlocks hS hJ dX8_more_10
  · have hJ := ite_f c1 hJ
    refine lv_iload_n hx hb dX8_more_5 rfl (lv_at hl 0 rfl) ?_
    refine lv_goto (tgt := 10) hx hb dX8_more_6 (by decide) ?_
    exact ro_iret hx hb hr hlocks hS hJ dX8_more_10
theorem qX8_throwing : (yX8_throwing.cls = RX8) ∧ yX8_throwing.cls ≠ "java/lang/invoke/MethodHandle" ∧ yX8_throwing.cls ≠ "java/lang/invoke/VarHandle" ∧ (parseMethodDescriptor yX8_throwing.desc).map (fun d => d.parameters.length) = some 1 := by decide +kernel
set_option maxHeartbeats 4000000 in
set_option maxRecDepth 100000 in
theorem c_X8_throwing (l : Launch) (dC : Nat → ClassId) (dI : Nat → Nat → Nat) (kI kB kZ : ClassId) (a : Nat → Nat) (v_tape : Nat → Int32) (v_taped : Int32) (v_errorAt : Int32) (v_thrown : Int32) (v_world : Nat → Int32) (v_aside : Nat → Int32) (v_undone : Nat → Int32) (v_slots : Nat → Int32) (v_isKept : Nat → Int32) (v_undos : Int32) (v_seenPrefix : Nat → Int32) (v_seenLast : Nat → Int32) (v_seen : Int32) (v_previous : Int32) (v_gained : Nat → Int32) (v_gains : Int32) (v_decoded : Nat → Int32) (v_decodes : Int32) (v_readAt : Int32) (v_start : Int32) (v_kind : Int32) (v_word : Int64) (v_letters : Int32) (v_number : Int32) (v_fine : Int32) (v_text : Nat → Int32) (v_texted : Int32) (p0 : Int32) (sz : Nat) (z : Int32 × Int32) (hJ : J_X8_throwing v_thrown p0 = some z) : Met l yX8_throwing wsX8_throwing ({ frames := 0, cells := 0, slots := 0, locals := 0 }) (va_Pc [.ref (a 0), .int p0] (RWp dC dI sz (MWc a kI kB kZ v_tape v_taped v_errorAt v_thrown v_world v_aside v_undone v_slots v_isKept v_undos v_seenPrefix v_seenLast v_seen v_previous v_gained v_gains v_decoded v_decodes v_readAt v_start v_kind v_word v_letters v_number v_fine v_text v_texted) [(kI, .int), (kB, .byte), (kZ, .boolean)])) (rwQi dC dI (va_A (MWc a kI kB kZ v_tape v_taped v_errorAt v_thrown v_world v_aside v_undone v_slots v_isKept v_undos v_seenPrefix v_seenLast v_seen v_previous v_gained v_gains v_decoded v_decodes v_readAt v_start v_kind v_word v_letters v_number v_fine v_text v_texted) sz) (MWc a kI kB kZ v_tape v_taped v_errorAt z.2 v_world v_aside v_undone v_slots v_isKept v_undos v_seenPrefix v_seenLast v_seen v_previous v_gained v_gains v_decoded v_decodes v_readAt v_start v_kind v_word v_letters v_number v_fine v_text v_texted) z.1) 0 0 (va_A (MWc a kI kB kZ v_tape v_taped v_errorAt v_thrown v_world v_aside v_undone v_slots v_isKept v_undos v_seenPrefix v_seenLast v_seen v_previous v_gained v_gains v_decoded v_decodes v_readAt v_start v_kind v_word v_letters v_number v_fine v_text v_texted) sz) := by
  refine rw_start (Qc := fun A => rwQi dC dI A (MWc a kI kB kZ v_tape v_taped v_errorAt z.2 v_world v_aside v_undone v_slots v_isKept v_undos v_seenPrefix v_seenLast v_seen v_previous v_gained v_gains v_decoded v_decodes v_readAt v_start v_kind v_word v_letters v_number v_fine v_text v_texted) z.1) (cc := cX8_throwing) (maxL := 2) (ret := (some .int)) (by decide) rfl (Nat.le_of_ble_eq_true rfl) ?_
  intro p e s m args below meth c hx hb hr hml hown hts hlocks hNW hK A hA H locs ls hP hD hS hl
  have hown : s.vm.findClass RX8 = some m.cls := hown
  have hl : lv_has ls 2 [(0, .ref (a 0)), (1, .int p0)] := hl
  unfold J_X8_throwing at hJ
  refine lv_aload_n hx hb dX8_throwing_0 rfl (lv_at hl 0 rfl) ?_
  refine lv_iload_n hx hb dX8_throwing_1 rfl (lv_at hl 1 rfl) ?_
  refine va_put (D := (dC, dI)) (ci := 8) (v := .int p0) (ty := .int) (C := RX8) (T := TX8) (N := 27) hx hb hts (fun _ h => List.mem_cons_of_mem _ (List.mem_append_right _ h)) tyX8 tyX8_ok nmX8 hown hK hP hD hS 0 rfl rfl 3 (by decide) (hts _ (List.mem_of_getElem? (i := 1) rfl)) (fun _ h9 => h9) rfl (by decide +kernel) rfl rfl (Nat.le_of_ble_eq_true rfl) dX8_throwing_2 (fun H locs hP hD hS => ?_)
  have hP : va_P (dC, dI) vwCl (MWc a kI kB kZ v_tape v_taped v_errorAt p0 v_world v_aside v_undone v_slots v_isKept v_undos v_seenPrefix v_seenLast v_seen v_previous v_gained v_gains v_decoded v_decodes v_readAt v_start v_kind v_word v_letters v_number v_fine v_text v_texted) H := hP
  have hD : va_D A (MWc a kI kB kZ v_tape v_taped v_errorAt p0 v_world v_aside v_undone v_slots v_isKept v_undos v_seenPrefix v_seenLast v_seen v_previous v_gained v_gains v_decoded v_decodes v_readAt v_start v_kind v_word v_letters v_number v_fine v_text v_texted) := hD
  refine lv_iconst (v := 0) hx hb dX8_throwing_5 (by decide) ?_
  obtain rfl := Option.some.inj hJ
  exact rw_iret hx hb hr hlocks rfl hP hD hS dX8_throwing_6
theorem qX8_told : (yX8_told.cls = RX8) ∧ yX8_told.cls ≠ "java/lang/invoke/MethodHandle" ∧ yX8_told.cls ≠ "java/lang/invoke/VarHandle" ∧ (parseMethodDescriptor yX8_told.desc).map (fun d => d.parameters.length) = some 1 := by decide +kernel
set_option maxHeartbeats 4000000 in
set_option maxRecDepth 100000 in
theorem c_X8_told (l : Launch) (dC : Nat → ClassId) (dI : Nat → Nat → Nat) (kI kB kZ : ClassId) (a : Nat → Nat) (v_tape : Nat → Int32) (v_taped : Int32) (v_errorAt : Int32) (v_thrown : Int32) (v_world : Nat → Int32) (v_aside : Nat → Int32) (v_undone : Nat → Int32) (v_slots : Nat → Int32) (v_isKept : Nat → Int32) (v_undos : Int32) (v_seenPrefix : Nat → Int32) (v_seenLast : Nat → Int32) (v_seen : Int32) (v_previous : Int32) (v_gained : Nat → Int32) (v_gains : Int32) (v_decoded : Nat → Int32) (v_decodes : Int32) (v_readAt : Int32) (v_start : Int32) (v_kind : Int32) (v_word : Int64) (v_letters : Int32) (v_number : Int32) (v_fine : Int32) (v_text : Nat → Int32) (v_texted : Int32) (p0 : Int32) (sz : Nat) (z : Int32 × Int32) (hJ : J_X8_told v_thrown p0 = some z) : Met l yX8_told wsX8_told ({ frames := 0, cells := 0, slots := 0, locals := 0 }) (va_Pc [.ref (a 0), .int p0] (RWp dC dI sz (MWc a kI kB kZ v_tape v_taped v_errorAt v_thrown v_world v_aside v_undone v_slots v_isKept v_undos v_seenPrefix v_seenLast v_seen v_previous v_gained v_gains v_decoded v_decodes v_readAt v_start v_kind v_word v_letters v_number v_fine v_text v_texted) [(kI, .int), (kB, .byte), (kZ, .boolean)])) (rwQi dC dI (va_A (MWc a kI kB kZ v_tape v_taped v_errorAt v_thrown v_world v_aside v_undone v_slots v_isKept v_undos v_seenPrefix v_seenLast v_seen v_previous v_gained v_gains v_decoded v_decodes v_readAt v_start v_kind v_word v_letters v_number v_fine v_text v_texted) sz) (MWc a kI kB kZ v_tape v_taped v_errorAt z.2 v_world v_aside v_undone v_slots v_isKept v_undos v_seenPrefix v_seenLast v_seen v_previous v_gained v_gains v_decoded v_decodes v_readAt v_start v_kind v_word v_letters v_number v_fine v_text v_texted) z.1) 0 0 (va_A (MWc a kI kB kZ v_tape v_taped v_errorAt v_thrown v_world v_aside v_undone v_slots v_isKept v_undos v_seenPrefix v_seenLast v_seen v_previous v_gained v_gains v_decoded v_decodes v_readAt v_start v_kind v_word v_letters v_number v_fine v_text v_texted) sz) := by
  refine rw_start (Qc := fun A => rwQi dC dI A (MWc a kI kB kZ v_tape v_taped v_errorAt z.2 v_world v_aside v_undone v_slots v_isKept v_undos v_seenPrefix v_seenLast v_seen v_previous v_gained v_gains v_decoded v_decodes v_readAt v_start v_kind v_word v_letters v_number v_fine v_text v_texted) z.1) (cc := cX8_told) (maxL := 2) (ret := (some .int)) (by decide) rfl (Nat.le_of_ble_eq_true rfl) ?_
  intro p e s m args below meth c hx hb hr hml hown hts hlocks hNW hK A hA H locs ls hP hD hS hl
  have hown : s.vm.findClass RX8 = some m.cls := hown
  have hl : lv_has ls 2 [(0, .ref (a 0)), (1, .int p0)] := hl
  unfold J_X8_told at hJ
  refine lv_aload_n hx hb dX8_told_0 rfl (lv_at hl 0 rfl) ?_
  refine lv_iconst (v := 0) hx hb dX8_told_1 (by decide) ?_
  refine va_put (D := (dC, dI)) (ci := 8) (v := .int (0 : Int32)) (ty := .int) (C := RX8) (T := TX8) (N := 27) hx hb hts (fun _ h => List.mem_cons_of_mem _ (List.mem_append_right _ h)) tyX8 tyX8_ok nmX8 hown hK hP hD hS 0 rfl rfl 3 (by decide) (hts _ (List.mem_of_getElem? (i := 1) rfl)) (fun _ h9 => h9) rfl (by decide +kernel) rfl rfl (Nat.le_of_ble_eq_true rfl) dX8_told_2 (fun H locs hP hD hS => ?_)
  have hP : va_P (dC, dI) vwCl (MWc a kI kB kZ v_tape v_taped v_errorAt (0 : Int32) v_world v_aside v_undone v_slots v_isKept v_undos v_seenPrefix v_seenLast v_seen v_previous v_gained v_gains v_decoded v_decodes v_readAt v_start v_kind v_word v_letters v_number v_fine v_text v_texted) H := hP
  have hD : va_D A (MWc a kI kB kZ v_tape v_taped v_errorAt (0 : Int32) v_world v_aside v_undone v_slots v_isKept v_undos v_seenPrefix v_seenLast v_seen v_previous v_gained v_gains v_decoded v_decodes v_readAt v_start v_kind v_word v_letters v_number v_fine v_text v_texted) := hD
  refine lv_iload_n hx hb dX8_told_5 rfl (lv_at hl 1 rfl) ?_
  obtain rfl := Option.some.inj hJ
  exact rw_iret hx hb hr hlocks rfl hP hD hS dX8_told_6
theorem qX8_toldIf : (yX8_toldIf.cls = RX8) ∧ yX8_toldIf.cls ≠ "java/lang/invoke/MethodHandle" ∧ yX8_toldIf.cls ≠ "java/lang/invoke/VarHandle" ∧ (parseMethodDescriptor yX8_toldIf.desc).map (fun d => d.parameters.length) = some 1 := by decide +kernel
set_option maxHeartbeats 4000000 in
set_option maxRecDepth 100000 in
theorem c_X8_toldIf (l : Launch) (dC : Nat → ClassId) (dI : Nat → Nat → Nat) (kI kB kZ : ClassId) (a : Nat → Nat) (v_tape : Nat → Int32) (v_taped : Int32) (v_errorAt : Int32) (v_thrown : Int32) (v_world : Nat → Int32) (v_aside : Nat → Int32) (v_undone : Nat → Int32) (v_slots : Nat → Int32) (v_isKept : Nat → Int32) (v_undos : Int32) (v_seenPrefix : Nat → Int32) (v_seenLast : Nat → Int32) (v_seen : Int32) (v_previous : Int32) (v_gained : Nat → Int32) (v_gains : Int32) (v_decoded : Nat → Int32) (v_decodes : Int32) (v_readAt : Int32) (v_start : Int32) (v_kind : Int32) (v_word : Int64) (v_letters : Int32) (v_number : Int32) (v_fine : Int32) (v_text : Nat → Int32) (v_texted : Int32) (p0 : Int32) (sz : Nat) (z : Int32 × Int32) (hJ : J_X8_toldIf v_thrown p0 = some z) : Met l yX8_toldIf wsX8_toldIf ({ frames := 0, cells := 0, slots := 0, locals := 0 }) (va_Pc [.ref (a 0), .int p0] (RWp dC dI sz (MWc a kI kB kZ v_tape v_taped v_errorAt v_thrown v_world v_aside v_undone v_slots v_isKept v_undos v_seenPrefix v_seenLast v_seen v_previous v_gained v_gains v_decoded v_decodes v_readAt v_start v_kind v_word v_letters v_number v_fine v_text v_texted) [(kI, .int), (kB, .byte), (kZ, .boolean)])) (rwQi dC dI (va_A (MWc a kI kB kZ v_tape v_taped v_errorAt v_thrown v_world v_aside v_undone v_slots v_isKept v_undos v_seenPrefix v_seenLast v_seen v_previous v_gained v_gains v_decoded v_decodes v_readAt v_start v_kind v_word v_letters v_number v_fine v_text v_texted) sz) (MWc a kI kB kZ v_tape v_taped v_errorAt z.2 v_world v_aside v_undone v_slots v_isKept v_undos v_seenPrefix v_seenLast v_seen v_previous v_gained v_gains v_decoded v_decodes v_readAt v_start v_kind v_word v_letters v_number v_fine v_text v_texted) z.1) 0 0 (va_A (MWc a kI kB kZ v_tape v_taped v_errorAt v_thrown v_world v_aside v_undone v_slots v_isKept v_undos v_seenPrefix v_seenLast v_seen v_previous v_gained v_gains v_decoded v_decodes v_readAt v_start v_kind v_word v_letters v_number v_fine v_text v_texted) sz) := by
  refine rw_start (Qc := fun A => rwQi dC dI A (MWc a kI kB kZ v_tape v_taped v_errorAt z.2 v_world v_aside v_undone v_slots v_isKept v_undos v_seenPrefix v_seenLast v_seen v_previous v_gained v_gains v_decoded v_decodes v_readAt v_start v_kind v_word v_letters v_number v_fine v_text v_texted) z.1) (cc := cX8_toldIf) (maxL := 2) (ret := (some .boolean)) (by decide) rfl (Nat.le_of_ble_eq_true rfl) ?_
  intro p e s m args below meth c hx hb hr hml hown hts hlocks hNW hK A hA H locs ls hP hD hS hl
  have hown : s.vm.findClass RX8 = some m.cls := hown
  have hl : lv_has ls 2 [(0, .ref (a 0)), (1, .int p0)] := hl
  unfold J_X8_toldIf at hJ
  refine lv_aload_n hx hb dX8_toldIf_0 rfl (lv_at hl 0 rfl) ?_
  refine lv_iconst (v := 0) hx hb dX8_toldIf_1 (by decide) ?_
  refine va_put (D := (dC, dI)) (ci := 8) (v := .int (0 : Int32)) (ty := .int) (C := RX8) (T := TX8) (N := 27) hx hb hts (fun _ h => List.mem_cons_of_mem _ (List.mem_append_right _ h)) tyX8 tyX8_ok nmX8 hown hK hP hD hS 0 rfl rfl 3 (by decide) (hts _ (List.mem_of_getElem? (i := 1) rfl)) (fun _ h9 => h9) rfl (by decide +kernel) rfl rfl (Nat.le_of_ble_eq_true rfl) dX8_toldIf_2 (fun H locs hP hD hS => ?_)
  have hP : va_P (dC, dI) vwCl (MWc a kI kB kZ v_tape v_taped v_errorAt (0 : Int32) v_world v_aside v_undone v_slots v_isKept v_undos v_seenPrefix v_seenLast v_seen v_previous v_gained v_gains v_decoded v_decodes v_readAt v_start v_kind v_word v_letters v_number v_fine v_text v_texted) H := hP
  have hD : va_D A (MWc a kI kB kZ v_tape v_taped v_errorAt (0 : Int32) v_world v_aside v_undone v_slots v_isKept v_undos v_seenPrefix v_seenLast v_seen v_previous v_gained v_gains v_decoded v_decodes v_readAt v_start v_kind v_word v_letters v_number v_fine v_text v_texted) := hD
  refine lv_iload_n hx hb dX8_toldIf_5 rfl (lv_at hl 1 rfl) ?_
  obtain ⟨h1, hJ⟩ := ite_some hJ
  obtain rfl := Option.some.inj hJ
  exact rw_zret hx hb hr hlocks (nar_z h1) rfl hP hD hS dX8_toldIf_6
theorem qX8_keepsAside : (yX8_keepsAside.cls = RX8) ∧ yX8_keepsAside.cls ≠ "java/lang/invoke/MethodHandle" ∧ yX8_keepsAside.cls ≠ "java/lang/invoke/VarHandle" ∧ (parseMethodDescriptor yX8_keepsAside.desc).map (fun d => d.parameters.length) = some 0 := by decide +kernel
set_option maxHeartbeats 4000000 in
set_option maxRecDepth 100000 in
theorem c_X8_keepsAside (fu : Nat) (l : Launch) (dC : Nat → ClassId) (dI : Nat → Nat → Nat) (kI kB kZ : ClassId) (a : Nat → Nat) (v_tape : Nat → Int32) (v_taped : Int32) (v_errorAt : Int32) (v_thrown : Int32) (v_world : Nat → Int32) (v_aside : Nat → Int32) (v_undone : Nat → Int32) (v_slots : Nat → Int32) (v_isKept : Nat → Int32) (v_undos : Int32) (v_seenPrefix : Nat → Int32) (v_seenLast : Nat → Int32) (v_seen : Int32) (v_previous : Int32) (v_gained : Nat → Int32) (v_gains : Int32) (v_decoded : Nat → Int32) (v_decodes : Int32) (v_readAt : Int32) (v_start : Int32) (v_kind : Int32) (v_word : Int64) (v_letters : Int32) (v_number : Int32) (v_fine : Int32) (v_text : Nat → Int32) (v_texted : Int32) (sz : Nat) (z : (Nat → Int32)) (hJ : J_X8_keepsAside fu v_world v_aside = some z) : Met l yX8_keepsAside wsX8_keepsAside ({ frames := 0, cells := 0, slots := 0, locals := 0 }) (va_Pc [.ref (a 0)] (RWp dC dI sz (MWc a kI kB kZ v_tape v_taped v_errorAt v_thrown v_world v_aside v_undone v_slots v_isKept v_undos v_seenPrefix v_seenLast v_seen v_previous v_gained v_gains v_decoded v_decodes v_readAt v_start v_kind v_word v_letters v_number v_fine v_text v_texted) [(kI, .int), (kB, .byte), (kZ, .boolean)])) (rwQv dC dI (va_A (MWc a kI kB kZ v_tape v_taped v_errorAt v_thrown v_world v_aside v_undone v_slots v_isKept v_undos v_seenPrefix v_seenLast v_seen v_previous v_gained v_gains v_decoded v_decodes v_readAt v_start v_kind v_word v_letters v_number v_fine v_text v_texted) sz) (MWc a kI kB kZ v_tape v_taped v_errorAt v_thrown v_world z v_undone v_slots v_isKept v_undos v_seenPrefix v_seenLast v_seen v_previous v_gained v_gains v_decoded v_decodes v_readAt v_start v_kind v_word v_letters v_number v_fine v_text v_texted)) 0 0 (va_A (MWc a kI kB kZ v_tape v_taped v_errorAt v_thrown v_world v_aside v_undone v_slots v_isKept v_undos v_seenPrefix v_seenLast v_seen v_previous v_gained v_gains v_decoded v_decodes v_readAt v_start v_kind v_word v_letters v_number v_fine v_text v_texted) sz) := by
  refine rw_start (Qc := fun A => rwQv dC dI A (MWc a kI kB kZ v_tape v_taped v_errorAt v_thrown v_world z v_undone v_slots v_isKept v_undos v_seenPrefix v_seenLast v_seen v_previous v_gained v_gains v_decoded v_decodes v_readAt v_start v_kind v_word v_letters v_number v_fine v_text v_texted)) (cc := cX8_keepsAside) (maxL := 2) (ret := none) (by decide) rfl (Nat.le_of_ble_eq_true rfl) ?_
  intro p e s m args below meth c hx hb hr hml hown hts hlocks hNW hK A hA H locs ls hP hD hS hl
  have hown : s.vm.findClass RX8 = some m.cls := hown
  have hl : lv_has ls 2 [(0, .ref (a 0))] := hl
  unfold J_X8_keepsAside at hJ
  have L2 : ∀ (n : Nat) (v_aside : Nat → Int32) (y1 : Int32) (H : Heap) (locs : List Loc) (ls : Array Slot), va_P (dC, dI) vwCl (MWc a kI kB kZ v_tape v_taped v_errorAt v_thrown v_world v_aside v_undone v_slots v_isKept v_undos v_seenPrefix v_seenLast v_seen v_previous v_gained v_gains v_decoded v_decodes v_readAt v_start v_kind v_word v_letters v_number v_fine v_text v_texted) H → va_D A (MWc a kI kB kZ v_tape v_taped v_errorAt v_thrown v_world v_aside v_undone v_slots v_isKept v_undos v_seenPrefix v_seenLast v_seen v_previous v_gained v_gains v_decoded v_decodes v_readAt v_start v_kind v_word v_letters v_number v_fine v_text v_texted) → va_S A s.heap H locs → lv_has ls 2 [(0, .ref (a 0)), (1, .int y1)] → J_X8_keepsAside_b2 fu v_world n v_aside y1 = some z → W p l e ({ frames := 0, cells := 0, slots := 0, locals := 0 }) s m args below meth c H locs 0 0 (MQ below (rwQv dC dI A (MWc a kI kB kZ v_tape v_taped v_errorAt v_thrown v_world z v_undone v_slots v_isKept v_undos v_seenPrefix v_seenLast v_seen v_previous v_gained v_gains v_decoded v_decodes v_readAt v_start v_kind v_word v_letters v_number v_fine v_text v_texted)) args s 0 0 (A)) (F0 m 2 ls []) := by
    intro n
    induction n with
    | zero =>
      intro v_aside y1 H locs ls hP hD hS hl hJ
      rw [J_X8_keepsAside_b2] at hJ; cases hJ
    | succ n ih =>
      intro v_aside y1 H locs ls hP hD hS hl hJ
      rw [J_X8_keepsAside_b2] at hJ
      refine lv_iload_n hx hb dX8_keepsAside_2 rfl (lv_at hl 1 rfl) ?_
      refine lv_sipush (v := 1726) hx hb dX8_keepsAside_3 (by decide) ?_
      refine lv_icmp_ge (tgt := 27) hx hb dX8_keepsAside_6 (by decide) (fun c1 => ?_) (fun c1 => ?_)
      · have hJ := ite_t c1 hJ
        obtain rfl := Option.some.inj hJ
        exact rw_vret hx hb hr hlocks hP hD hS dX8_keepsAside_27
      · have hJ := ite_f c1 hJ
        refine lv_aload_n hx hb dX8_keepsAside_9 rfl (lv_at hl 0 rfl) ?_
        refine va_get (D := (dC, dI)) (ci := 8) (v := .ref (a 3)) (C := RX8) (T := TX8) (N := 27) hx hb hts (fun _ h => List.mem_cons_of_mem _ (List.mem_append_right _ h)) hown hK hP 0 rfl rfl 5 (by decide) (hts _ (List.mem_of_getElem? (i := 1) rfl)) (fun _ h9 => h9) rfl dX8_keepsAside_10 ?_
        refine lv_iload_n hx hb dX8_keepsAside_13 rfl (lv_at hl 1 rfl) ?_
        refine lv_aload_n hx hb dX8_keepsAside_14 rfl (lv_at hl 0 rfl) ?_
        refine va_get (D := (dC, dI)) (ci := 8) (v := .ref (a 2)) (C := RX8) (T := TX8) (N := 27) hx hb hts (fun _ h => List.mem_cons_of_mem _ (List.mem_append_right _ h)) hown hK hP 0 rfl rfl 4 (by decide) (hts _ (List.mem_of_getElem? (i := 2) rfl)) (fun _ h9 => h9) rfl dX8_keepsAside_15 ?_
        refine lv_iload_n hx hb dX8_keepsAside_18 rfl (lv_at hl 1 rfl) ?_
        obtain ⟨z2, e3, hJ⟩ := bnd hJ
        refine rd_int (n := 1726) (f := v_world) hx hb hK hP 2 0 rfl rfl e3 dX8_keepsAside_19 ?_
        obtain ⟨g4, e5, hJ⟩ := bnd hJ
        refine wr_int (n := 1726) (f := v_aside) (x := z2) hx hb hK hP hD hS 3 0 rfl rfl e5 dX8_keepsAside_20 (fun H locs hP hD hS => ?_)
        have hP : va_P (dC, dI) vwCl (MWc a kI kB kZ v_tape v_taped v_errorAt v_thrown v_world g4 v_undone v_slots v_isKept v_undos v_seenPrefix v_seenLast v_seen v_previous v_gained v_gains v_decoded v_decodes v_readAt v_start v_kind v_word v_letters v_number v_fine v_text v_texted) H := hP
        have hD : va_D A (MWc a kI kB kZ v_tape v_taped v_errorAt v_thrown v_world g4 v_undone v_slots v_isKept v_undos v_seenPrefix v_seenLast v_seen v_previous v_gained v_gains v_decoded v_decodes v_readAt v_start v_kind v_word v_letters v_number v_fine v_text v_texted) := hD
        refine lv_iinc (v := y1 + 1) (lv' := [(1, .int (y1 + 1)), (0, .ref (a 0))]) hx hb dX8_keepsAside_21 hl (k := 1) rfl rfl (by decide) rfl (fun ls hl => ?_)
        refine lv_goto (tgt := 2) hx hb dX8_keepsAside_24 (by decide) ?_
        exact ih g4 (y1 + 1) H locs ls hP hD hS (lv_sub hl [1, 0] rfl) hJ
  refine lv_iconst (v := 0) hx hb dX8_keepsAside_0 (by decide) ?_
  refine lv_istore_n (lv' := [(1, .int (0 : Int32)), (0, .ref (a 0))]) hx hb dX8_keepsAside_1 rfl hl (by decide) rfl (fun ls hl => ?_)
  exact L2 fu v_aside (0 : Int32) H locs ls hP hD hS (lv_sub hl [1, 0] rfl) hJ
theorem qX8_takesBack : (yX8_takesBack.cls = RX8) ∧ yX8_takesBack.cls ≠ "java/lang/invoke/MethodHandle" ∧ yX8_takesBack.cls ≠ "java/lang/invoke/VarHandle" ∧ (parseMethodDescriptor yX8_takesBack.desc).map (fun d => d.parameters.length) = some 0 := by decide +kernel
set_option maxHeartbeats 4000000 in
set_option maxRecDepth 100000 in
theorem c_X8_takesBack (fu : Nat) (l : Launch) (dC : Nat → ClassId) (dI : Nat → Nat → Nat) (kI kB kZ : ClassId) (a : Nat → Nat) (v_tape : Nat → Int32) (v_taped : Int32) (v_errorAt : Int32) (v_thrown : Int32) (v_world : Nat → Int32) (v_aside : Nat → Int32) (v_undone : Nat → Int32) (v_slots : Nat → Int32) (v_isKept : Nat → Int32) (v_undos : Int32) (v_seenPrefix : Nat → Int32) (v_seenLast : Nat → Int32) (v_seen : Int32) (v_previous : Int32) (v_gained : Nat → Int32) (v_gains : Int32) (v_decoded : Nat → Int32) (v_decodes : Int32) (v_readAt : Int32) (v_start : Int32) (v_kind : Int32) (v_word : Int64) (v_letters : Int32) (v_number : Int32) (v_fine : Int32) (v_text : Nat → Int32) (v_texted : Int32) (sz : Nat) (z : (Nat → Int32)) (hJ : J_X8_takesBack fu v_world v_aside = some z) : Met l yX8_takesBack wsX8_takesBack ({ frames := 0, cells := 0, slots := 0, locals := 0 }) (va_Pc [.ref (a 0)] (RWp dC dI sz (MWc a kI kB kZ v_tape v_taped v_errorAt v_thrown v_world v_aside v_undone v_slots v_isKept v_undos v_seenPrefix v_seenLast v_seen v_previous v_gained v_gains v_decoded v_decodes v_readAt v_start v_kind v_word v_letters v_number v_fine v_text v_texted) [(kI, .int), (kB, .byte), (kZ, .boolean)])) (rwQv dC dI (va_A (MWc a kI kB kZ v_tape v_taped v_errorAt v_thrown v_world v_aside v_undone v_slots v_isKept v_undos v_seenPrefix v_seenLast v_seen v_previous v_gained v_gains v_decoded v_decodes v_readAt v_start v_kind v_word v_letters v_number v_fine v_text v_texted) sz) (MWc a kI kB kZ v_tape v_taped v_errorAt v_thrown z v_aside v_undone v_slots v_isKept v_undos v_seenPrefix v_seenLast v_seen v_previous v_gained v_gains v_decoded v_decodes v_readAt v_start v_kind v_word v_letters v_number v_fine v_text v_texted)) 0 0 (va_A (MWc a kI kB kZ v_tape v_taped v_errorAt v_thrown v_world v_aside v_undone v_slots v_isKept v_undos v_seenPrefix v_seenLast v_seen v_previous v_gained v_gains v_decoded v_decodes v_readAt v_start v_kind v_word v_letters v_number v_fine v_text v_texted) sz) := by
  refine rw_start (Qc := fun A => rwQv dC dI A (MWc a kI kB kZ v_tape v_taped v_errorAt v_thrown z v_aside v_undone v_slots v_isKept v_undos v_seenPrefix v_seenLast v_seen v_previous v_gained v_gains v_decoded v_decodes v_readAt v_start v_kind v_word v_letters v_number v_fine v_text v_texted)) (cc := cX8_takesBack) (maxL := 2) (ret := none) (by decide) rfl (Nat.le_of_ble_eq_true rfl) ?_
  intro p e s m args below meth c hx hb hr hml hown hts hlocks hNW hK A hA H locs ls hP hD hS hl
  have hown : s.vm.findClass RX8 = some m.cls := hown
  have hl : lv_has ls 2 [(0, .ref (a 0))] := hl
  unfold J_X8_takesBack at hJ
  have L2 : ∀ (n : Nat) (v_world : Nat → Int32) (y1 : Int32) (H : Heap) (locs : List Loc) (ls : Array Slot), va_P (dC, dI) vwCl (MWc a kI kB kZ v_tape v_taped v_errorAt v_thrown v_world v_aside v_undone v_slots v_isKept v_undos v_seenPrefix v_seenLast v_seen v_previous v_gained v_gains v_decoded v_decodes v_readAt v_start v_kind v_word v_letters v_number v_fine v_text v_texted) H → va_D A (MWc a kI kB kZ v_tape v_taped v_errorAt v_thrown v_world v_aside v_undone v_slots v_isKept v_undos v_seenPrefix v_seenLast v_seen v_previous v_gained v_gains v_decoded v_decodes v_readAt v_start v_kind v_word v_letters v_number v_fine v_text v_texted) → va_S A s.heap H locs → lv_has ls 2 [(0, .ref (a 0)), (1, .int y1)] → J_X8_takesBack_b2 fu v_aside n v_world y1 = some z → W p l e ({ frames := 0, cells := 0, slots := 0, locals := 0 }) s m args below meth c H locs 0 0 (MQ below (rwQv dC dI A (MWc a kI kB kZ v_tape v_taped v_errorAt v_thrown z v_aside v_undone v_slots v_isKept v_undos v_seenPrefix v_seenLast v_seen v_previous v_gained v_gains v_decoded v_decodes v_readAt v_start v_kind v_word v_letters v_number v_fine v_text v_texted)) args s 0 0 (A)) (F0 m 2 ls []) := by
    intro n
    induction n with
    | zero =>
      intro v_world y1 H locs ls hP hD hS hl hJ
      rw [J_X8_takesBack_b2] at hJ; cases hJ
    | succ n ih =>
      intro v_world y1 H locs ls hP hD hS hl hJ
      rw [J_X8_takesBack_b2] at hJ
      refine lv_iload_n hx hb dX8_takesBack_2 rfl (lv_at hl 1 rfl) ?_
      refine lv_sipush (v := 1726) hx hb dX8_takesBack_3 (by decide) ?_
      refine lv_icmp_ge (tgt := 27) hx hb dX8_takesBack_6 (by decide) (fun c1 => ?_) (fun c1 => ?_)
      · have hJ := ite_t c1 hJ
        obtain rfl := Option.some.inj hJ
        exact rw_vret hx hb hr hlocks hP hD hS dX8_takesBack_27
      · have hJ := ite_f c1 hJ
        refine lv_aload_n hx hb dX8_takesBack_9 rfl (lv_at hl 0 rfl) ?_
        refine va_get (D := (dC, dI)) (ci := 8) (v := .ref (a 2)) (C := RX8) (T := TX8) (N := 27) hx hb hts (fun _ h => List.mem_cons_of_mem _ (List.mem_append_right _ h)) hown hK hP 0 rfl rfl 4 (by decide) (hts _ (List.mem_of_getElem? (i := 1) rfl)) (fun _ h9 => h9) rfl dX8_takesBack_10 ?_
        refine lv_iload_n hx hb dX8_takesBack_13 rfl (lv_at hl 1 rfl) ?_
        refine lv_aload_n hx hb dX8_takesBack_14 rfl (lv_at hl 0 rfl) ?_
        refine va_get (D := (dC, dI)) (ci := 8) (v := .ref (a 3)) (C := RX8) (T := TX8) (N := 27) hx hb hts (fun _ h => List.mem_cons_of_mem _ (List.mem_append_right _ h)) hown hK hP 0 rfl rfl 5 (by decide) (hts _ (List.mem_of_getElem? (i := 2) rfl)) (fun _ h9 => h9) rfl dX8_takesBack_15 ?_
        refine lv_iload_n hx hb dX8_takesBack_18 rfl (lv_at hl 1 rfl) ?_
        obtain ⟨z2, e3, hJ⟩ := bnd hJ
        refine rd_int (n := 1726) (f := v_aside) hx hb hK hP 3 0 rfl rfl e3 dX8_takesBack_19 ?_
        obtain ⟨g4, e5, hJ⟩ := bnd hJ
        refine wr_int (n := 1726) (f := v_world) (x := z2) hx hb hK hP hD hS 2 0 rfl rfl e5 dX8_takesBack_20 (fun H locs hP hD hS => ?_)
        have hP : va_P (dC, dI) vwCl (MWc a kI kB kZ v_tape v_taped v_errorAt v_thrown g4 v_aside v_undone v_slots v_isKept v_undos v_seenPrefix v_seenLast v_seen v_previous v_gained v_gains v_decoded v_decodes v_readAt v_start v_kind v_word v_letters v_number v_fine v_text v_texted) H := hP
        have hD : va_D A (MWc a kI kB kZ v_tape v_taped v_errorAt v_thrown g4 v_aside v_undone v_slots v_isKept v_undos v_seenPrefix v_seenLast v_seen v_previous v_gained v_gains v_decoded v_decodes v_readAt v_start v_kind v_word v_letters v_number v_fine v_text v_texted) := hD
        refine lv_iinc (v := y1 + 1) (lv' := [(1, .int (y1 + 1)), (0, .ref (a 0))]) hx hb dX8_takesBack_21 hl (k := 1) rfl rfl (by decide) rfl (fun ls hl => ?_)
        refine lv_goto (tgt := 2) hx hb dX8_takesBack_24 (by decide) ?_
        exact ih g4 (y1 + 1) H locs ls hP hD hS (lv_sub hl [1, 0] rfl) hJ
  refine lv_iconst (v := 0) hx hb dX8_takesBack_0 (by decide) ?_
  refine lv_istore_n (lv' := [(1, .int (0 : Int32)), (0, .ref (a 0))]) hx hb dX8_takesBack_1 rfl hl (by decide) rfl (fun ls hl => ?_)
  exact L2 fu v_world (0 : Int32) H locs ls hP hD hS (lv_sub hl [1, 0] rfl) hJ
theorem qX8_changed : (yX8_changed.cls = RX8) ∧ yX8_changed.cls ≠ "java/lang/invoke/MethodHandle" ∧ yX8_changed.cls ≠ "java/lang/invoke/VarHandle" ∧ (parseMethodDescriptor yX8_changed.desc).map (fun d => d.parameters.length) = some 1 := by decide +kernel
set_option maxHeartbeats 4000000 in
set_option maxRecDepth 100000 in
theorem c_X8_changed (fu : Nat) (l : Launch) (dC : Nat → ClassId) (dI : Nat → Nat → Nat) (kI kB kZ : ClassId) (a : Nat → Nat) (v_tape : Nat → Int32) (v_taped : Int32) (v_errorAt : Int32) (v_thrown : Int32) (v_world : Nat → Int32) (v_aside : Nat → Int32) (v_undone : Nat → Int32) (v_slots : Nat → Int32) (v_isKept : Nat → Int32) (v_undos : Int32) (v_seenPrefix : Nat → Int32) (v_seenLast : Nat → Int32) (v_seen : Int32) (v_previous : Int32) (v_gained : Nat → Int32) (v_gains : Int32) (v_decoded : Nat → Int32) (v_decodes : Int32) (v_readAt : Int32) (v_start : Int32) (v_kind : Int32) (v_word : Int64) (v_letters : Int32) (v_number : Int32) (v_fine : Int32) (v_text : Nat → Int32) (v_texted : Int32) (p0 : Int32) (sz : Nat) (z : Int32 × Int32 × (Nat → Int32) × Int32) (hJ : J_X8_changed fu v_thrown v_aside v_undone v_undos p0 = some z) : Met l yX8_changed wsX8_changed ({ frames := 1, cells := 0, slots := 0, locals := 21 }) (va_Pc [.ref (a 0), .int p0] (RWp dC dI sz (MWc a kI kB kZ v_tape v_taped v_errorAt v_thrown v_world v_aside v_undone v_slots v_isKept v_undos v_seenPrefix v_seenLast v_seen v_previous v_gained v_gains v_decoded v_decodes v_readAt v_start v_kind v_word v_letters v_number v_fine v_text v_texted) [(kI, .int), (kB, .byte), (kZ, .boolean)])) (rwQi dC dI (va_A (MWc a kI kB kZ v_tape v_taped v_errorAt v_thrown v_world v_aside v_undone v_slots v_isKept v_undos v_seenPrefix v_seenLast v_seen v_previous v_gained v_gains v_decoded v_decodes v_readAt v_start v_kind v_word v_letters v_number v_fine v_text v_texted) sz) (MWc a kI kB kZ v_tape v_taped v_errorAt z.2.1 v_world v_aside z.2.2.1 v_slots v_isKept z.2.2.2 v_seenPrefix v_seenLast v_seen v_previous v_gained v_gains v_decoded v_decodes v_readAt v_start v_kind v_word v_letters v_number v_fine v_text v_texted) z.1) 0 0 (va_A (MWc a kI kB kZ v_tape v_taped v_errorAt v_thrown v_world v_aside v_undone v_slots v_isKept v_undos v_seenPrefix v_seenLast v_seen v_previous v_gained v_gains v_decoded v_decodes v_readAt v_start v_kind v_word v_letters v_number v_fine v_text v_texted) sz) := by
  refine rw_start (Qc := fun A => rwQi dC dI A (MWc a kI kB kZ v_tape v_taped v_errorAt z.2.1 v_world v_aside z.2.2.1 v_slots v_isKept z.2.2.2 v_seenPrefix v_seenLast v_seen v_previous v_gained v_gains v_decoded v_decodes v_readAt v_start v_kind v_word v_letters v_number v_fine v_text v_texted) z.1) (cc := cX8_changed) (maxL := 3) (ret := (some .int)) (by decide) rfl (Nat.le_of_ble_eq_true rfl) ?_
  intro p e s m args below meth c hx hb hr hml hown hts hlocks hNW hK A hA H locs ls hP hD hS hl
  have hown : s.vm.findClass RX8 = some m.cls := hown
  have hl : lv_has ls 3 [(0, .ref (a 0)), (1, .int p0)] := hl
  unfold J_X8_changed at hJ
  have L52 : ∀ (n : Nat) (v_thrown : Int32) (v_undone : Nat → Int32) (v_undos : Int32) (y1 : Int32) (y2 : Int32) (H : Heap) (locs : List Loc) (ls : Array Slot), va_P (dC, dI) vwCl (MWc a kI kB kZ v_tape v_taped v_errorAt v_thrown v_world v_aside v_undone v_slots v_isKept v_undos v_seenPrefix v_seenLast v_seen v_previous v_gained v_gains v_decoded v_decodes v_readAt v_start v_kind v_word v_letters v_number v_fine v_text v_texted) H → va_D A (MWc a kI kB kZ v_tape v_taped v_errorAt v_thrown v_world v_aside v_undone v_slots v_isKept v_undos v_seenPrefix v_seenLast v_seen v_previous v_gained v_gains v_decoded v_decodes v_readAt v_start v_kind v_word v_letters v_number v_fine v_text v_texted) → va_S A s.heap H locs → lv_has ls 3 [(0, .ref (a 0)), (1, .int y1), (2, .int y2)] → J_X8_changed_b52 fu v_aside n v_thrown v_undone v_undos y1 y2 = some z → W p l e ({ frames := 1, cells := 0, slots := 0, locals := 21 }) s m args below meth c H locs 0 0 (MQ below (rwQi dC dI A (MWc a kI kB kZ v_tape v_taped v_errorAt z.2.1 v_world v_aside z.2.2.1 v_slots v_isKept z.2.2.2 v_seenPrefix v_seenLast v_seen v_previous v_gained v_gains v_decoded v_decodes v_readAt v_start v_kind v_word v_letters v_number v_fine v_text v_texted) z.1) args s 0 0 (A)) (F0 m 52 ls []) := by
    intro n
    induction n with
    | zero =>
      intro v_thrown v_undone v_undos y1 y2 H locs ls hP hD hS hl hJ
      rw [J_X8_changed_b52] at hJ; cases hJ
    | succ n ih =>
      intro v_thrown v_undone v_undos y1 y2 H locs ls hP hD hS hl hJ
      rw [J_X8_changed_b52] at hJ
      refine lv_iload_n hx hb dX8_changed_52 rfl (lv_at hl 2 rfl) ?_
      refine lv_sipush (v := 1726) hx hb dX8_changed_53 (by decide) ?_
      refine lv_icmp_ge (tgt := 86) hx hb dX8_changed_56 (by decide) (fun c2 => ?_) (fun c2 => ?_)
      · have hJ := ite_t c2 hJ
        refine lv_aload_n hx hb dX8_changed_86 rfl (lv_at hl 0 rfl) ?_
        refine lv_dup hx hb dX8_changed_87 rfl ?_
        refine va_get (D := (dC, dI)) (ci := 8) (v := .int v_undos) (C := RX8) (T := TX8) (N := 27) hx hb hts (fun _ h => List.mem_cons_of_mem _ (List.mem_append_right _ h)) hown hK hP 0 rfl rfl 9 (by decide) (hts _ (List.mem_of_getElem? (i := 1) rfl)) (fun _ h9 => h9) rfl dX8_changed_88 ?_
        refine lv_iconst (v := 1) hx hb dX8_changed_91 (by decide) ?_
        refine lv_iadd hx hb dX8_changed_92 ?_
        refine va_put (D := (dC, dI)) (ci := 8) (v := .int (v_undos + (1 : Int32))) (ty := .int) (C := RX8) (T := TX8) (N := 27) hx hb hts (fun _ h => List.mem_cons_of_mem _ (List.mem_append_right _ h)) tyX8 tyX8_ok nmX8 hown hK hP hD hS 0 rfl rfl 9 (by decide) (hts _ (List.mem_of_getElem? (i := 1) rfl)) (fun _ h9 => h9) rfl (by decide +kernel) rfl rfl (Nat.le_of_ble_eq_true rfl) dX8_changed_93 (fun H locs hP hD hS => ?_)
        have hP : va_P (dC, dI) vwCl (MWc a kI kB kZ v_tape v_taped v_errorAt v_thrown v_world v_aside v_undone v_slots v_isKept (v_undos + (1 : Int32)) v_seenPrefix v_seenLast v_seen v_previous v_gained v_gains v_decoded v_decodes v_readAt v_start v_kind v_word v_letters v_number v_fine v_text v_texted) H := hP
        have hD : va_D A (MWc a kI kB kZ v_tape v_taped v_errorAt v_thrown v_world v_aside v_undone v_slots v_isKept (v_undos + (1 : Int32)) v_seenPrefix v_seenLast v_seen v_previous v_gained v_gains v_decoded v_decodes v_readAt v_start v_kind v_word v_letters v_number v_fine v_text v_texted) := hD
        refine lv_aload_n hx hb dX8_changed_96 rfl (lv_at hl 0 rfl) ?_
        refine lv_iload_n hx hb dX8_changed_97 rfl (lv_at hl 1 rfl) ?_
        obtain ⟨z3, e4, hJ⟩ := bnd hJ
        refine rwViW (As := [.int y1]) (rest := []) (ci := 8) (q0 := 0) hx hb hml hown hts (c_X8_told l dC dI kI kB kZ a v_tape v_taped v_errorAt v_thrown v_world v_aside v_undone v_slots v_isKept (v_undos + (1 : Int32)) v_seenPrefix v_seenLast v_seen v_previous v_gained v_gains v_decoded v_decodes v_readAt v_start v_kind v_word v_letters v_number v_fine v_text v_texted y1 H.size z3 e4) gX8_changed_X8_told qX8_told rfl ⟨Nat.le_of_ble_eq_true rfl, Nat.le_of_ble_eq_true rfl⟩ ⟨rfl, rfl⟩ hNW hK hP hD hS hA hK rfl rfl rfl hl.1 rfl rfl (Nat.le_of_ble_eq_true rfl) dX8_changed_98 z0 (fun H locs hP hD hS => ?_)
        obtain rfl := Option.some.inj hJ
        exact rw_iret hx hb hr hlocks rfl hP hD hS dX8_changed_101
      · have hJ := ite_f c2 hJ
        refine lv_aload_n hx hb dX8_changed_59 rfl (lv_at hl 0 rfl) ?_
        refine va_get (D := (dC, dI)) (ci := 8) (v := .ref (a 4)) (C := RX8) (T := TX8) (N := 27) hx hb hts (fun _ h => List.mem_cons_of_mem _ (List.mem_append_right _ h)) hown hK hP 0 rfl rfl 6 (by decide) (hts _ (List.mem_of_getElem? (i := 2) rfl)) (fun _ h9 => h9) rfl dX8_changed_60 ?_
        refine lv_sipush (v := 1726) hx hb dX8_changed_63 (by decide) ?_
        refine lv_aload_n hx hb dX8_changed_66 rfl (lv_at hl 0 rfl) ?_
        refine va_get (D := (dC, dI)) (ci := 8) (v := .int v_undos) (C := RX8) (T := TX8) (N := 27) hx hb hts (fun _ h => List.mem_cons_of_mem _ (List.mem_append_right _ h)) hown hK hP 0 rfl rfl 9 (by decide) (hts _ (List.mem_of_getElem? (i := 1) rfl)) (fun _ h9 => h9) rfl dX8_changed_67 ?_
        refine lv_imul hx hb dX8_changed_70 ?_
        refine lv_iload_n hx hb dX8_changed_71 rfl (lv_at hl 2 rfl) ?_
        refine lv_iadd hx hb dX8_changed_72 ?_
        refine lv_aload_n hx hb dX8_changed_73 rfl (lv_at hl 0 rfl) ?_
        refine va_get (D := (dC, dI)) (ci := 8) (v := .ref (a 3)) (C := RX8) (T := TX8) (N := 27) hx hb hts (fun _ h => List.mem_cons_of_mem _ (List.mem_append_right _ h)) hown hK hP 0 rfl rfl 5 (by decide) (hts _ (List.mem_of_getElem? (i := 3) rfl)) (fun _ h9 => h9) rfl dX8_changed_74 ?_
        refine lv_iload_n hx hb dX8_changed_77 rfl (lv_at hl 2 rfl) ?_
        obtain ⟨z5, e6, hJ⟩ := bnd hJ
        refine rd_int (n := 1726) (f := v_aside) hx hb hK hP 3 0 rfl rfl e6 dX8_changed_78 ?_
        obtain ⟨g7, e8, hJ⟩ := bnd hJ
        refine wr_int (n := 13808) (f := v_undone) (x := z5) hx hb hK hP hD hS 4 0 rfl rfl e8 dX8_changed_79 (fun H locs hP hD hS => ?_)
        have hP : va_P (dC, dI) vwCl (MWc a kI kB kZ v_tape v_taped v_errorAt v_thrown v_world v_aside g7 v_slots v_isKept v_undos v_seenPrefix v_seenLast v_seen v_previous v_gained v_gains v_decoded v_decodes v_readAt v_start v_kind v_word v_letters v_number v_fine v_text v_texted) H := hP
        have hD : va_D A (MWc a kI kB kZ v_tape v_taped v_errorAt v_thrown v_world v_aside g7 v_slots v_isKept v_undos v_seenPrefix v_seenLast v_seen v_previous v_gained v_gains v_decoded v_decodes v_readAt v_start v_kind v_word v_letters v_number v_fine v_text v_texted) := hD
        refine lv_iinc (v := y2 + 1) (lv' := [(2, .int (y2 + 1)), (0, .ref (a 0)), (1, .int y1)]) hx hb dX8_changed_80 hl (k := 2) rfl rfl (by decide) rfl (fun ls hl => ?_)
        refine lv_goto (tgt := 52) hx hb dX8_changed_83 (by decide) ?_
        exact ih v_thrown g7 v_undos y1 (y2 + 1) H locs ls hP hD hS (lv_sub hl [1, 2, 0] rfl) hJ
  have L50 : ∀ (v_thrown : Int32) (v_undone : Nat → Int32) (v_undos : Int32) (y1 : Int32) (H : Heap) (locs : List Loc) (ls : Array Slot), va_P (dC, dI) vwCl (MWc a kI kB kZ v_tape v_taped v_errorAt v_thrown v_world v_aside v_undone v_slots v_isKept v_undos v_seenPrefix v_seenLast v_seen v_previous v_gained v_gains v_decoded v_decodes v_readAt v_start v_kind v_word v_letters v_number v_fine v_text v_texted) H → va_D A (MWc a kI kB kZ v_tape v_taped v_errorAt v_thrown v_world v_aside v_undone v_slots v_isKept v_undos v_seenPrefix v_seenLast v_seen v_previous v_gained v_gains v_decoded v_decodes v_readAt v_start v_kind v_word v_letters v_number v_fine v_text v_texted) → va_S A s.heap H locs → lv_has ls 3 [(0, .ref (a 0)), (1, .int y1)] → J_X8_changed_b50 fu v_aside v_thrown v_undone v_undos y1 = some z → W p l e ({ frames := 1, cells := 0, slots := 0, locals := 21 }) s m args below meth c H locs 0 0 (MQ below (rwQi dC dI A (MWc a kI kB kZ v_tape v_taped v_errorAt z.2.1 v_world v_aside z.2.2.1 v_slots v_isKept z.2.2.2 v_seenPrefix v_seenLast v_seen v_previous v_gained v_gains v_decoded v_decodes v_readAt v_start v_kind v_word v_letters v_number v_fine v_text v_texted) z.1) args s 0 0 (A)) (F0 m 50 ls []) := by
    intro v_thrown v_undone v_undos y1 H locs ls hP hD hS hl hJ
    unfold J_X8_changed_b50 at hJ
    refine lv_iconst (v := 0) hx hb dX8_changed_50 (by decide) ?_
    refine lv_istore_n (lv' := [(2, .int (0 : Int32)), (0, .ref (a 0)), (1, .int y1)]) hx hb dX8_changed_51 rfl hl (by decide) rfl (fun ls hl => ?_)
    exact L52 fu v_thrown v_undone v_undos y1 (0 : Int32) H locs ls hP hD hS (lv_sub hl [1, 2, 0] rfl) hJ
  have L11 : ∀ (n : Nat) (v_thrown : Int32) (v_undone : Nat → Int32) (v_undos : Int32) (y1 : Int32) (y2 : Int32) (H : Heap) (locs : List Loc) (ls : Array Slot), va_P (dC, dI) vwCl (MWc a kI kB kZ v_tape v_taped v_errorAt v_thrown v_world v_aside v_undone v_slots v_isKept v_undos v_seenPrefix v_seenLast v_seen v_previous v_gained v_gains v_decoded v_decodes v_readAt v_start v_kind v_word v_letters v_number v_fine v_text v_texted) H → va_D A (MWc a kI kB kZ v_tape v_taped v_errorAt v_thrown v_world v_aside v_undone v_slots v_isKept v_undos v_seenPrefix v_seenLast v_seen v_previous v_gained v_gains v_decoded v_decodes v_readAt v_start v_kind v_word v_letters v_number v_fine v_text v_texted) → va_S A s.heap H locs → lv_has ls 3 [(0, .ref (a 0)), (1, .int y1), (2, .int y2)] → J_X8_changed_b11 fu v_aside n v_thrown v_undone v_undos y1 y2 = some z → W p l e ({ frames := 1, cells := 0, slots := 0, locals := 21 }) s m args below meth c H locs 0 0 (MQ below (rwQi dC dI A (MWc a kI kB kZ v_tape v_taped v_errorAt z.2.1 v_world v_aside z.2.2.1 v_slots v_isKept z.2.2.2 v_seenPrefix v_seenLast v_seen v_previous v_gained v_gains v_decoded v_decodes v_readAt v_start v_kind v_word v_letters v_number v_fine v_text v_texted) z.1) args s 0 0 (A)) (F0 m 11 ls []) := by
    intro n
    induction n with
    | zero =>
      intro v_thrown v_undone v_undos y1 y2 H locs ls hP hD hS hl hJ
      rw [J_X8_changed_b11] at hJ; cases hJ
    | succ n ih =>
      intro v_thrown v_undone v_undos y1 y2 H locs ls hP hD hS hl hJ
      rw [J_X8_changed_b11] at hJ
      refine lv_iload_n hx hb dX8_changed_11 rfl (lv_at hl 2 rfl) ?_
      refine lv_sipush (v := 12082) hx hb dX8_changed_12 (by decide) ?_
      refine lv_icmp_ge (tgt := 40) hx hb dX8_changed_15 (by decide) (fun c9 => ?_) (fun c9 => ?_)
      · have hJ := ite_t c9 hJ
        refine lv_aload_n hx hb dX8_changed_40 rfl (lv_at hl 0 rfl) ?_
        refine lv_dup hx hb dX8_changed_41 rfl ?_
        refine va_get (D := (dC, dI)) (ci := 8) (v := .int v_undos) (C := RX8) (T := TX8) (N := 27) hx hb hts (fun _ h => List.mem_cons_of_mem _ (List.mem_append_right _ h)) hown hK hP 0 rfl rfl 9 (by decide) (hts _ (List.mem_of_getElem? (i := 1) rfl)) (fun _ h9 => h9) rfl dX8_changed_42 ?_
        refine lv_iconst (v := 1) hx hb dX8_changed_45 (by decide) ?_
        refine lv_isub hx hb dX8_changed_46 ?_
        refine va_put (D := (dC, dI)) (ci := 8) (v := .int (v_undos - (1 : Int32))) (ty := .int) (C := RX8) (T := TX8) (N := 27) hx hb hts (fun _ h => List.mem_cons_of_mem _ (List.mem_append_right _ h)) tyX8 tyX8_ok nmX8 hown hK hP hD hS 0 rfl rfl 9 (by decide) (hts _ (List.mem_of_getElem? (i := 1) rfl)) (fun _ h9 => h9) rfl (by decide +kernel) rfl rfl (Nat.le_of_ble_eq_true rfl) dX8_changed_47 (fun H locs hP hD hS => ?_)
        have hP : va_P (dC, dI) vwCl (MWc a kI kB kZ v_tape v_taped v_errorAt v_thrown v_world v_aside v_undone v_slots v_isKept (v_undos - (1 : Int32)) v_seenPrefix v_seenLast v_seen v_previous v_gained v_gains v_decoded v_decodes v_readAt v_start v_kind v_word v_letters v_number v_fine v_text v_texted) H := hP
        have hD : va_D A (MWc a kI kB kZ v_tape v_taped v_errorAt v_thrown v_world v_aside v_undone v_slots v_isKept (v_undos - (1 : Int32)) v_seenPrefix v_seenLast v_seen v_previous v_gained v_gains v_decoded v_decodes v_readAt v_start v_kind v_word v_letters v_number v_fine v_text v_texted) := hD
        exact L50 v_thrown v_undone (v_undos - (1 : Int32)) y1 H locs ls hP hD hS (lv_sub hl [0, 1] rfl) hJ
      · have hJ := ite_f c9 hJ
        refine lv_aload_n hx hb dX8_changed_18 rfl (lv_at hl 0 rfl) ?_
        refine va_get (D := (dC, dI)) (ci := 8) (v := .ref (a 4)) (C := RX8) (T := TX8) (N := 27) hx hb hts (fun _ h => List.mem_cons_of_mem _ (List.mem_append_right _ h)) hown hK hP 0 rfl rfl 6 (by decide) (hts _ (List.mem_of_getElem? (i := 2) rfl)) (fun _ h9 => h9) rfl dX8_changed_19 ?_
        refine lv_iload_n hx hb dX8_changed_22 rfl (lv_at hl 2 rfl) ?_
        refine lv_aload_n hx hb dX8_changed_23 rfl (lv_at hl 0 rfl) ?_
        refine va_get (D := (dC, dI)) (ci := 8) (v := .ref (a 4)) (C := RX8) (T := TX8) (N := 27) hx hb hts (fun _ h => List.mem_cons_of_mem _ (List.mem_append_right _ h)) hown hK hP 0 rfl rfl 6 (by decide) (hts _ (List.mem_of_getElem? (i := 2) rfl)) (fun _ h9 => h9) rfl dX8_changed_24 ?_
        refine lv_iload_n hx hb dX8_changed_27 rfl (lv_at hl 2 rfl) ?_
        refine lv_sipush (v := 1726) hx hb dX8_changed_28 (by decide) ?_
        refine lv_iadd hx hb dX8_changed_31 ?_
        obtain ⟨z10, e11, hJ⟩ := bnd hJ
        refine rd_int (n := 13808) (f := v_undone) hx hb hK hP 4 0 rfl rfl e11 dX8_changed_32 ?_
        obtain ⟨g12, e13, hJ⟩ := bnd hJ
        refine wr_int (n := 13808) (f := v_undone) (x := z10) hx hb hK hP hD hS 4 0 rfl rfl e13 dX8_changed_33 (fun H locs hP hD hS => ?_)
        have hP : va_P (dC, dI) vwCl (MWc a kI kB kZ v_tape v_taped v_errorAt v_thrown v_world v_aside g12 v_slots v_isKept v_undos v_seenPrefix v_seenLast v_seen v_previous v_gained v_gains v_decoded v_decodes v_readAt v_start v_kind v_word v_letters v_number v_fine v_text v_texted) H := hP
        have hD : va_D A (MWc a kI kB kZ v_tape v_taped v_errorAt v_thrown v_world v_aside g12 v_slots v_isKept v_undos v_seenPrefix v_seenLast v_seen v_previous v_gained v_gains v_decoded v_decodes v_readAt v_start v_kind v_word v_letters v_number v_fine v_text v_texted) := hD
        refine lv_iinc (v := y2 + 1) (lv' := [(2, .int (y2 + 1)), (0, .ref (a 0)), (1, .int y1)]) hx hb dX8_changed_34 hl (k := 2) rfl rfl (by decide) rfl (fun ls hl => ?_)
        refine lv_goto (tgt := 11) hx hb dX8_changed_37 (by decide) ?_
        exact ih v_thrown g12 v_undos y1 (y2 + 1) H locs ls hP hD hS (lv_sub hl [1, 2, 0] rfl) hJ
  refine lv_aload_n hx hb dX8_changed_0 rfl (lv_at hl 0 rfl) ?_
  refine va_get (D := (dC, dI)) (ci := 8) (v := .int v_undos) (C := RX8) (T := TX8) (N := 27) hx hb hts (fun _ h => List.mem_cons_of_mem _ (List.mem_append_right _ h)) hown hK hP 0 rfl rfl 9 (by decide) (hts _ (List.mem_of_getElem? (i := 1) rfl)) (fun _ h9 => h9) rfl dX8_changed_1 ?_
  refine lv_bipush (v := 8) hx hb dX8_changed_4 (by decide) ?_
  refine lv_icmp_ne (tgt := 50) hx hb dX8_changed_6 (by decide) (fun c1 => ?_) (fun c1 => ?_)
  · have hJ := ite_f c1 hJ
    exact L50 v_thrown v_undone v_undos p0 H locs ls hP hD hS (lv_sub hl [0, 1] rfl) hJ
  · have hJ := ite_t c1 hJ
    refine lv_iconst (v := 0) hx hb dX8_changed_9 (by decide) ?_
    refine lv_istore_n (lv' := [(2, .int (0 : Int32)), (0, .ref (a 0)), (1, .int p0)]) hx hb dX8_changed_10 rfl hl (by decide) rfl (fun ls hl => ?_)
    exact L11 fu v_thrown v_undone v_undos p0 (0 : Int32) H locs ls hP hD hS (lv_sub hl [1, 2, 0] rfl) hJ
theorem qX8_undo : (yX8_undo.cls = RX8) ∧ yX8_undo.cls ≠ "java/lang/invoke/MethodHandle" ∧ yX8_undo.cls ≠ "java/lang/invoke/VarHandle" ∧ (parseMethodDescriptor yX8_undo.desc).map (fun d => d.parameters.length) = some 0 := by decide +kernel
set_option maxHeartbeats 4000000 in
set_option maxRecDepth 100000 in
theorem c_X8_undo (fu : Nat) (l : Launch) (dC : Nat → ClassId) (dI : Nat → Nat → Nat) (kI kB kZ : ClassId) (a : Nat → Nat) (v_tape : Nat → Int32) (v_taped : Int32) (v_errorAt : Int32) (v_thrown : Int32) (v_world : Nat → Int32) (v_aside : Nat → Int32) (v_undone : Nat → Int32) (v_slots : Nat → Int32) (v_isKept : Nat → Int32) (v_undos : Int32) (v_seenPrefix : Nat → Int32) (v_seenLast : Nat → Int32) (v_seen : Int32) (v_previous : Int32) (v_gained : Nat → Int32) (v_gains : Int32) (v_decoded : Nat → Int32) (v_decodes : Int32) (v_readAt : Int32) (v_start : Int32) (v_kind : Int32) (v_word : Int64) (v_letters : Int32) (v_number : Int32) (v_fine : Int32) (v_text : Nat → Int32) (v_texted : Int32) (sz : Nat) (z : Int32 × Int32 × (Nat → Int32) × Int32) (hJ : J_X8_undo fu v_thrown v_world v_undone v_undos = some z) : Met l yX8_undo wsX8_undo ({ frames := 1, cells := 0, slots := 0, locals := 21 }) (va_Pc [.ref (a 0)] (RWp dC dI sz (MWc a kI kB kZ v_tape v_taped v_errorAt v_thrown v_world v_aside v_undone v_slots v_isKept v_undos v_seenPrefix v_seenLast v_seen v_previous v_gained v_gains v_decoded v_decodes v_readAt v_start v_kind v_word v_letters v_number v_fine v_text v_texted) [(kI, .int), (kB, .byte), (kZ, .boolean)])) (rwQi dC dI (va_A (MWc a kI kB kZ v_tape v_taped v_errorAt v_thrown v_world v_aside v_undone v_slots v_isKept v_undos v_seenPrefix v_seenLast v_seen v_previous v_gained v_gains v_decoded v_decodes v_readAt v_start v_kind v_word v_letters v_number v_fine v_text v_texted) sz) (MWc a kI kB kZ v_tape v_taped v_errorAt z.2.1 z.2.2.1 v_aside v_undone v_slots v_isKept z.2.2.2 v_seenPrefix v_seenLast v_seen v_previous v_gained v_gains v_decoded v_decodes v_readAt v_start v_kind v_word v_letters v_number v_fine v_text v_texted) z.1) 0 0 (va_A (MWc a kI kB kZ v_tape v_taped v_errorAt v_thrown v_world v_aside v_undone v_slots v_isKept v_undos v_seenPrefix v_seenLast v_seen v_previous v_gained v_gains v_decoded v_decodes v_readAt v_start v_kind v_word v_letters v_number v_fine v_text v_texted) sz) := by
  refine rw_start (Qc := fun A => rwQi dC dI A (MWc a kI kB kZ v_tape v_taped v_errorAt z.2.1 z.2.2.1 v_aside v_undone v_slots v_isKept z.2.2.2 v_seenPrefix v_seenLast v_seen v_previous v_gained v_gains v_decoded v_decodes v_readAt v_start v_kind v_word v_letters v_number v_fine v_text v_texted) z.1) (cc := cX8_undo) (maxL := 2) (ret := (some .int)) (by decide) rfl (Nat.le_of_ble_eq_true rfl) ?_
  intro p e s m args below meth c hx hb hr hml hown hts hlocks hNW hK A hA H locs ls hP hD hS hl
  have hown : s.vm.findClass RX8 = some m.cls := hown
  have hl : lv_has ls 2 [(0, .ref (a 0))] := hl
  unfold J_X8_undo at hJ
  have L25 : ∀ (n : Nat) (v_thrown : Int32) (v_world : Nat → Int32) (v_undos : Int32) (y1 : Int32) (H : Heap) (locs : List Loc) (ls : Array Slot), va_P (dC, dI) vwCl (MWc a kI kB kZ v_tape v_taped v_errorAt v_thrown v_world v_aside v_undone v_slots v_isKept v_undos v_seenPrefix v_seenLast v_seen v_previous v_gained v_gains v_decoded v_decodes v_readAt v_start v_kind v_word v_letters v_number v_fine v_text v_texted) H → va_D A (MWc a kI kB kZ v_tape v_taped v_errorAt v_thrown v_world v_aside v_undone v_slots v_isKept v_undos v_seenPrefix v_seenLast v_seen v_previous v_gained v_gains v_decoded v_decodes v_readAt v_start v_kind v_word v_letters v_number v_fine v_text v_texted) → va_S A s.heap H locs → lv_has ls 2 [(0, .ref (a 0)), (1, .int y1)] → J_X8_undo_b25 fu v_undone n v_thrown v_world v_undos y1 = some z → W p l e ({ frames := 1, cells := 0, slots := 0, locals := 21 }) s m args below meth c H locs 0 0 (MQ below (rwQi dC dI A (MWc a kI kB kZ v_tape v_taped v_errorAt z.2.1 z.2.2.1 v_aside v_undone v_slots v_isKept z.2.2.2 v_seenPrefix v_seenLast v_seen v_previous v_gained v_gains v_decoded v_decodes v_readAt v_start v_kind v_word v_letters v_number v_fine v_text v_texted) z.1) args s 0 0 (A)) (F0 m 25 ls []) := by
    intro n
    induction n with
    | zero =>
      intro v_thrown v_world v_undos y1 H locs ls hP hD hS hl hJ
      rw [J_X8_undo_b25] at hJ; cases hJ
    | succ n ih =>
      intro v_thrown v_world v_undos y1 H locs ls hP hD hS hl hJ
      rw [J_X8_undo_b25] at hJ
      refine lv_iload_n hx hb dX8_undo_25 rfl (lv_at hl 1 rfl) ?_
      refine lv_sipush (v := 1726) hx hb dX8_undo_26 (by decide) ?_
      refine lv_icmp_ge (tgt := 59) hx hb dX8_undo_29 (by decide) (fun c4 => ?_) (fun c4 => ?_)
      · have hJ := ite_t c4 hJ
        refine lv_aload_n hx hb dX8_undo_59 rfl (lv_at hl 0 rfl) ?_
        refine lv_aload_n hx hb dX8_undo_60 rfl (lv_at hl 0 rfl) ?_
        refine va_get (D := (dC, dI)) (ci := 8) (v := .int v_undos) (C := RX8) (T := TX8) (N := 27) hx hb hts (fun _ h => List.mem_cons_of_mem _ (List.mem_append_right _ h)) hown hK hP 0 rfl rfl 9 (by decide) (hts _ (List.mem_of_getElem? (i := 1) rfl)) (fun _ h9 => h9) rfl dX8_undo_61 ?_
        obtain ⟨z5, e6, hJ⟩ := bnd hJ
        refine rwViW (As := [.int v_undos]) (rest := []) (ci := 8) (q0 := 0) hx hb hml hown hts (c_X8_told l dC dI kI kB kZ a v_tape v_taped v_errorAt v_thrown v_world v_aside v_undone v_slots v_isKept v_undos v_seenPrefix v_seenLast v_seen v_previous v_gained v_gains v_decoded v_decodes v_readAt v_start v_kind v_word v_letters v_number v_fine v_text v_texted v_undos H.size z5 e6) gX8_undo_X8_told qX8_told rfl ⟨Nat.le_of_ble_eq_true rfl, Nat.le_of_ble_eq_true rfl⟩ ⟨rfl, rfl⟩ hNW hK hP hD hS hA hK rfl rfl rfl hl.1 rfl rfl (Nat.le_of_ble_eq_true rfl) dX8_undo_64 z0 (fun H locs hP hD hS => ?_)
        obtain rfl := Option.some.inj hJ
        exact rw_iret hx hb hr hlocks rfl hP hD hS dX8_undo_67
      · have hJ := ite_f c4 hJ
        refine lv_aload_n hx hb dX8_undo_32 rfl (lv_at hl 0 rfl) ?_
        refine va_get (D := (dC, dI)) (ci := 8) (v := .ref (a 2)) (C := RX8) (T := TX8) (N := 27) hx hb hts (fun _ h => List.mem_cons_of_mem _ (List.mem_append_right _ h)) hown hK hP 0 rfl rfl 4 (by decide) (hts _ (List.mem_of_getElem? (i := 2) rfl)) (fun _ h9 => h9) rfl dX8_undo_33 ?_
        refine lv_iload_n hx hb dX8_undo_36 rfl (lv_at hl 1 rfl) ?_
        refine lv_aload_n hx hb dX8_undo_37 rfl (lv_at hl 0 rfl) ?_
        refine va_get (D := (dC, dI)) (ci := 8) (v := .ref (a 4)) (C := RX8) (T := TX8) (N := 27) hx hb hts (fun _ h => List.mem_cons_of_mem _ (List.mem_append_right _ h)) hown hK hP 0 rfl rfl 6 (by decide) (hts _ (List.mem_of_getElem? (i := 3) rfl)) (fun _ h9 => h9) rfl dX8_undo_38 ?_
        refine lv_sipush (v := 1726) hx hb dX8_undo_41 (by decide) ?_
        refine lv_aload_n hx hb dX8_undo_44 rfl (lv_at hl 0 rfl) ?_
        refine va_get (D := (dC, dI)) (ci := 8) (v := .int v_undos) (C := RX8) (T := TX8) (N := 27) hx hb hts (fun _ h => List.mem_cons_of_mem _ (List.mem_append_right _ h)) hown hK hP 0 rfl rfl 9 (by decide) (hts _ (List.mem_of_getElem? (i := 1) rfl)) (fun _ h9 => h9) rfl dX8_undo_45 ?_
        refine lv_imul hx hb dX8_undo_48 ?_
        refine lv_iload_n hx hb dX8_undo_49 rfl (lv_at hl 1 rfl) ?_
        refine lv_iadd hx hb dX8_undo_50 ?_
        obtain ⟨z7, e8, hJ⟩ := bnd hJ
        refine rd_int (n := 13808) (f := v_undone) hx hb hK hP 4 0 rfl rfl e8 dX8_undo_51 ?_
        obtain ⟨g9, e10, hJ⟩ := bnd hJ
        refine wr_int (n := 1726) (f := v_world) (x := z7) hx hb hK hP hD hS 2 0 rfl rfl e10 dX8_undo_52 (fun H locs hP hD hS => ?_)
        have hP : va_P (dC, dI) vwCl (MWc a kI kB kZ v_tape v_taped v_errorAt v_thrown g9 v_aside v_undone v_slots v_isKept v_undos v_seenPrefix v_seenLast v_seen v_previous v_gained v_gains v_decoded v_decodes v_readAt v_start v_kind v_word v_letters v_number v_fine v_text v_texted) H := hP
        have hD : va_D A (MWc a kI kB kZ v_tape v_taped v_errorAt v_thrown g9 v_aside v_undone v_slots v_isKept v_undos v_seenPrefix v_seenLast v_seen v_previous v_gained v_gains v_decoded v_decodes v_readAt v_start v_kind v_word v_letters v_number v_fine v_text v_texted) := hD
        refine lv_iinc (v := y1 + 1) (lv' := [(1, .int (y1 + 1)), (0, .ref (a 0))]) hx hb dX8_undo_53 hl (k := 1) rfl rfl (by decide) rfl (fun ls hl => ?_)
        refine lv_goto (tgt := 25) hx hb dX8_undo_56 (by decide) ?_
        exact ih v_thrown g9 v_undos (y1 + 1) H locs ls hP hD hS (lv_sub hl [1, 0] rfl) hJ
  refine lv_aload_n hx hb dX8_undo_0 rfl (lv_at hl 0 rfl) ?_
  refine va_get (D := (dC, dI)) (ci := 8) (v := .int v_undos) (C := RX8) (T := TX8) (N := 27) hx hb hts (fun _ h => List.mem_cons_of_mem _ (List.mem_append_right _ h)) hown hK hP 0 rfl rfl 9 (by decide) (hts _ (List.mem_of_getElem? (i := 1) rfl)) (fun _ h9 => h9) rfl dX8_undo_1 ?_
  refine lv_if_ne (tgt := 13) hx hb dX8_undo_4 (by decide) (fun c1 => ?_) (fun c1 => ?_)
  · have hJ := ite_f c1 hJ
    refine lv_aload_n hx hb dX8_undo_13 rfl (lv_at hl 0 rfl) ?_
    refine lv_dup hx hb dX8_undo_14 rfl ?_
    refine va_get (D := (dC, dI)) (ci := 8) (v := .int v_undos) (C := RX8) (T := TX8) (N := 27) hx hb hts (fun _ h => List.mem_cons_of_mem _ (List.mem_append_right _ h)) hown hK hP 0 rfl rfl 9 (by decide) (hts _ (List.mem_of_getElem? (i := 1) rfl)) (fun _ h9 => h9) rfl dX8_undo_15 ?_
    refine lv_iconst (v := 1) hx hb dX8_undo_18 (by decide) ?_
    refine lv_isub hx hb dX8_undo_19 ?_
    refine va_put (D := (dC, dI)) (ci := 8) (v := .int (v_undos - (1 : Int32))) (ty := .int) (C := RX8) (T := TX8) (N := 27) hx hb hts (fun _ h => List.mem_cons_of_mem _ (List.mem_append_right _ h)) tyX8 tyX8_ok nmX8 hown hK hP hD hS 0 rfl rfl 9 (by decide) (hts _ (List.mem_of_getElem? (i := 1) rfl)) (fun _ h9 => h9) rfl (by decide +kernel) rfl rfl (Nat.le_of_ble_eq_true rfl) dX8_undo_20 (fun H locs hP hD hS => ?_)
    have hP : va_P (dC, dI) vwCl (MWc a kI kB kZ v_tape v_taped v_errorAt v_thrown v_world v_aside v_undone v_slots v_isKept (v_undos - (1 : Int32)) v_seenPrefix v_seenLast v_seen v_previous v_gained v_gains v_decoded v_decodes v_readAt v_start v_kind v_word v_letters v_number v_fine v_text v_texted) H := hP
    have hD : va_D A (MWc a kI kB kZ v_tape v_taped v_errorAt v_thrown v_world v_aside v_undone v_slots v_isKept (v_undos - (1 : Int32)) v_seenPrefix v_seenLast v_seen v_previous v_gained v_gains v_decoded v_decodes v_readAt v_start v_kind v_word v_letters v_number v_fine v_text v_texted) := hD
    refine lv_iconst (v := 0) hx hb dX8_undo_23 (by decide) ?_
    refine lv_istore_n (lv' := [(1, .int (0 : Int32)), (0, .ref (a 0))]) hx hb dX8_undo_24 rfl hl (by decide) rfl (fun ls hl => ?_)
    exact L25 fu v_thrown v_world (v_undos - (1 : Int32)) (0 : Int32) H locs ls hP hD hS (lv_sub hl [1, 0] rfl) hJ
  · have hJ := ite_t c1 hJ
    refine lv_aload_n hx hb dX8_undo_7 rfl (lv_at hl 0 rfl) ?_
    refine lv_iconst (v := 1) hx hb dX8_undo_8 (by decide) ?_
    obtain ⟨z2, e3, hJ⟩ := bnd hJ
    refine rwViW (As := [.int (1 : Int32)]) (rest := []) (ci := 8) (q0 := 0) hx hb hml hown hts (c_X8_throwing l dC dI kI kB kZ a v_tape v_taped v_errorAt v_thrown v_world v_aside v_undone v_slots v_isKept v_undos v_seenPrefix v_seenLast v_seen v_previous v_gained v_gains v_decoded v_decodes v_readAt v_start v_kind v_word v_letters v_number v_fine v_text v_texted (1 : Int32) H.size z2 e3) gX8_undo_X8_throwing qX8_throwing rfl ⟨Nat.le_of_ble_eq_true rfl, Nat.le_of_ble_eq_true rfl⟩ ⟨rfl, rfl⟩ hNW hK hP hD hS hA hK rfl rfl rfl hl.1 rfl rfl (Nat.le_of_ble_eq_true rfl) dX8_undo_9 z0 (fun H locs hP hD hS => ?_)
    obtain rfl := Option.some.inj hJ
    exact rw_iret hx hb hr hlocks rfl hP hD hS dX8_undo_12
theorem qX8_isSlot : (yX8_isSlot.cls = RX8) ∧ yX8_isSlot.cls ≠ "java/lang/invoke/MethodHandle" ∧ yX8_isSlot.cls ≠ "java/lang/invoke/VarHandle" ∧ (parseMethodDescriptor yX8_isSlot.desc).map (fun d => d.parameters.length) = some 1 := by decide +kernel
set_option maxHeartbeats 4000000 in
set_option maxRecDepth 100000 in
theorem c_X8_isSlot (l : Launch) (dC : Nat → ClassId) (dI : Nat → Nat → Nat) (p0 : Int32) (z : Int32) (hJ : J_X8_isSlot p0 = some z) : Met l yX8_isSlot wsX8_isSlot ({ frames := 1, cells := 0, slots := 0, locals := 22 }) (va_Pc [.int p0] (ROp dC dI ([]) [])) (roQi z) 0 0 (fun _ => False) := by
  refine ro_start (cc := cX8_isSlot) (maxL := 1) (ret := (some .boolean)) (by decide) rfl (Nat.le_of_ble_eq_true rfl) ?_
  intro p e s m args below meth c hx hb hr hml hown hts hlocks hNW hK H locs ls hP hS hl
  have hown : s.vm.findClass RX8 = some m.cls := hown
  have hl : lv_has ls 1 [(0, .int p0)] := hl
  unfold J_X8_isSlot at hJ
  refine lv_iload_n hx hb dX8_isSlot_0 rfl (lv_at hl 0 rfl) ?_
  refine lv_iconst (v := 0) hx hb dX8_isSlot_1 (by decide) ?_
  refine lv_iconst (v := 1) hx hb dX8_isSlot_2 (by decide) ?_
  obtain ⟨z1, e2, hJ⟩ := bnd hJ
  refine roSi (As := [.int p0, .int (0 : Int32), .int (1 : Int32)]) (rest := []) hx hb hml hown hts (c_X8_in l dC dI p0 (0 : Int32) (1 : Int32) z1 e2) gX8_isSlot_X8_in qX8_in rfl ⟨Nat.le_of_ble_eq_true rfl, Nat.le_of_ble_eq_true rfl⟩ ⟨rfl, rfl⟩ hNW hK hP hS hP hK hl.1 rfl rfl (Nat.le_of_ble_eq_true rfl) dX8_isSlot_3 z0 (fun H locs hP hS => ?_)
  obtain ⟨h3, hJ⟩ := ite_some hJ
  exact ro_zret hx hb hr hlocks (nar_z h3) hS hJ dX8_isSlot_6
theorem qX8_save : (yX8_save.cls = RX8) ∧ yX8_save.cls ≠ "java/lang/invoke/MethodHandle" ∧ yX8_save.cls ≠ "java/lang/invoke/VarHandle" ∧ (parseMethodDescriptor yX8_save.desc).map (fun d => d.parameters.length) = some 1 := by decide +kernel
set_option maxHeartbeats 4000000 in
set_option maxRecDepth 100000 in
theorem c_X8_save (fu : Nat) (l : Launch) (dC : Nat → ClassId) (dI : Nat → Nat → Nat) (kI kB kZ : ClassId) (a : Nat → Nat) (v_tape : Nat → Int32) (v_taped : Int32) (v_errorAt : Int32) (v_thrown : Int32) (v_world : Nat → Int32) (v_aside : Nat → Int32) (v_undone : Nat → Int32) (v_slots : Nat → Int32) (v_isKept : Nat → Int32) (v_undos : Int32) (v_seenPrefix : Nat → Int32) (v_seenLast : Nat → Int32) (v_seen : Int32) (v_previous : Int32) (v_gained : Nat → Int32) (v_gains : Int32) (v_decoded : Nat → Int32) (v_decodes : Int32) (v_readAt : Int32) (v_start : Int32) (v_kind : Int32) (v_word : Int64) (v_letters : Int32) (v_number : Int32) (v_fine : Int32) (v_text : Nat → Int32) (v_texted : Int32) (p0 : Int32) (sz : Nat) (z : Int32 × (Nat → Int32) × (Nat → Int32)) (hJ : J_X8_save fu v_thrown v_world v_slots v_isKept p0 = some z) : Met l yX8_save wsX8_save ({ frames := 2, cells := 0, slots := 0, locals := 42 }) (va_Pc [.ref (a 0), .int p0] (RWp dC dI sz (MWc a kI kB kZ v_tape v_taped v_errorAt v_thrown v_world v_aside v_undone v_slots v_isKept v_undos v_seenPrefix v_seenLast v_seen v_previous v_gained v_gains v_decoded v_decodes v_readAt v_start v_kind v_word v_letters v_number v_fine v_text v_texted) [(kI, .int), (kB, .byte), (kZ, .boolean)])) (rwQv dC dI (va_A (MWc a kI kB kZ v_tape v_taped v_errorAt v_thrown v_world v_aside v_undone v_slots v_isKept v_undos v_seenPrefix v_seenLast v_seen v_previous v_gained v_gains v_decoded v_decodes v_readAt v_start v_kind v_word v_letters v_number v_fine v_text v_texted) sz) (MWc a kI kB kZ v_tape v_taped v_errorAt z.1 v_world v_aside v_undone z.2.1 z.2.2 v_undos v_seenPrefix v_seenLast v_seen v_previous v_gained v_gains v_decoded v_decodes v_readAt v_start v_kind v_word v_letters v_number v_fine v_text v_texted)) 0 0 (va_A (MWc a kI kB kZ v_tape v_taped v_errorAt v_thrown v_world v_aside v_undone v_slots v_isKept v_undos v_seenPrefix v_seenLast v_seen v_previous v_gained v_gains v_decoded v_decodes v_readAt v_start v_kind v_word v_letters v_number v_fine v_text v_texted) sz) := by
  refine rw_start (Qc := fun A => rwQv dC dI A (MWc a kI kB kZ v_tape v_taped v_errorAt z.1 v_world v_aside v_undone z.2.1 z.2.2 v_undos v_seenPrefix v_seenLast v_seen v_previous v_gained v_gains v_decoded v_decodes v_readAt v_start v_kind v_word v_letters v_number v_fine v_text v_texted)) (cc := cX8_save) (maxL := 4) (ret := none) (by decide) rfl (Nat.le_of_ble_eq_true rfl) ?_
  intro p e s m args below meth c hx hb hr hml hown hts hlocks hNW hK A hA H locs ls hP hD hS hl
  have hown : s.vm.findClass RX8 = some m.cls := hown
  have hl : lv_has ls 4 [(0, .ref (a 0)), (1, .int p0)] := hl
  unfold J_X8_save at hJ
  have L61 : ∀ (v_thrown : Int32) (v_slots : Nat → Int32) (v_isKept : Nat → Int32) (y1 : Int32) (H : Heap) (locs : List Loc) (ls : Array Slot), va_P (dC, dI) vwCl (MWc a kI kB kZ v_tape v_taped v_errorAt v_thrown v_world v_aside v_undone v_slots v_isKept v_undos v_seenPrefix v_seenLast v_seen v_previous v_gained v_gains v_decoded v_decodes v_readAt v_start v_kind v_word v_letters v_number v_fine v_text v_texted) H → va_D A (MWc a kI kB kZ v_tape v_taped v_errorAt v_thrown v_world v_aside v_undone v_slots v_isKept v_undos v_seenPrefix v_seenLast v_seen v_previous v_gained v_gains v_decoded v_decodes v_readAt v_start v_kind v_word v_letters v_number v_fine v_text v_texted) → va_S A s.heap H locs → lv_has ls 4 [(0, .ref (a 0)), (1, .int y1)] → J_X8_save_b61 fu v_world v_thrown v_slots v_isKept y1 = some z → W p l e ({ frames := 2, cells := 0, slots := 0, locals := 42 }) s m args below meth c H locs 0 0 (MQ below (rwQv dC dI A (MWc a kI kB kZ v_tape v_taped v_errorAt z.1 v_world v_aside v_undone z.2.1 z.2.2 v_undos v_seenPrefix v_seenLast v_seen v_previous v_gained v_gains v_decoded v_decodes v_readAt v_start v_kind v_word v_letters v_number v_fine v_text v_texted)) args s 0 0 (A)) (F0 m 61 ls []) := by
    intro v_thrown v_slots v_isKept y1 H locs ls hP hD hS hl hJ
    unfold J_X8_save_b61 at hJ
    refine lv_aload_n hx hb dX8_save_61 rfl (lv_at hl 0 rfl) ?_
    refine va_get (D := (dC, dI)) (ci := 8) (v := .int v_thrown) (C := RX8) (T := TX8) (N := 27) hx hb hts (fun _ h => List.mem_cons_of_mem _ (List.mem_append_right _ h)) hown hK hP 0 rfl rfl 3 (by decide) (hts _ (List.mem_of_getElem? (i := 1) rfl)) (fun _ h9 => h9) rfl dX8_save_62 ?_
    refine lv_if_ne (tgt := 75) hx hb dX8_save_65 (by decide) (fun c14 => ?_) (fun c14 => ?_)
    · have hJ := ite_f c14 hJ
      obtain rfl := Option.some.inj hJ
      exact rw_vret hx hb hr hlocks hP hD hS dX8_save_75
    · have hJ := ite_t c14 hJ
      refine lv_aload_n hx hb dX8_save_68 rfl (lv_at hl 0 rfl) ?_
      refine va_get (D := (dC, dI)) (ci := 8) (v := .ref (a 6)) (C := RX8) (T := TX8) (N := 27) hx hb hts (fun _ h => List.mem_cons_of_mem _ (List.mem_append_right _ h)) hown hK hP 0 rfl rfl 8 (by decide) (hts _ (List.mem_of_getElem? (i := 4) rfl)) (fun _ h9 => h9) rfl dX8_save_69 ?_
      refine lv_iload_n hx hb dX8_save_72 rfl (lv_at hl 1 rfl) ?_
      refine lv_iconst (v := 1) hx hb dX8_save_73 (by decide) ?_
      obtain ⟨g15, e16, hJ⟩ := bnd hJ
      refine wr_boolean (n := 2) (f := v_isKept) (x := (1 : Int32)) hx hb hK hP hD hS 6 2 rfl rfl e16 dX8_save_74 (fun H locs hP hD hS => ?_)
      have hP : va_P (dC, dI) vwCl (MWc a kI kB kZ v_tape v_taped v_errorAt v_thrown v_world v_aside v_undone v_slots g15 v_undos v_seenPrefix v_seenLast v_seen v_previous v_gained v_gains v_decoded v_decodes v_readAt v_start v_kind v_word v_letters v_number v_fine v_text v_texted) H := hP
      have hD : va_D A (MWc a kI kB kZ v_tape v_taped v_errorAt v_thrown v_world v_aside v_undone v_slots g15 v_undos v_seenPrefix v_seenLast v_seen v_previous v_gained v_gains v_decoded v_decodes v_readAt v_start v_kind v_word v_letters v_number v_fine v_text v_texted) := hD
      obtain rfl := Option.some.inj hJ
      exact rw_vret hx hb hr hlocks hP hD hS dX8_save_75
  have L23 : ∀ (n : Nat) (v_thrown : Int32) (v_slots : Nat → Int32) (v_isKept : Nat → Int32) (y1 : Int32) (y3 : Int32) (H : Heap) (locs : List Loc) (ls : Array Slot), va_P (dC, dI) vwCl (MWc a kI kB kZ v_tape v_taped v_errorAt v_thrown v_world v_aside v_undone v_slots v_isKept v_undos v_seenPrefix v_seenLast v_seen v_previous v_gained v_gains v_decoded v_decodes v_readAt v_start v_kind v_word v_letters v_number v_fine v_text v_texted) H → va_D A (MWc a kI kB kZ v_tape v_taped v_errorAt v_thrown v_world v_aside v_undone v_slots v_isKept v_undos v_seenPrefix v_seenLast v_seen v_previous v_gained v_gains v_decoded v_decodes v_readAt v_start v_kind v_word v_letters v_number v_fine v_text v_texted) → va_S A s.heap H locs → lv_has ls 4 [(0, .ref (a 0)), (1, .int y1), (3, .int y3)] → J_X8_save_b23 fu v_world n v_thrown v_slots v_isKept y1 y3 = some z → W p l e ({ frames := 2, cells := 0, slots := 0, locals := 42 }) s m args below meth c H locs 0 0 (MQ below (rwQv dC dI A (MWc a kI kB kZ v_tape v_taped v_errorAt z.1 v_world v_aside v_undone z.2.1 z.2.2 v_undos v_seenPrefix v_seenLast v_seen v_previous v_gained v_gains v_decoded v_decodes v_readAt v_start v_kind v_word v_letters v_number v_fine v_text v_texted)) args s 0 0 (A)) (F0 m 23 ls []) := by
    intro n
    induction n with
    | zero =>
      intro v_thrown v_slots v_isKept y1 y3 H locs ls hP hD hS hl hJ
      rw [J_X8_save_b23] at hJ; cases hJ
    | succ n ih =>
      intro v_thrown v_slots v_isKept y1 y3 H locs ls hP hD hS hl hJ
      rw [J_X8_save_b23] at hJ
      refine lv_iload_n hx hb dX8_save_23 rfl (lv_at hl 2 rfl) ?_
      refine lv_sipush (v := 1726) hx hb dX8_save_24 (by decide) ?_
      refine lv_icmp_ge (tgt := 61) hx hb dX8_save_27 (by decide) (fun c8 => ?_) (fun c8 => ?_)
      · have hJ := ite_t c8 hJ
        exact L61 v_thrown v_slots v_isKept y1 H locs ls hP hD hS (lv_sub hl [0, 1] rfl) hJ
      · have hJ := ite_f c8 hJ
        refine lv_aload_n hx hb dX8_save_30 rfl (lv_at hl 0 rfl) ?_
        refine va_get (D := (dC, dI)) (ci := 8) (v := .int v_thrown) (C := RX8) (T := TX8) (N := 27) hx hb hts (fun _ h => List.mem_cons_of_mem _ (List.mem_append_right _ h)) hown hK hP 0 rfl rfl 3 (by decide) (hts _ (List.mem_of_getElem? (i := 1) rfl)) (fun _ h9 => h9) rfl dX8_save_31 ?_
        refine lv_if_ne (tgt := 61) hx hb dX8_save_34 (by decide) (fun c9 => ?_) (fun c9 => ?_)
        · have hJ := ite_f c9 hJ
          exact L61 v_thrown v_slots v_isKept y1 H locs ls hP hD hS (lv_sub hl [0, 1] rfl) hJ
        · have hJ := ite_t c9 hJ
          refine lv_aload_n hx hb dX8_save_37 rfl (lv_at hl 0 rfl) ?_
          refine va_get (D := (dC, dI)) (ci := 8) (v := .ref (a 5)) (C := RX8) (T := TX8) (N := 27) hx hb hts (fun _ h => List.mem_cons_of_mem _ (List.mem_append_right _ h)) hown hK hP 0 rfl rfl 7 (by decide) (hts _ (List.mem_of_getElem? (i := 2) rfl)) (fun _ h9 => h9) rfl dX8_save_38 ?_
          refine lv_sipush (v := 1726) hx hb dX8_save_41 (by decide) ?_
          refine lv_iload_n hx hb dX8_save_44 rfl (lv_at hl 1 rfl) ?_
          refine lv_imul hx hb dX8_save_45 ?_
          refine lv_iload_n hx hb dX8_save_46 rfl (lv_at hl 2 rfl) ?_
          refine lv_iadd hx hb dX8_save_47 ?_
          refine lv_aload_n hx hb dX8_save_48 rfl (lv_at hl 0 rfl) ?_
          refine va_get (D := (dC, dI)) (ci := 8) (v := .ref (a 2)) (C := RX8) (T := TX8) (N := 27) hx hb hts (fun _ h => List.mem_cons_of_mem _ (List.mem_append_right _ h)) hown hK hP 0 rfl rfl 4 (by decide) (hts _ (List.mem_of_getElem? (i := 3) rfl)) (fun _ h9 => h9) rfl dX8_save_49 ?_
          refine lv_iload_n hx hb dX8_save_52 rfl (lv_at hl 2 rfl) ?_
          obtain ⟨z10, e11, hJ⟩ := bnd hJ
          refine rd_int (n := 1726) (f := v_world) hx hb hK hP 2 0 rfl rfl e11 dX8_save_53 ?_
          obtain ⟨g12, e13, hJ⟩ := bnd hJ
          refine wr_int (n := 3452) (f := v_slots) (x := z10) hx hb hK hP hD hS 5 0 rfl rfl e13 dX8_save_54 (fun H locs hP hD hS => ?_)
          have hP : va_P (dC, dI) vwCl (MWc a kI kB kZ v_tape v_taped v_errorAt v_thrown v_world v_aside v_undone g12 v_isKept v_undos v_seenPrefix v_seenLast v_seen v_previous v_gained v_gains v_decoded v_decodes v_readAt v_start v_kind v_word v_letters v_number v_fine v_text v_texted) H := hP
          have hD : va_D A (MWc a kI kB kZ v_tape v_taped v_errorAt v_thrown v_world v_aside v_undone g12 v_isKept v_undos v_seenPrefix v_seenLast v_seen v_previous v_gained v_gains v_decoded v_decodes v_readAt v_start v_kind v_word v_letters v_number v_fine v_text v_texted) := hD
          refine lv_iinc (v := y3 + 1) (lv' := [(3, .int (y3 + 1)), (0, .ref (a 0)), (1, .int y1)]) hx hb dX8_save_55 hl (k := 2) rfl rfl (by decide) rfl (fun ls hl => ?_)
          refine lv_goto (tgt := 23) hx hb dX8_save_58 (by decide) ?_
          exact ih v_thrown g12 v_isKept y1 (y3 + 1) H locs ls hP hD hS (lv_sub hl [1, 2, 0] rfl) hJ
  have L20 : ∀ (v_thrown : Int32) (v_slots : Nat → Int32) (v_isKept : Nat → Int32) (y1 : Int32) (k0 : Int32) (H : Heap) (locs : List Loc) (ls : Array Slot), va_P (dC, dI) vwCl (MWc a kI kB kZ v_tape v_taped v_errorAt v_thrown v_world v_aside v_undone v_slots v_isKept v_undos v_seenPrefix v_seenLast v_seen v_previous v_gained v_gains v_decoded v_decodes v_readAt v_start v_kind v_word v_letters v_number v_fine v_text v_texted) H → va_D A (MWc a kI kB kZ v_tape v_taped v_errorAt v_thrown v_world v_aside v_undone v_slots v_isKept v_undos v_seenPrefix v_seenLast v_seen v_previous v_gained v_gains v_decoded v_decodes v_readAt v_start v_kind v_word v_letters v_number v_fine v_text v_texted) → va_S A s.heap H locs → lv_has ls 4 [(0, .ref (a 0)), (1, .int y1)] → J_X8_save_b20 fu v_world v_thrown v_slots v_isKept y1 k0 = some z → W p l e ({ frames := 2, cells := 0, slots := 0, locals := 42 }) s m args below meth c H locs 0 0 (MQ below (rwQv dC dI A (MWc a kI kB kZ v_tape v_taped v_errorAt z.1 v_world v_aside v_undone z.2.1 z.2.2 v_undos v_seenPrefix v_seenLast v_seen v_previous v_gained v_gains v_decoded v_decodes v_readAt v_start v_kind v_word v_letters v_number v_fine v_text v_texted)) args s 0 0 (A)) (F0 m 20 ls [.int k0]) := by
    intro v_thrown v_slots v_isKept y1 k0 H locs ls hP hD hS hl hJ
    unfold J_X8_save_b20 at hJ
    refine lv_istore_n (lv' := [(2, .int k0), (0, .ref (a 0)), (1, .int y1)]) hx hb dX8_save_20 rfl hl (by decide) rfl (fun ls hl => ?_)
    refine lv_iconst (v := 0) hx hb dX8_save_21 (by decide) ?_
    refine lv_istore_n (lv' := [(3, .int (0 : Int32)), (2, .int k0), (0, .ref (a 0)), (1, .int y1)]) hx hb dX8_save_22 rfl hl (by decide) rfl (fun ls hl => ?_)
    exact L23 fu v_thrown v_slots v_isKept y1 (0 : Int32) H locs ls hP hD hS (lv_sub hl [2, 3, 0] rfl) hJ
  refine lv_iload_n hx hb dX8_save_0 rfl (lv_at hl 1 rfl) ?_
  obtain ⟨z1, e2, hJ⟩ := bnd hJ
  refine roSi (As := [.int p0]) (rest := []) hx hb hml hown hts (c_X8_isSlot l dC dI p0 z1 e2) gX8_save_X8_isSlot qX8_isSlot rfl ⟨Nat.le_of_ble_eq_true rfl, Nat.le_of_ble_eq_true rfl⟩ ⟨rfl, rfl⟩ hNW hK hP hS (hP.sub (ws' := []) [] rfl) (hK.sub (tys' := []) [] rfl) hl.1 rfl rfl (Nat.le_of_ble_eq_true rfl) dX8_save_1 z0 (fun H locs hP hS => ?_)
  refine lv_if_eq (tgt := 15) hx hb dX8_save_4 (by decide) (fun c3 => ?_) (fun c3 => ?_)
  · have hJ := ite_t c3 hJ
    refine lv_aload_n hx hb dX8_save_15 rfl (lv_at hl 0 rfl) ?_
    refine lv_iconst (v := 1) hx hb dX8_save_16 (by decide) ?_
    obtain ⟨z4, e5, hJ⟩ := bnd hJ
    refine rwViW (As := [.int (1 : Int32)]) (rest := []) (ci := 8) (q0 := 0) hx hb hml hown hts (c_X8_throwing l dC dI kI kB kZ a v_tape v_taped v_errorAt v_thrown v_world v_aside v_undone v_slots v_isKept v_undos v_seenPrefix v_seenLast v_seen v_previous v_gained v_gains v_decoded v_decodes v_readAt v_start v_kind v_word v_letters v_number v_fine v_text v_texted (1 : Int32) H.size z4 e5) gX8_save_X8_throwing qX8_throwing rfl ⟨Nat.le_of_ble_eq_true rfl, Nat.le_of_ble_eq_true rfl⟩ ⟨rfl, rfl⟩ hNW hK hP hD hS hA hK rfl rfl rfl hl.1 rfl rfl (Nat.le_of_ble_eq_true rfl) dX8_save_17 z0 (fun H locs hP hD hS => ?_)
    exact L20 z4.2 v_slots v_isKept p0 z4.1 H locs ls hP hD hS (lv_sub hl [0, 1] rfl) hJ
  · have hJ := ite_f c3 hJ
    refine lv_aload_n hx hb dX8_save_7 rfl (lv_at hl 0 rfl) ?_
    refine lv_iconst (v := 0) hx hb dX8_save_8 (by decide) ?_
    obtain ⟨z6, e7, hJ⟩ := bnd hJ
    refine rwViW (As := [.int (0 : Int32)]) (rest := []) (ci := 8) (q0 := 0) hx hb hml hown hts (c_X8_told l dC dI kI kB kZ a v_tape v_taped v_errorAt v_thrown v_world v_aside v_undone v_slots v_isKept v_undos v_seenPrefix v_seenLast v_seen v_previous v_gained v_gains v_decoded v_decodes v_readAt v_start v_kind v_word v_letters v_number v_fine v_text v_texted (0 : Int32) H.size z6 e7) gX8_save_X8_told qX8_told rfl ⟨Nat.le_of_ble_eq_true rfl, Nat.le_of_ble_eq_true rfl⟩ ⟨rfl, rfl⟩ hNW hK hP hD hS hA hK rfl rfl rfl hl.1 rfl rfl (Nat.le_of_ble_eq_true rfl) dX8_save_9 z0 (fun H locs hP hD hS => ?_)
    refine lv_goto (tgt := 20) hx hb dX8_save_12 (by decide) ?_
    exact L20 z6.2 v_slots v_isKept p0 z6.1 H locs ls hP hD hS (lv_sub hl [0, 1] rfl) hJ
theorem qX8_restore : (yX8_restore.cls = RX8) ∧ yX8_restore.cls ≠ "java/lang/invoke/MethodHandle" ∧ yX8_restore.cls ≠ "java/lang/invoke/VarHandle" ∧ (parseMethodDescriptor yX8_restore.desc).map (fun d => d.parameters.length) = some 1 := by decide +kernel
set_option maxHeartbeats 4000000 in
set_option maxRecDepth 100000 in
theorem c_X8_restore (fu : Nat) (l : Launch) (dC : Nat → ClassId) (dI : Nat → Nat → Nat) (kI kB kZ : ClassId) (a : Nat → Nat) (v_tape : Nat → Int32) (v_taped : Int32) (v_errorAt : Int32) (v_thrown : Int32) (v_world : Nat → Int32) (v_aside : Nat → Int32) (v_undone : Nat → Int32) (v_slots : Nat → Int32) (v_isKept : Nat → Int32) (v_undos : Int32) (v_seenPrefix : Nat → Int32) (v_seenLast : Nat → Int32) (v_seen : Int32) (v_previous : Int32) (v_gained : Nat → Int32) (v_gains : Int32) (v_decoded : Nat → Int32) (v_decodes : Int32) (v_readAt : Int32) (v_start : Int32) (v_kind : Int32) (v_word : Int64) (v_letters : Int32) (v_number : Int32) (v_fine : Int32) (v_text : Nat → Int32) (v_texted : Int32) (p0 : Int32) (sz : Nat) (z : Int32 × Int32 × (Nat → Int32) × (Nat → Int32) × (Nat → Int32) × Int32) (hJ : J_X8_restore fu v_thrown v_world v_aside v_undone v_slots v_isKept v_undos p0 = some z) : Met l yX8_restore wsX8_restore ({ frames := 2, cells := 0, slots := 0, locals := 43 }) (va_Pc [.ref (a 0), .int p0] (RWp dC dI sz (MWc a kI kB kZ v_tape v_taped v_errorAt v_thrown v_world v_aside v_undone v_slots v_isKept v_undos v_seenPrefix v_seenLast v_seen v_previous v_gained v_gains v_decoded v_decodes v_readAt v_start v_kind v_word v_letters v_number v_fine v_text v_texted) [(kI, .int), (kB, .byte), (kZ, .boolean)])) (rwQi dC dI (va_A (MWc a kI kB kZ v_tape v_taped v_errorAt v_thrown v_world v_aside v_undone v_slots v_isKept v_undos v_seenPrefix v_seenLast v_seen v_previous v_gained v_gains v_decoded v_decodes v_readAt v_start v_kind v_word v_letters v_number v_fine v_text v_texted) sz) (MWc a kI kB kZ v_tape v_taped v_errorAt z.2.1 z.2.2.1 z.2.2.2.1 z.2.2.2.2.1 v_slots v_isKept z.2.2.2.2.2 v_seenPrefix v_seenLast v_seen v_previous v_gained v_gains v_decoded v_decodes v_readAt v_start v_kind v_word v_letters v_number v_fine v_text v_texted) z.1) 0 0 (va_A (MWc a kI kB kZ v_tape v_taped v_errorAt v_thrown v_world v_aside v_undone v_slots v_isKept v_undos v_seenPrefix v_seenLast v_seen v_previous v_gained v_gains v_decoded v_decodes v_readAt v_start v_kind v_word v_letters v_number v_fine v_text v_texted) sz) := by
  refine rw_start (Qc := fun A => rwQi dC dI A (MWc a kI kB kZ v_tape v_taped v_errorAt z.2.1 z.2.2.1 z.2.2.2.1 z.2.2.2.2.1 v_slots v_isKept z.2.2.2.2.2 v_seenPrefix v_seenLast v_seen v_previous v_gained v_gains v_decoded v_decodes v_readAt v_start v_kind v_word v_letters v_number v_fine v_text v_texted) z.1) (cc := cX8_restore) (maxL := 3) (ret := (some .int)) (by decide) rfl (Nat.le_of_ble_eq_true rfl) ?_
  intro p e s m args below meth c hx hb hr hml hown hts hlocks hNW hK A hA H locs ls hP hD hS hl
  have hown : s.vm.findClass RX8 = some m.cls := hown
  have hl : lv_has ls 3 [(0, .ref (a 0)), (1, .int p0)] := hl
  unfold J_X8_restore at hJ
  have L34 : ∀ (n : Nat) (v_thrown : Int32) (v_world : Nat → Int32) (v_aside : Nat → Int32) (v_undone : Nat → Int32) (v_undos : Int32) (y1 : Int32) (y2 : Int32) (H : Heap) (locs : List Loc) (ls : Array Slot), va_P (dC, dI) vwCl (MWc a kI kB kZ v_tape v_taped v_errorAt v_thrown v_world v_aside v_undone v_slots v_isKept v_undos v_seenPrefix v_seenLast v_seen v_previous v_gained v_gains v_decoded v_decodes v_readAt v_start v_kind v_word v_letters v_number v_fine v_text v_texted) H → va_D A (MWc a kI kB kZ v_tape v_taped v_errorAt v_thrown v_world v_aside v_undone v_slots v_isKept v_undos v_seenPrefix v_seenLast v_seen v_previous v_gained v_gains v_decoded v_decodes v_readAt v_start v_kind v_word v_letters v_number v_fine v_text v_texted) → va_S A s.heap H locs → lv_has ls 3 [(0, .ref (a 0)), (1, .int y1), (2, .int y2)] → J_X8_restore_b34 fu v_slots v_isKept n v_thrown v_world v_aside v_undone v_undos y1 y2 = some z → W p l e ({ frames := 2, cells := 0, slots := 0, locals := 43 }) s m args below meth c H locs 0 0 (MQ below (rwQi dC dI A (MWc a kI kB kZ v_tape v_taped v_errorAt z.2.1 z.2.2.1 z.2.2.2.1 z.2.2.2.2.1 v_slots v_isKept z.2.2.2.2.2 v_seenPrefix v_seenLast v_seen v_previous v_gained v_gains v_decoded v_decodes v_readAt v_start v_kind v_word v_letters v_number v_fine v_text v_texted) z.1) args s 0 0 (A)) (F0 m 34 ls []) := by
    intro n
    induction n with
    | zero =>
      intro v_thrown v_world v_aside v_undone v_undos y1 y2 H locs ls hP hD hS hl hJ
      rw [J_X8_restore_b34] at hJ; cases hJ
    | succ n ih =>
      intro v_thrown v_world v_aside v_undone v_undos y1 y2 H locs ls hP hD hS hl hJ
      rw [J_X8_restore_b34] at hJ
      refine lv_iload_n hx hb dX8_restore_34 rfl (lv_at hl 2 rfl) ?_
      refine lv_sipush (v := 1726) hx hb dX8_restore_35 (by decide) ?_
      refine lv_icmp_ge (tgt := 65) hx hb dX8_restore_38 (by decide) (fun c13 => ?_) (fun c13 => ?_)
      · have hJ := ite_t c13 hJ
        refine lv_aload_n hx hb dX8_restore_65 rfl (lv_at hl 0 rfl) ?_
        refine lv_aload_n hx hb dX8_restore_66 rfl (lv_at hl 0 rfl) ?_
        refine va_get (D := (dC, dI)) (ci := 8) (v := .ref (a 2)) (C := RX8) (T := TX8) (N := 27) hx hb hts (fun _ h => List.mem_cons_of_mem _ (List.mem_append_right _ h)) hown hK hP 0 rfl rfl 4 (by decide) (hts _ (List.mem_of_getElem? (i := 2) rfl)) (fun _ h9 => h9) rfl dX8_restore_67 ?_
        refine lv_bipush (v := 6) hx hb dX8_restore_70 (by decide) ?_
        obtain ⟨z14, e15, hJ⟩ := bnd hJ
        refine rd_int (n := 1726) (f := v_world) hx hb hK hP 2 0 rfl rfl e15 dX8_restore_72 ?_
        obtain ⟨z16, e17, hJ⟩ := bnd hJ
        refine rwViW (As := [.int z14]) (rest := []) (ci := 8) (q0 := 0) hx hb hml hown hts (c_X8_changed fu l dC dI kI kB kZ a v_tape v_taped v_errorAt v_thrown v_world v_aside v_undone v_slots v_isKept v_undos v_seenPrefix v_seenLast v_seen v_previous v_gained v_gains v_decoded v_decodes v_readAt v_start v_kind v_word v_letters v_number v_fine v_text v_texted z14 H.size z16 e17) gX8_restore_X8_changed qX8_changed rfl ⟨Nat.le_of_ble_eq_true rfl, Nat.le_of_ble_eq_true rfl⟩ ⟨rfl, rfl⟩ hNW hK hP hD hS hA hK rfl rfl rfl hl.1 rfl rfl (Nat.le_of_ble_eq_true rfl) dX8_restore_73 z0 (fun H locs hP hD hS => ?_)
        obtain rfl := Option.some.inj hJ
        exact rw_iret hx hb hr hlocks rfl hP hD hS dX8_restore_76
      · have hJ := ite_f c13 hJ
        refine lv_aload_n hx hb dX8_restore_41 rfl (lv_at hl 0 rfl) ?_
        refine va_get (D := (dC, dI)) (ci := 8) (v := .ref (a 2)) (C := RX8) (T := TX8) (N := 27) hx hb hts (fun _ h => List.mem_cons_of_mem _ (List.mem_append_right _ h)) hown hK hP 0 rfl rfl 4 (by decide) (hts _ (List.mem_of_getElem? (i := 2) rfl)) (fun _ h9 => h9) rfl dX8_restore_42 ?_
        refine lv_iload_n hx hb dX8_restore_45 rfl (lv_at hl 2 rfl) ?_
        refine lv_aload_n hx hb dX8_restore_46 rfl (lv_at hl 0 rfl) ?_
        refine va_get (D := (dC, dI)) (ci := 8) (v := .ref (a 5)) (C := RX8) (T := TX8) (N := 27) hx hb hts (fun _ h => List.mem_cons_of_mem _ (List.mem_append_right _ h)) hown hK hP 0 rfl rfl 7 (by decide) (hts _ (List.mem_of_getElem? (i := 3) rfl)) (fun _ h9 => h9) rfl dX8_restore_47 ?_
        refine lv_sipush (v := 1726) hx hb dX8_restore_50 (by decide) ?_
        refine lv_iload_n hx hb dX8_restore_53 rfl (lv_at hl 1 rfl) ?_
        refine lv_imul hx hb dX8_restore_54 ?_
        refine lv_iload_n hx hb dX8_restore_55 rfl (lv_at hl 2 rfl) ?_
        refine lv_iadd hx hb dX8_restore_56 ?_
        obtain ⟨z18, e19, hJ⟩ := bnd hJ
        refine rd_int (n := 3452) (f := v_slots) hx hb hK hP 5 0 rfl rfl e19 dX8_restore_57 ?_
        obtain ⟨g20, e21, hJ⟩ := bnd hJ
        refine wr_int (n := 1726) (f := v_world) (x := z18) hx hb hK hP hD hS 2 0 rfl rfl e21 dX8_restore_58 (fun H locs hP hD hS => ?_)
        have hP : va_P (dC, dI) vwCl (MWc a kI kB kZ v_tape v_taped v_errorAt v_thrown g20 v_aside v_undone v_slots v_isKept v_undos v_seenPrefix v_seenLast v_seen v_previous v_gained v_gains v_decoded v_decodes v_readAt v_start v_kind v_word v_letters v_number v_fine v_text v_texted) H := hP
        have hD : va_D A (MWc a kI kB kZ v_tape v_taped v_errorAt v_thrown g20 v_aside v_undone v_slots v_isKept v_undos v_seenPrefix v_seenLast v_seen v_previous v_gained v_gains v_decoded v_decodes v_readAt v_start v_kind v_word v_letters v_number v_fine v_text v_texted) := hD
        refine lv_iinc (v := y2 + 1) (lv' := [(2, .int (y2 + 1)), (0, .ref (a 0)), (1, .int y1)]) hx hb dX8_restore_59 hl (k := 2) rfl rfl (by decide) rfl (fun ls hl => ?_)
        refine lv_goto (tgt := 34) hx hb dX8_restore_62 (by decide) ?_
        exact ih v_thrown g20 v_aside v_undone v_undos y1 (y2 + 1) H locs ls hP hD hS (lv_sub hl [1, 2, 0] rfl) hJ
  refine lv_iload_n hx hb dX8_restore_0 rfl (lv_at hl 1 rfl) ?_
  obtain ⟨z1, e2, hJ⟩ := bnd hJ
  refine roSi (As := [.int p0]) (rest := []) hx hb hml hown hts (c_X8_isSlot l dC dI p0 z1 e2) gX8_restore_X8_isSlot qX8_isSlot rfl ⟨Nat.le_of_ble_eq_true rfl, Nat.le_of_ble_eq_true rfl⟩ ⟨rfl, rfl⟩ hNW hK hP hS (hP.sub (ws' := []) [] rfl) (hK.sub (tys' := []) [] rfl) hl.1 rfl rfl (Nat.le_of_ble_eq_true rfl) dX8_restore_1 z0 (fun H locs hP hS => ?_)
  refine lv_if_ne (tgt := 13) hx hb dX8_restore_4 (by decide) (fun c3 => ?_) (fun c3 => ?_)
  · have hJ := ite_f c3 hJ
    refine lv_aload_n hx hb dX8_restore_13 rfl (lv_at hl 0 rfl) ?_
    refine va_get (D := (dC, dI)) (ci := 8) (v := .ref (a 6)) (C := RX8) (T := TX8) (N := 27) hx hb hts (fun _ h => List.mem_cons_of_mem _ (List.mem_append_right _ h)) hown hK hP 0 rfl rfl 8 (by decide) (hts _ (List.mem_of_getElem? (i := 1) rfl)) (fun _ h9 => h9) rfl dX8_restore_14 ?_
    refine lv_iload_n hx hb dX8_restore_17 rfl (lv_at hl 1 rfl) ?_
    obtain ⟨z4, e5, hJ⟩ := bnd hJ
    refine rd_boolean (n := 2) (f := v_isKept) hx hb hK hP 6 2 rfl rfl e5 dX8_restore_18 ?_
    refine lv_if_ne (tgt := 28) hx hb dX8_restore_19 (by decide) (fun c6 => ?_) (fun c6 => ?_)
    · have hJ := ite_f c6 hJ
      refine lv_aload_n hx hb dX8_restore_28 rfl (lv_at hl 0 rfl) ?_
      obtain ⟨z7, e8, hJ⟩ := bnd hJ
      refine rwVvW (As := []) (rest := []) (ci := 8) (q0 := 0) hx hb hml hown hts (c_X8_keepsAside fu l dC dI kI kB kZ a v_tape v_taped v_errorAt v_thrown v_world v_aside v_undone v_slots v_isKept v_undos v_seenPrefix v_seenLast v_seen v_previous v_gained v_gains v_decoded v_decodes v_readAt v_start v_kind v_word v_letters v_number v_fine v_text v_texted H.size z7 e8) gX8_restore_X8_keepsAside qX8_keepsAside rfl ⟨Nat.le_of_ble_eq_true rfl, Nat.le_of_ble_eq_true rfl⟩ ⟨rfl, rfl⟩ hNW hK hP hD hS hA hK rfl rfl rfl hl.1 rfl rfl (Nat.le_of_ble_eq_true rfl) dX8_restore_29 z0 (fun H locs hP hD hS => ?_)
      refine lv_iconst (v := 0) hx hb dX8_restore_32 (by decide) ?_
      refine lv_istore_n (lv' := [(2, .int (0 : Int32)), (0, .ref (a 0)), (1, .int p0)]) hx hb dX8_restore_33 rfl hl (by decide) rfl (fun ls hl => ?_)
      exact L34 fu v_thrown v_world z7 v_undone v_undos p0 (0 : Int32) H locs ls hP hD hS (lv_sub hl [1, 2, 0] rfl) hJ
    · have hJ := ite_t c6 hJ
      refine lv_aload_n hx hb dX8_restore_22 rfl (lv_at hl 0 rfl) ?_
      refine lv_iconst (v := 2) hx hb dX8_restore_23 (by decide) ?_
      obtain ⟨z9, e10, hJ⟩ := bnd hJ
      refine rwViW (As := [.int (2 : Int32)]) (rest := []) (ci := 8) (q0 := 0) hx hb hml hown hts (c_X8_throwing l dC dI kI kB kZ a v_tape v_taped v_errorAt v_thrown v_world v_aside v_undone v_slots v_isKept v_undos v_seenPrefix v_seenLast v_seen v_previous v_gained v_gains v_decoded v_decodes v_readAt v_start v_kind v_word v_letters v_number v_fine v_text v_texted (2 : Int32) H.size z9 e10) gX8_restore_X8_throwing qX8_throwing rfl ⟨Nat.le_of_ble_eq_true rfl, Nat.le_of_ble_eq_true rfl⟩ ⟨rfl, rfl⟩ hNW hK hP hD hS hA hK rfl rfl rfl hl.1 rfl rfl (Nat.le_of_ble_eq_true rfl) dX8_restore_24 z0 (fun H locs hP hD hS => ?_)
      obtain rfl := Option.some.inj hJ
      exact rw_iret hx hb hr hlocks rfl hP hD hS dX8_restore_27
  · have hJ := ite_t c3 hJ
    refine lv_aload_n hx hb dX8_restore_7 rfl (lv_at hl 0 rfl) ?_
    refine lv_iconst (v := 1) hx hb dX8_restore_8 (by decide) ?_
    obtain ⟨z11, e12, hJ⟩ := bnd hJ
    refine rwViW (As := [.int (1 : Int32)]) (rest := []) (ci := 8) (q0 := 0) hx hb hml hown hts (c_X8_throwing l dC dI kI kB kZ a v_tape v_taped v_errorAt v_thrown v_world v_aside v_undone v_slots v_isKept v_undos v_seenPrefix v_seenLast v_seen v_previous v_gained v_gains v_decoded v_decodes v_readAt v_start v_kind v_word v_letters v_number v_fine v_text v_texted (1 : Int32) H.size z11 e12) gX8_restore_X8_throwing qX8_throwing rfl ⟨Nat.le_of_ble_eq_true rfl, Nat.le_of_ble_eq_true rfl⟩ ⟨rfl, rfl⟩ hNW hK hP hD hS hA hK rfl rfl rfl hl.1 rfl rfl (Nat.le_of_ble_eq_true rfl) dX8_restore_9 z0 (fun H locs hP hD hS => ?_)
    obtain rfl := Option.some.inj hJ
    exact rw_iret hx hb hr hlocks rfl hP hD hS dX8_restore_12
theorem qX8_bitsFor : (yX8_bitsFor.cls = RX8) ∧ yX8_bitsFor.cls ≠ "java/lang/invoke/MethodHandle" ∧ yX8_bitsFor.cls ≠ "java/lang/invoke/VarHandle" ∧ (parseMethodDescriptor yX8_bitsFor.desc).map (fun d => d.parameters.length) = some 1 := by decide +kernel
set_option maxHeartbeats 4000000 in
set_option maxRecDepth 100000 in
theorem c_X8_bitsFor (fu : Nat) (l : Launch) (dC : Nat → ClassId) (dI : Nat → Nat → Nat) (p0 : Int32) (z : Int32) (hJ : J_X8_bitsFor fu p0 = some z) : Met l yX8_bitsFor wsX8_bitsFor ({ frames := 0, cells := 0, slots := 0, locals := 0 }) (va_Pc [.int p0] (ROp dC dI ([]) [])) (roQi z) 0 0 (fun _ => False) := by
  refine ro_start (cc := cX8_bitsFor) (maxL := 2) (ret := (some .int)) (by decide) rfl (Nat.le_of_ble_eq_true rfl) ?_
  intro p e s m args below meth c hx hb hr hml hown hts hlocks hNW hK H locs ls hP hS hl
  have hown : s.vm.findClass RX8 = some m.cls := hown
  have hl : lv_has ls 2 [(0, .int p0)] := hl
  unfold J_X8_bitsFor at hJ
  have L2 : ∀ (n : Nat) (y0 : Int32) (y1 : Int32) (H : Heap) (locs : List Loc) (ls : Array Slot), va_P (dC, dI) vwCl ([]) H → va_S (fun _ => False) s.heap H locs → lv_has ls 2 [(0, .int y0), (1, .int y1)] → J_X8_bitsFor_b2 fu n y0 y1 = some z → W p l e ({ frames := 0, cells := 0, slots := 0, locals := 0 }) s m args below meth c H locs 0 0 (MQ below (roQi z) args s 0 0 (fun _ => False)) (F0 m 2 ls []) := by
    intro n
    induction n with
    | zero =>
      intro y0 y1 H locs ls hP hS hl hJ
      rw [J_X8_bitsFor_b2] at hJ; cases hJ
    | succ n ih =>
      intro y0 y1 H locs ls hP hS hl hJ
      rw [J_X8_bitsFor_b2] at hJ
      refine lv_iconst (v := 1) hx hb dX8_bitsFor_2 (by decide) ?_
      refine lv_iload_n hx hb dX8_bitsFor_3 rfl (lv_at hl 1 rfl) ?_
      refine lv_ishl hx hb dX8_bitsFor_4 ?_
      refine lv_iload_n hx hb dX8_bitsFor_5 rfl (lv_at hl 0 rfl) ?_
      refine lv_icmp_ge (tgt := 15) hx hb dX8_bitsFor_6 (by decide) (fun c1 => ?_) (fun c1 => ?_)
      · have hJ := ite_t c1 hJ
        refine lv_iload_n hx hb dX8_bitsFor_15 rfl (lv_at hl 1 rfl) ?_
        exact ro_iret hx hb hr hlocks hS hJ dX8_bitsFor_16
      · have hJ := ite_f c1 hJ
        refine lv_iinc (v := y1 + 1) (lv' := [(1, .int (y1 + 1)), (0, .int y0)]) hx hb dX8_bitsFor_9 hl (k := 1) rfl rfl (by decide) rfl (fun ls hl => ?_)
        refine lv_goto (tgt := 2) hx hb dX8_bitsFor_12 (by decide) ?_
        exact ih y0 (y1 + 1) H locs ls hP hS (lv_sub hl [1, 0] rfl) hJ
  refine lv_iconst (v := 1) hx hb dX8_bitsFor_0 (by decide) ?_
  refine lv_istore_n (lv' := [(1, .int (1 : Int32)), (0, .int p0)]) hx hb dX8_bitsFor_1 rfl hl (by decide) rfl (fun ls hl => ?_)
  exact L2 fu p0 (1 : Int32) H locs ls hP hS (lv_sub hl [1, 0] rfl) hJ
theorem qX8_mostCodes : (yX8_mostCodes.cls = RX8) ∧ yX8_mostCodes.cls ≠ "java/lang/invoke/MethodHandle" ∧ yX8_mostCodes.cls ≠ "java/lang/invoke/VarHandle" ∧ (parseMethodDescriptor yX8_mostCodes.desc).map (fun d => d.parameters.length) = some 0 := by decide +kernel
set_option maxHeartbeats 4000000 in
set_option maxRecDepth 100000 in
theorem c_X8_mostCodes (l : Launch) (dC : Nat → ClassId) (dI : Nat → Nat → Nat) (kI kB kZ : ClassId) (a : Nat → Nat) (v_tape : Nat → Int32) (v_taped : Int32) (v_errorAt : Int32) (v_thrown : Int32) (v_world : Nat → Int32) (v_aside : Nat → Int32) (v_undone : Nat → Int32) (v_slots : Nat → Int32) (v_isKept : Nat → Int32) (v_undos : Int32) (v_seenPrefix : Nat → Int32) (v_seenLast : Nat → Int32) (v_seen : Int32) (v_previous : Int32) (v_gained : Nat → Int32) (v_gains : Int32) (v_decoded : Nat → Int32) (v_decodes : Int32) (v_readAt : Int32) (v_start : Int32) (v_kind : Int32) (v_word : Int64) (v_letters : Int32) (v_number : Int32) (v_fine : Int32) (v_text : Nat → Int32) (v_texted : Int32) (z : Int32) (hJ : J_X8_mostCodes v_world = some z) : Met l yX8_mostCodes wsX8_mostCodes ({ frames := 0, cells := 0, slots := 0, locals := 0 }) (va_Pc [.ref (a 0)] (ROp dC dI (MWc a kI kB kZ v_tape v_taped v_errorAt v_thrown v_world v_aside v_undone v_slots v_isKept v_undos v_seenPrefix v_seenLast v_seen v_previous v_gained v_gains v_decoded v_decodes v_readAt v_start v_kind v_word v_letters v_number v_fine v_text v_texted) [(kI, .int), (kB, .byte), (kZ, .boolean)])) (roQi z) 0 0 (fun _ => False) := by
  refine ro_start (cc := cX8_mostCodes) (maxL := 1) (ret := (some .int)) (by decide) rfl (Nat.le_of_ble_eq_true rfl) ?_
  intro p e s m args below meth c hx hb hr hml hown hts hlocks hNW hK H locs ls hP hS hl
  have hown : s.vm.findClass RX8 = some m.cls := hown
  have hl : lv_has ls 1 [(0, .ref (a 0))] := hl
  unfold J_X8_mostCodes at hJ
  refine lv_iconst (v := 1) hx hb dX8_mostCodes_0 (by decide) ?_
  refine lv_aload_n hx hb dX8_mostCodes_1 rfl (lv_at hl 0 rfl) ?_
  refine va_get (D := (dC, dI)) (ci := 8) (v := .ref (a 2)) (C := RX8) (T := TX8) (N := 27) hx hb hts (fun _ h => List.mem_cons_of_mem _ (List.mem_append_right _ h)) hown hK hP 0 rfl rfl 4 (by decide) (hts _ (List.mem_of_getElem? (i := 1) rfl)) (fun _ h9 => h9) rfl dX8_mostCodes_2 ?_
  refine lv_iconst (v := 1) hx hb dX8_mostCodes_5 (by decide) ?_
  obtain ⟨z1, e2, hJ⟩ := bnd hJ
  refine rd_int (n := 1726) (f := v_world) hx hb hK hP 2 0 rfl rfl e2 dX8_mostCodes_6 ?_
  refine lv_ishl hx hb dX8_mostCodes_7 ?_
  exact ro_iret hx hb hr hlocks hS hJ dX8_mostCodes_8
theorem qX8_isAllFull : (yX8_isAllFull.cls = RX8) ∧ yX8_isAllFull.cls ≠ "java/lang/invoke/MethodHandle" ∧ yX8_isAllFull.cls ≠ "java/lang/invoke/VarHandle" ∧ (parseMethodDescriptor yX8_isAllFull.desc).map (fun d => d.parameters.length) = some 0 := by decide +kernel
set_option maxHeartbeats 4000000 in
set_option maxRecDepth 100000 in
theorem c_X8_isAllFull (l : Launch) (dC : Nat → ClassId) (dI : Nat → Nat → Nat) (kI kB kZ : ClassId) (a : Nat → Nat) (v_tape : Nat → Int32) (v_taped : Int32) (v_errorAt : Int32) (v_thrown : Int32) (v_world : Nat → Int32) (v_aside : Nat → Int32) (v_undone : Nat → Int32) (v_slots : Nat → Int32) (v_isKept : Nat → Int32) (v_undos : Int32) (v_seenPrefix : Nat → Int32) (v_seenLast : Nat → Int32) (v_seen : Int32) (v_previous : Int32) (v_gained : Nat → Int32) (v_gains : Int32) (v_decoded : Nat → Int32) (v_decodes : Int32) (v_readAt : Int32) (v_start : Int32) (v_kind : Int32) (v_word : Int64) (v_letters : Int32) (v_number : Int32) (v_fine : Int32) (v_text : Nat → Int32) (v_texted : Int32) (z : Int32) (hJ : J_X8_isAllFull v_world = some z) : Met l yX8_isAllFull wsX8_isAllFull ({ frames := 1, cells := 0, slots := 0, locals := 20 }) (va_Pc [.ref (a 0)] (ROp dC dI (MWc a kI kB kZ v_tape v_taped v_errorAt v_thrown v_world v_aside v_undone v_slots v_isKept v_undos v_seenPrefix v_seenLast v_seen v_previous v_gained v_gains v_decoded v_decodes v_readAt v_start v_kind v_word v_letters v_number v_fine v_text v_texted) [(kI, .int), (kB, .byte), (kZ, .boolean)])) (roQi z) 0 0 (fun _ => False) := by
  refine ro_start (cc := cX8_isAllFull) (maxL := 1) (ret := (some .boolean)) (by decide) rfl (Nat.le_of_ble_eq_true rfl) ?_
  intro p e s m args below meth c hx hb hr hml hown hts hlocks hNW hK H locs ls hP hS hl
  have hown : s.vm.findClass RX8 = some m.cls := hown
  have hl : lv_has ls 1 [(0, .ref (a 0))] := hl
  unfold J_X8_isAllFull at hJ
  refine lv_aload_n hx hb dX8_isAllFull_0 rfl (lv_at hl 0 rfl) ?_
  refine va_get (D := (dC, dI)) (ci := 8) (v := .ref (a 2)) (C := RX8) (T := TX8) (N := 27) hx hb hts (fun _ h => List.mem_cons_of_mem _ (List.mem_append_right _ h)) hown hK hP 0 rfl rfl 4 (by decide) (hts _ (List.mem_of_getElem? (i := 1) rfl)) (fun _ h9 => h9) rfl dX8_isAllFull_1 ?_
  refine lv_iconst (v := 4) hx hb dX8_isAllFull_4 (by decide) ?_
  obtain ⟨z1, e2, hJ⟩ := bnd hJ
  refine rd_int (n := 1726) (f := v_world) hx hb hK hP 2 0 rfl rfl e2 dX8_isAllFull_5 ?_
  refine lv_aload_n hx hb dX8_isAllFull_6 rfl (lv_at hl 0 rfl) ?_
  obtain ⟨z3, e4, hJ⟩ := bnd hJ
  refine roVi (As := []) (rest := [.int z1]) (ci := 8) (q0 := 0) hx hb hml hown hts (c_X8_mostCodes l dC dI kI kB kZ a v_tape v_taped v_errorAt v_thrown v_world v_aside v_undone v_slots v_isKept v_undos v_seenPrefix v_seenLast v_seen v_previous v_gained v_gains v_decoded v_decodes v_readAt v_start v_kind v_word v_letters v_number v_fine v_text v_texted z3 e4) gX8_isAllFull_X8_mostCodes qX8_mostCodes rfl ⟨Nat.le_of_ble_eq_true rfl, Nat.le_of_ble_eq_true rfl⟩ ⟨rfl, rfl⟩ hNW hK hP hS hP hK rfl rfl rfl hl.1 rfl rfl (Nat.le_of_ble_eq_true rfl) dX8_isAllFull_7 z0 (fun H locs hP hS => ?_)
  refine lv_icmp_ne (tgt := 17) hx hb dX8_isAllFull_10 (by decide) (fun c5 => ?_) (fun c5 => ?_)
  · have hJ := ite_f c5 hJ
    refine lv_iconst (v := 0) hx hb dX8_isAllFull_17 (by decide) ?_
    exact ro_zret hx hb hr hlocks rfl hS hJ dX8_isAllFull_18
  · have hJ := ite_t c5 hJ
    refine lv_iconst (v := 1) hx hb dX8_isAllFull_13 (by decide) ?_
    refine lv_goto (tgt := 18) hx hb dX8_isAllFull_14 (by decide) ?_
    exact ro_zret hx hb hr hlocks rfl hS hJ dX8_isAllFull_18
theorem qX8_isSymbol : (yX8_isSymbol.cls = RX8) ∧ yX8_isSymbol.cls ≠ "java/lang/invoke/MethodHandle" ∧ yX8_isSymbol.cls ≠ "java/lang/invoke/VarHandle" ∧ (parseMethodDescriptor yX8_isSymbol.desc).map (fun d => d.parameters.length) = some 1 := by decide +kernel
set_option maxHeartbeats 4000000 in
set_option maxRecDepth 100000 in
theorem c_X8_isSymbol (l : Launch) (dC : Nat → ClassId) (dI : Nat → Nat → Nat) (kI kB kZ : ClassId) (a : Nat → Nat) (v_tape : Nat → Int32) (v_taped : Int32) (v_errorAt : Int32) (v_thrown : Int32) (v_world : Nat → Int32) (v_aside : Nat → Int32) (v_undone : Nat → Int32) (v_slots : Nat → Int32) (v_isKept : Nat → Int32) (v_undos : Int32) (v_seenPrefix : Nat → Int32) (v_seenLast : Nat → Int32) (v_seen : Int32) (v_previous : Int32) (v_gained : Nat → Int32) (v_gains : Int32) (v_decoded : Nat → Int32) (v_decodes : Int32) (v_readAt : Int32) (v_start : Int32) (v_kind : Int32) (v_word : Int64) (v_letters : Int32) (v_number : Int32) (v_fine : Int32) (v_text : Nat → Int32) (v_texted : Int32) (p0 : Int32) (z : Int32) (hJ : J_X8_isSymbol v_world p0 = some z) : Met l yX8_isSymbol wsX8_isSymbol ({ frames := 1, cells := 0, slots := 0, locals := 22 }) (va_Pc [.ref (a 0), .int p0] (ROp dC dI (MWc a kI kB kZ v_tape v_taped v_errorAt v_thrown v_world v_aside v_undone v_slots v_isKept v_undos v_seenPrefix v_seenLast v_seen v_previous v_gained v_gains v_decoded v_decodes v_readAt v_start v_kind v_word v_letters v_number v_fine v_text v_texted) [(kI, .int), (kB, .byte), (kZ, .boolean)])) (roQi z) 0 0 (fun _ => False) := by
  refine ro_start (cc := cX8_isSymbol) (maxL := 2) (ret := (some .boolean)) (by decide) rfl (Nat.le_of_ble_eq_true rfl) ?_
  intro p e s m args below meth c hx hb hr hml hown hts hlocks hNW hK H locs ls hP hS hl
  have hown : s.vm.findClass RX8 = some m.cls := hown
  have hl : lv_has ls 2 [(0, .ref (a 0)), (1, .int p0)] := hl
  unfold J_X8_isSymbol at hJ
  refine lv_iload_n hx hb dX8_isSymbol_0 rfl (lv_at hl 1 rfl) ?_
  refine lv_iconst (v := 0) hx hb dX8_isSymbol_1 (by decide) ?_
  refine lv_aload_n hx hb dX8_isSymbol_2 rfl (lv_at hl 0 rfl) ?_
  refine va_get (D := (dC, dI)) (ci := 8) (v := .ref (a 2)) (C := RX8) (T := TX8) (N := 27) hx hb hts (fun _ h => List.mem_cons_of_mem _ (List.mem_append_right _ h)) hown hK hP 0 rfl rfl 4 (by decide) (hts _ (List.mem_of_getElem? (i := 1) rfl)) (fun _ h9 => h9) rfl dX8_isSymbol_3 ?_
  refine lv_iconst (v := 0) hx hb dX8_isSymbol_6 (by decide) ?_
  obtain ⟨z1, e2, hJ⟩ := bnd hJ
  refine rd_int (n := 1726) (f := v_world) hx hb hK hP 2 0 rfl rfl e2 dX8_isSymbol_7 ?_
  refine lv_iconst (v := 1) hx hb dX8_isSymbol_8 (by decide) ?_
  refine lv_isub hx hb dX8_isSymbol_9 ?_
  obtain ⟨z3, e4, hJ⟩ := bnd hJ
  refine roSi (As := [.int p0, .int (0 : Int32), .int (z1 - (1 : Int32))]) (rest := []) hx hb hml hown hts (c_X8_in l dC dI p0 (0 : Int32) (z1 - (1 : Int32)) z3 e4) gX8_isSymbol_X8_in qX8_in rfl ⟨Nat.le_of_ble_eq_true rfl, Nat.le_of_ble_eq_true rfl⟩ ⟨rfl, rfl⟩ hNW hK hP hS (hP.sub (ws' := []) [] rfl) (hK.sub (tys' := []) [] rfl) hl.1 rfl rfl (Nat.le_of_ble_eq_true rfl) dX8_isSymbol_10 z0 (fun H locs hP hS => ?_)
  obtain ⟨h5, hJ⟩ := ite_some hJ
  exact ro_zret hx hb hr hlocks (nar_z h5) hS hJ dX8_isSymbol_13
theorem qX8_isCode : (yX8_isCode.cls = RX8) ∧ yX8_isCode.cls ≠ "java/lang/invoke/MethodHandle" ∧ yX8_isCode.cls ≠ "java/lang/invoke/VarHandle" ∧ (parseMethodDescriptor yX8_isCode.desc).map (fun d => d.parameters.length) = some 1 := by decide +kernel
set_option maxHeartbeats 4000000 in
set_option maxRecDepth 100000 in
theorem c_X8_isCode (l : Launch) (dC : Nat → ClassId) (dI : Nat → Nat → Nat) (kI kB kZ : ClassId) (a : Nat → Nat) (v_tape : Nat → Int32) (v_taped : Int32) (v_errorAt : Int32) (v_thrown : Int32) (v_world : Nat → Int32) (v_aside : Nat → Int32) (v_undone : Nat → Int32) (v_slots : Nat → Int32) (v_isKept : Nat → Int32) (v_undos : Int32) (v_seenPrefix : Nat → Int32) (v_seenLast : Nat → Int32) (v_seen : Int32) (v_previous : Int32) (v_gained : Nat → Int32) (v_gains : Int32) (v_decoded : Nat → Int32) (v_decodes : Int32) (v_readAt : Int32) (v_start : Int32) (v_kind : Int32) (v_word : Int64) (v_letters : Int32) (v_number : Int32) (v_fine : Int32) (v_text : Nat → Int32) (v_texted : Int32) (p0 : Int32) (z : Int32) (hJ : J_X8_isCode v_world p0 = some z) : Met l yX8_isCode wsX8_isCode ({ frames := 1, cells := 0, slots := 0, locals := 22 }) (va_Pc [.ref (a 0), .int p0] (ROp dC dI (MWc a kI kB kZ v_tape v_taped v_errorAt v_thrown v_world v_aside v_undone v_slots v_isKept v_undos v_seenPrefix v_seenLast v_seen v_previous v_gained v_gains v_decoded v_decodes v_readAt v_start v_kind v_word v_letters v_number v_fine v_text v_texted) [(kI, .int), (kB, .byte), (kZ, .boolean)])) (roQi z) 0 0 (fun _ => False) := by
  refine ro_start (cc := cX8_isCode) (maxL := 2) (ret := (some .boolean)) (by decide) rfl (Nat.le_of_ble_eq_true rfl) ?_
  intro p e s m args below meth c hx hb hr hml hown hts hlocks hNW hK H locs ls hP hS hl
  have hown : s.vm.findClass RX8 = some m.cls := hown
  have hl : lv_has ls 2 [(0, .ref (a 0)), (1, .int p0)] := hl
  unfold J_X8_isCode at hJ
  refine lv_iload_n hx hb dX8_isCode_0 rfl (lv_at hl 1 rfl) ?_
  refine lv_iconst (v := 0) hx hb dX8_isCode_1 (by decide) ?_
  refine lv_aload_n hx hb dX8_isCode_2 rfl (lv_at hl 0 rfl) ?_
  refine va_get (D := (dC, dI)) (ci := 8) (v := .ref (a 2)) (C := RX8) (T := TX8) (N := 27) hx hb hts (fun _ h => List.mem_cons_of_mem _ (List.mem_append_right _ h)) hown hK hP 0 rfl rfl 4 (by decide) (hts _ (List.mem_of_getElem? (i := 1) rfl)) (fun _ h9 => h9) rfl dX8_isCode_3 ?_
  refine lv_iconst (v := 4) hx hb dX8_isCode_6 (by decide) ?_
  obtain ⟨z1, e2, hJ⟩ := bnd hJ
  refine rd_int (n := 1726) (f := v_world) hx hb hK hP 2 0 rfl rfl e2 dX8_isCode_7 ?_
  refine lv_iconst (v := 1) hx hb dX8_isCode_8 (by decide) ?_
  refine lv_isub hx hb dX8_isCode_9 ?_
  obtain ⟨z3, e4, hJ⟩ := bnd hJ
  refine roSi (As := [.int p0, .int (0 : Int32), .int (z1 - (1 : Int32))]) (rest := []) hx hb hml hown hts (c_X8_in l dC dI p0 (0 : Int32) (z1 - (1 : Int32)) z3 e4) gX8_isCode_X8_in qX8_in rfl ⟨Nat.le_of_ble_eq_true rfl, Nat.le_of_ble_eq_true rfl⟩ ⟨rfl, rfl⟩ hNW hK hP hS (hP.sub (ws' := []) [] rfl) (hK.sub (tys' := []) [] rfl) hl.1 rfl rfl (Nat.le_of_ble_eq_true rfl) dX8_isCode_10 z0 (fun H locs hP hS => ?_)
  obtain ⟨h5, hJ⟩ := ite_some hJ
  exact ro_zret hx hb hr hlocks (nar_z h5) hS hJ dX8_isCode_13
theorem qX8_clear : (yX8_clear.cls = RX8) ∧ yX8_clear.cls ≠ "java/lang/invoke/MethodHandle" ∧ yX8_clear.cls ≠ "java/lang/invoke/VarHandle" ∧ (parseMethodDescriptor yX8_clear.desc).map (fun d => d.parameters.length) = some 0 := by decide +kernel
set_option maxHeartbeats 4000000 in
set_option maxRecDepth 100000 in
theorem c_X8_clear (l : Launch) (dC : Nat → ClassId) (dI : Nat → Nat → Nat) (kI kB kZ : ClassId) (a : Nat → Nat) (v_tape : Nat → Int32) (v_taped : Int32) (v_errorAt : Int32) (v_thrown : Int32) (v_world : Nat → Int32) (v_aside : Nat → Int32) (v_undone : Nat → Int32) (v_slots : Nat → Int32) (v_isKept : Nat → Int32) (v_undos : Int32) (v_seenPrefix : Nat → Int32) (v_seenLast : Nat → Int32) (v_seen : Int32) (v_previous : Int32) (v_gained : Nat → Int32) (v_gains : Int32) (v_decoded : Nat → Int32) (v_decodes : Int32) (v_readAt : Int32) (v_start : Int32) (v_kind : Int32) (v_word : Int64) (v_letters : Int32) (v_number : Int32) (v_fine : Int32) (v_text : Nat → Int32) (v_texted : Int32) (z : Int32) (hJ : J_X8_clear v_world = some z) : Met l yX8_clear wsX8_clear ({ frames := 0, cells := 0, slots := 0, locals := 0 }) (va_Pc [.ref (a 0)] (ROp dC dI (MWc a kI kB kZ v_tape v_taped v_errorAt v_thrown v_world v_aside v_undone v_slots v_isKept v_undos v_seenPrefix v_seenLast v_seen v_previous v_gained v_gains v_decoded v_decodes v_readAt v_start v_kind v_word v_letters v_number v_fine v_text v_texted) [(kI, .int), (kB, .byte), (kZ, .boolean)])) (roQi z) 0 0 (fun _ => False) := by
  refine ro_start (cc := cX8_clear) (maxL := 1) (ret := (some .int)) (by decide) rfl (Nat.le_of_ble_eq_true rfl) ?_
  intro p e s m args below meth c hx hb hr hml hown hts hlocks hNW hK H locs ls hP hS hl
  have hown : s.vm.findClass RX8 = some m.cls := hown
  have hl : lv_has ls 1 [(0, .ref (a 0))] := hl
  unfold J_X8_clear at hJ
  refine lv_aload_n hx hb dX8_clear_0 rfl (lv_at hl 0 rfl) ?_
  refine va_get (D := (dC, dI)) (ci := 8) (v := .ref (a 2)) (C := RX8) (T := TX8) (N := 27) hx hb hts (fun _ h => List.mem_cons_of_mem _ (List.mem_append_right _ h)) hown hK hP 0 rfl rfl 4 (by decide) (hts _ (List.mem_of_getElem? (i := 1) rfl)) (fun _ h9 => h9) rfl dX8_clear_1 ?_
  refine lv_iconst (v := 0) hx hb dX8_clear_4 (by decide) ?_
  obtain ⟨z1, e2, hJ⟩ := bnd hJ
  refine rd_int (n := 1726) (f := v_world) hx hb hK hP 2 0 rfl rfl e2 dX8_clear_5 ?_
  exact ro_iret hx hb hr hlocks hS hJ dX8_clear_6
theorem qX8_clearsAll : (yX8_clearsAll.cls = RX8) ∧ yX8_clearsAll.cls ≠ "java/lang/invoke/MethodHandle" ∧ yX8_clearsAll.cls ≠ "java/lang/invoke/VarHandle" ∧ (parseMethodDescriptor yX8_clearsAll.desc).map (fun d => d.parameters.length) = some 0 := by decide +kernel
set_option maxHeartbeats 4000000 in
set_option maxRecDepth 100000 in
theorem c_X8_clearsAll (l : Launch) (dC : Nat → ClassId) (dI : Nat → Nat → Nat) (kI kB kZ : ClassId) (a : Nat → Nat) (v_tape : Nat → Int32) (v_taped : Int32) (v_errorAt : Int32) (v_thrown : Int32) (v_world : Nat → Int32) (v_aside : Nat → Int32) (v_undone : Nat → Int32) (v_slots : Nat → Int32) (v_isKept : Nat → Int32) (v_undos : Int32) (v_seenPrefix : Nat → Int32) (v_seenLast : Nat → Int32) (v_seen : Int32) (v_previous : Int32) (v_gained : Nat → Int32) (v_gains : Int32) (v_decoded : Nat → Int32) (v_decodes : Int32) (v_readAt : Int32) (v_start : Int32) (v_kind : Int32) (v_word : Int64) (v_letters : Int32) (v_number : Int32) (v_fine : Int32) (v_text : Nat → Int32) (v_texted : Int32) (sz : Nat) (z : (Nat → Int32)) (hJ : J_X8_clearsAll v_world = some z) : Met l yX8_clearsAll wsX8_clearsAll ({ frames := 0, cells := 0, slots := 0, locals := 0 }) (va_Pc [.ref (a 0)] (RWp dC dI sz (MWc a kI kB kZ v_tape v_taped v_errorAt v_thrown v_world v_aside v_undone v_slots v_isKept v_undos v_seenPrefix v_seenLast v_seen v_previous v_gained v_gains v_decoded v_decodes v_readAt v_start v_kind v_word v_letters v_number v_fine v_text v_texted) [(kI, .int), (kB, .byte), (kZ, .boolean)])) (rwQv dC dI (va_A (MWc a kI kB kZ v_tape v_taped v_errorAt v_thrown v_world v_aside v_undone v_slots v_isKept v_undos v_seenPrefix v_seenLast v_seen v_previous v_gained v_gains v_decoded v_decodes v_readAt v_start v_kind v_word v_letters v_number v_fine v_text v_texted) sz) (MWc a kI kB kZ v_tape v_taped v_errorAt v_thrown z v_aside v_undone v_slots v_isKept v_undos v_seenPrefix v_seenLast v_seen v_previous v_gained v_gains v_decoded v_decodes v_readAt v_start v_kind v_word v_letters v_number v_fine v_text v_texted)) 0 0 (va_A (MWc a kI kB kZ v_tape v_taped v_errorAt v_thrown v_world v_aside v_undone v_slots v_isKept v_undos v_seenPrefix v_seenLast v_seen v_previous v_gained v_gains v_decoded v_decodes v_readAt v_start v_kind v_word v_letters v_number v_fine v_text v_texted) sz) := by
  refine rw_start (Qc := fun A => rwQv dC dI A (MWc a kI kB kZ v_tape v_taped v_errorAt v_thrown z v_aside v_undone v_slots v_isKept v_undos v_seenPrefix v_seenLast v_seen v_previous v_gained v_gains v_decoded v_decodes v_readAt v_start v_kind v_word v_letters v_number v_fine v_text v_texted)) (cc := cX8_clearsAll) (maxL := 1) (ret := none) (by decide) rfl (Nat.le_of_ble_eq_true rfl) ?_
  intro p e s m args below meth c hx hb hr hml hown hts hlocks hNW hK A hA H locs ls hP hD hS hl
  have hown : s.vm.findClass RX8 = some m.cls := hown
  have hl : lv_has ls 1 [(0, .ref (a 0))] := hl
  unfold J_X8_clearsAll at hJ
  refine lv_aload_n hx hb dX8_clearsAll_0 rfl (lv_at hl 0 rfl) ?_
  refine va_get (D := (dC, dI)) (ci := 8) (v := .ref (a 2)) (C := RX8) (T := TX8) (N := 27) hx hb hts (fun _ h => List.mem_cons_of_mem _ (List.mem_append_right _ h)) hown hK hP 0 rfl rfl 4 (by decide) (hts _ (List.mem_of_getElem? (i := 1) rfl)) (fun _ h9 => h9) rfl dX8_clearsAll_1 ?_
  refine lv_iconst (v := 4) hx hb dX8_clearsAll_4 (by decide) ?_
  refine lv_aload_n hx hb dX8_clearsAll_5 rfl (lv_at hl 0 rfl) ?_
  refine va_get (D := (dC, dI)) (ci := 8) (v := .ref (a 2)) (C := RX8) (T := TX8) (N := 27) hx hb hts (fun _ h => List.mem_cons_of_mem _ (List.mem_append_right _ h)) hown hK hP 0 rfl rfl 4 (by decide) (hts _ (List.mem_of_getElem? (i := 1) rfl)) (fun _ h9 => h9) rfl dX8_clearsAll_6 ?_
  refine lv_iconst (v := 0) hx hb dX8_clearsAll_9 (by decide) ?_
  obtain ⟨z1, e2, hJ⟩ := bnd hJ
  refine rd_int (n := 1726) (f := v_world) hx hb hK hP 2 0 rfl rfl e2 dX8_clearsAll_10 ?_
  refine lv_iconst (v := 1) hx hb dX8_clearsAll_11 (by decide) ?_
  refine lv_iadd hx hb dX8_clearsAll_12 ?_
  obtain ⟨g3, e4, hJ⟩ := bnd hJ
  refine wr_int (n := 1726) (f := v_world) (x := z1 + (1 : Int32)) hx hb hK hP hD hS 2 0 rfl rfl e4 dX8_clearsAll_13 (fun H locs hP hD hS => ?_)
  have hP : va_P (dC, dI) vwCl (MWc a kI kB kZ v_tape v_taped v_errorAt v_thrown g3 v_aside v_undone v_slots v_isKept v_undos v_seenPrefix v_seenLast v_seen v_previous v_gained v_gains v_decoded v_decodes v_readAt v_start v_kind v_word v_letters v_number v_fine v_text v_texted) H := hP
  have hD : va_D A (MWc a kI kB kZ v_tape v_taped v_errorAt v_thrown g3 v_aside v_undone v_slots v_isKept v_undos v_seenPrefix v_seenLast v_seen v_previous v_gained v_gains v_decoded v_decodes v_readAt v_start v_kind v_word v_letters v_number v_fine v_text v_texted) := hD
  refine lv_aload_n hx hb dX8_clearsAll_14 rfl (lv_at hl 0 rfl) ?_
  refine va_get (D := (dC, dI)) (ci := 8) (v := .ref (a 2)) (C := RX8) (T := TX8) (N := 27) hx hb hts (fun _ h => List.mem_cons_of_mem _ (List.mem_append_right _ h)) hown hK hP 0 rfl rfl 4 (by decide) (hts _ (List.mem_of_getElem? (i := 1) rfl)) (fun _ h9 => h9) rfl dX8_clearsAll_15 ?_
  refine lv_bipush (v := 9) hx hb dX8_clearsAll_18 (by decide) ?_
  refine lv_aload_n hx hb dX8_clearsAll_20 rfl (lv_at hl 0 rfl) ?_
  refine va_get (D := (dC, dI)) (ci := 8) (v := .ref (a 2)) (C := RX8) (T := TX8) (N := 27) hx hb hts (fun _ h => List.mem_cons_of_mem _ (List.mem_append_right _ h)) hown hK hP 0 rfl rfl 4 (by decide) (hts _ (List.mem_of_getElem? (i := 1) rfl)) (fun _ h9 => h9) rfl dX8_clearsAll_21 ?_
  refine lv_bipush (v := 7) hx hb dX8_clearsAll_24 (by decide) ?_
  obtain ⟨z5, e6, hJ⟩ := bnd hJ
  refine rd_int (n := 1726) (f := g3) hx hb hK hP 2 0 rfl rfl e6 dX8_clearsAll_26 ?_
  obtain ⟨g7, e8, hJ⟩ := bnd hJ
  refine wr_int (n := 1726) (f := g3) (x := z5) hx hb hK hP hD hS 2 0 rfl rfl e8 dX8_clearsAll_27 (fun H locs hP hD hS => ?_)
  have hP : va_P (dC, dI) vwCl (MWc a kI kB kZ v_tape v_taped v_errorAt v_thrown g7 v_aside v_undone v_slots v_isKept v_undos v_seenPrefix v_seenLast v_seen v_previous v_gained v_gains v_decoded v_decodes v_readAt v_start v_kind v_word v_letters v_number v_fine v_text v_texted) H := hP
  have hD : va_D A (MWc a kI kB kZ v_tape v_taped v_errorAt v_thrown g7 v_aside v_undone v_slots v_isKept v_undos v_seenPrefix v_seenLast v_seen v_previous v_gained v_gains v_decoded v_decodes v_readAt v_start v_kind v_word v_letters v_number v_fine v_text v_texted) := hD
  obtain rfl := Option.some.inj hJ
  exact rw_vret hx hb hr hlocks hP hD hS dX8_clearsAll_28
theorem qX8_isFirst : (yX8_isFirst.cls = RX8) ∧ yX8_isFirst.cls ≠ "java/lang/invoke/MethodHandle" ∧ yX8_isFirst.cls ≠ "java/lang/invoke/VarHandle" ∧ (parseMethodDescriptor yX8_isFirst.desc).map (fun d => d.parameters.length) = some 1 := by decide +kernel
set_option maxHeartbeats 4000000 in
set_option maxRecDepth 100000 in
theorem c_X8_isFirst (l : Launch) (dC : Nat → ClassId) (dI : Nat → Nat → Nat) (kI kB kZ : ClassId) (a : Nat → Nat) (v_tape : Nat → Int32) (v_taped : Int32) (v_errorAt : Int32) (v_thrown : Int32) (v_world : Nat → Int32) (v_aside : Nat → Int32) (v_undone : Nat → Int32) (v_slots : Nat → Int32) (v_isKept : Nat → Int32) (v_undos : Int32) (v_seenPrefix : Nat → Int32) (v_seenLast : Nat → Int32) (v_seen : Int32) (v_previous : Int32) (v_gained : Nat → Int32) (v_gains : Int32) (v_decoded : Nat → Int32) (v_decodes : Int32) (v_readAt : Int32) (v_start : Int32) (v_kind : Int32) (v_word : Int64) (v_letters : Int32) (v_number : Int32) (v_fine : Int32) (v_text : Nat → Int32) (v_texted : Int32) (p0 : Int32) (z : Int32) (hJ : J_X8_isFirst v_world p0 = some z) : Met l yX8_isFirst wsX8_isFirst ({ frames := 1, cells := 0, slots := 0, locals := 20 }) (va_Pc [.ref (a 0), .int p0] (ROp dC dI (MWc a kI kB kZ v_tape v_taped v_errorAt v_thrown v_world v_aside v_undone v_slots v_isKept v_undos v_seenPrefix v_seenLast v_seen v_previous v_gained v_gains v_decoded v_decodes v_readAt v_start v_kind v_word v_letters v_number v_fine v_text v_texted) [(kI, .int), (kB, .byte), (kZ, .boolean)])) (roQi z) 0 0 (fun _ => False) := by
  refine ro_start (cc := cX8_isFirst) (maxL := 2) (ret := (some .boolean)) (by decide) rfl (Nat.le_of_ble_eq_true rfl) ?_
  intro p e s m args below meth c hx hb hr hml hown hts hlocks hNW hK H locs ls hP hS hl
  have hown : s.vm.findClass RX8 = some m.cls := hown
  have hl : lv_has ls 2 [(0, .ref (a 0)), (1, .int p0)] := hl
  unfold J_X8_isFirst at hJ
  refine lv_iload_n hx hb dX8_isFirst_0 rfl (lv_at hl 1 rfl) ?_
  refine lv_aload_n hx hb dX8_isFirst_1 rfl (lv_at hl 0 rfl) ?_
  obtain ⟨z1, e2, hJ⟩ := bnd hJ
  refine roVi (As := []) (rest := [.int p0]) (ci := 8) (q0 := 0) hx hb hml hown hts (c_X8_clear l dC dI kI kB kZ a v_tape v_taped v_errorAt v_thrown v_world v_aside v_undone v_slots v_isKept v_undos v_seenPrefix v_seenLast v_seen v_previous v_gained v_gains v_decoded v_decodes v_readAt v_start v_kind v_word v_letters v_number v_fine v_text v_texted z1 e2) gX8_isFirst_X8_clear qX8_clear rfl ⟨Nat.le_of_ble_eq_true rfl, Nat.le_of_ble_eq_true rfl⟩ ⟨rfl, rfl⟩ hNW hK hP hS hP hK rfl rfl rfl hl.1 rfl rfl (Nat.le_of_ble_eq_true rfl) dX8_isFirst_2 z0 (fun H locs hP hS => ?_)
  refine lv_icmp_gt (tgt := 12) hx hb dX8_isFirst_5 (by decide) (fun c3 => ?_) (fun c3 => ?_)
  · have hJ := ite_t c3 hJ
    refine lv_iconst (v := 0) hx hb dX8_isFirst_12 (by decide) ?_
    exact ro_zret hx hb hr hlocks rfl hS hJ dX8_isFirst_13
  · have hJ := ite_f c3 hJ
    refine lv_iconst (v := 1) hx hb dX8_isFirst_8 (by decide) ?_
    refine lv_goto (tgt := 13) hx hb dX8_isFirst_9 (by decide) ?_
    exact ro_zret hx hb hr hlocks rfl hS hJ dX8_isFirst_13
theorem qX8_lengthOf : (yX8_lengthOf.cls = RX8) ∧ yX8_lengthOf.cls ≠ "java/lang/invoke/MethodHandle" ∧ yX8_lengthOf.cls ≠ "java/lang/invoke/VarHandle" ∧ (parseMethodDescriptor yX8_lengthOf.desc).map (fun d => d.parameters.length) = some 1 := by decide +kernel
set_option maxHeartbeats 4000000 in
set_option maxRecDepth 100000 in
theorem c_X8_lengthOf (fu : Nat) (l : Launch) (dC : Nat → ClassId) (dI : Nat → Nat → Nat) (kI kB kZ : ClassId) (a : Nat → Nat) (v_tape : Nat → Int32) (v_taped : Int32) (v_errorAt : Int32) (v_thrown : Int32) (v_world : Nat → Int32) (v_aside : Nat → Int32) (v_undone : Nat → Int32) (v_slots : Nat → Int32) (v_isKept : Nat → Int32) (v_undos : Int32) (v_seenPrefix : Nat → Int32) (v_seenLast : Nat → Int32) (v_seen : Int32) (v_previous : Int32) (v_gained : Nat → Int32) (v_gains : Int32) (v_decoded : Nat → Int32) (v_decodes : Int32) (v_readAt : Int32) (v_start : Int32) (v_kind : Int32) (v_word : Int64) (v_letters : Int32) (v_number : Int32) (v_fine : Int32) (v_text : Nat → Int32) (v_texted : Int32) (p0 : Int32) (z : Int32) (hJ : J_X8_lengthOf fu v_world p0 = some z) : Met l yX8_lengthOf wsX8_lengthOf ({ frames := 2, cells := 0, slots := 0, locals := 41 }) (va_Pc [.ref (a 0), .int p0] (ROp dC dI (MWc a kI kB kZ v_tape v_taped v_errorAt v_thrown v_world v_aside v_undone v_slots v_isKept v_undos v_seenPrefix v_seenLast v_seen v_previous v_gained v_gains v_decoded v_decodes v_readAt v_start v_kind v_word v_letters v_number v_fine v_text v_texted) [(kI, .int), (kB, .byte), (kZ, .boolean)])) (roQi z) 0 0 (fun _ => False) := by
  refine ro_start (cc := cX8_lengthOf) (maxL := 4) (ret := (some .int)) (by decide) rfl (Nat.le_of_ble_eq_true rfl) ?_
  intro p e s m args below meth c hx hb hr hml hown hts hlocks hNW hK H locs ls hP hS hl
  have hown : s.vm.findClass RX8 = some m.cls := hown
  have hl : lv_has ls 4 [(0, .ref (a 0)), (1, .int p0)] := hl
  unfold J_X8_lengthOf at hJ
  have L14 : ∀ (n : Nat) (y2 : Int32) (y3 : Int32) (H : Heap) (locs : List Loc) (ls : Array Slot), va_P (dC, dI) vwCl (MWc a kI kB kZ v_tape v_taped v_errorAt v_thrown v_world v_aside v_undone v_slots v_isKept v_undos v_seenPrefix v_seenLast v_seen v_previous v_gained v_gains v_decoded v_decodes v_readAt v_start v_kind v_word v_letters v_number v_fine v_text v_texted) H → va_S (fun _ => False) s.heap H locs → lv_has ls 4 [(0, .ref (a 0)), (2, .int y2), (3, .int y3)] → J_X8_lengthOf_b14 fu v_world n y2 y3 = some z → W p l e ({ frames := 2, cells := 0, slots := 0, locals := 41 }) s m args below meth c H locs 0 0 (MQ below (roQi z) args s 0 0 (fun _ => False)) (F0 m 14 ls []) := by
    intro n
    induction n with
    | zero =>
      intro y2 y3 H locs ls hP hS hl hJ
      rw [J_X8_lengthOf_b14] at hJ; cases hJ
    | succ n ih =>
      intro y2 y3 H locs ls hP hS hl hJ
      rw [J_X8_lengthOf_b14] at hJ
      refine lv_aload_n hx hb dX8_lengthOf_14 rfl (lv_at hl 0 rfl) ?_
      refine lv_iload_n hx hb dX8_lengthOf_15 rfl (lv_at hl 2 rfl) ?_
      obtain ⟨z4, e5, hJ⟩ := bnd hJ
      refine roVi (As := [.int y3]) (rest := []) (ci := 8) (q0 := 0) hx hb hml hown hts (c_X8_isFirst l dC dI kI kB kZ a v_tape v_taped v_errorAt v_thrown v_world v_aside v_undone v_slots v_isKept v_undos v_seenPrefix v_seenLast v_seen v_previous v_gained v_gains v_decoded v_decodes v_readAt v_start v_kind v_word v_letters v_number v_fine v_text v_texted y3 z4 e5) gX8_lengthOf_X8_isFirst qX8_isFirst rfl ⟨Nat.le_of_ble_eq_true rfl, Nat.le_of_ble_eq_true rfl⟩ ⟨rfl, rfl⟩ hNW hK hP hS hP hK rfl rfl rfl hl.1 rfl rfl (Nat.le_of_ble_eq_true rfl) dX8_lengthOf_16 z0 (fun H locs hP hS => ?_)
      refine lv_if_ne (tgt := 38) hx hb dX8_lengthOf_19 (by decide) (fun c6 => ?_) (fun c6 => ?_)
      · have hJ := ite_f c6 hJ
        refine lv_iload_n hx hb dX8_lengthOf_38 rfl (lv_at hl 1 rfl) ?_
        exact ro_iret hx hb hr hlocks hS hJ dX8_lengthOf_39
      · have hJ := ite_t c6 hJ
        refine lv_iinc (v := y2 + 1) (lv' := [(2, .int (y2 + 1)), (0, .ref (a 0)), (3, .int y3)]) hx hb dX8_lengthOf_22 hl (k := 1) rfl rfl (by decide) rfl (fun ls hl => ?_)
        refine lv_aload_n hx hb dX8_lengthOf_25 rfl (lv_at hl 1 rfl) ?_
        refine va_get (D := (dC, dI)) (ci := 8) (v := .ref (a 2)) (C := RX8) (T := TX8) (N := 27) hx hb hts (fun _ h => List.mem_cons_of_mem _ (List.mem_append_right _ h)) hown hK hP 0 rfl rfl 4 (by decide) (hts _ (List.mem_of_getElem? (i := 1) rfl)) (fun _ h9 => h9) rfl dX8_lengthOf_26 ?_
        refine lv_bipush (v := 14) hx hb dX8_lengthOf_29 (by decide) ?_
        refine lv_iload_n hx hb dX8_lengthOf_31 rfl (lv_at hl 2 rfl) ?_
        refine lv_iadd hx hb dX8_lengthOf_32 ?_
        obtain ⟨z7, e8, hJ⟩ := bnd hJ
        refine rd_int (n := 1726) (f := v_world) hx hb hK hP 2 0 rfl rfl e8 dX8_lengthOf_33 ?_
        refine lv_istore_n (lv' := [(3, .int z7), (2, .int (y2 + 1)), (0, .ref (a 0))]) hx hb dX8_lengthOf_34 rfl hl (by decide) rfl (fun ls hl => ?_)
        refine lv_goto (tgt := 14) hx hb dX8_lengthOf_35 (by decide) ?_
        exact ih (y2 + 1) z7 H locs ls hP hS (lv_sub hl [2, 1, 0] rfl) hJ
  refine lv_iload_n hx hb dX8_lengthOf_0 rfl (lv_at hl 1 rfl) ?_
  refine lv_aload_n hx hb dX8_lengthOf_1 rfl (lv_at hl 0 rfl) ?_
  obtain ⟨z1, e2, hJ⟩ := bnd hJ
  refine roVi (As := []) (rest := [.int p0]) (ci := 8) (q0 := 0) hx hb hml hown hts (c_X8_clear l dC dI kI kB kZ a v_tape v_taped v_errorAt v_thrown v_world v_aside v_undone v_slots v_isKept v_undos v_seenPrefix v_seenLast v_seen v_previous v_gained v_gains v_decoded v_decodes v_readAt v_start v_kind v_word v_letters v_number v_fine v_text v_texted z1 e2) gX8_lengthOf_X8_clear qX8_clear rfl ⟨Nat.le_of_ble_eq_true rfl, Nat.le_of_ble_eq_true rfl⟩ ⟨rfl, rfl⟩ hNW hK hP hS hP hK rfl rfl rfl hl.1 rfl rfl (Nat.le_of_ble_eq_true rfl) dX8_lengthOf_2 z0 (fun H locs hP hS => ?_)
  refine lv_icmp_ne (tgt := 10) hx hb dX8_lengthOf_5 (by decide) (fun c3 => ?_) (fun c3 => ?_)
  · have hJ := ite_f c3 hJ
    refine lv_iconst (v := 1) hx hb dX8_lengthOf_10 (by decide) ?_
    refine lv_istore_n (lv' := [(2, .int (1 : Int32)), (0, .ref (a 0)), (1, .int p0)]) hx hb dX8_lengthOf_11 rfl hl (by decide) rfl (fun ls hl => ?_)
    refine lv_iload_n hx hb dX8_lengthOf_12 rfl (lv_at hl 2 rfl) ?_
    refine lv_istore_n (lv' := [(3, .int p0), (2, .int (1 : Int32)), (0, .ref (a 0)), (1, .int p0)]) hx hb dX8_lengthOf_13 rfl hl (by decide) rfl (fun ls hl => ?_)
    exact L14 fu (1 : Int32) p0 H locs ls hP hS (lv_sub hl [2, 1, 0] rfl) hJ
  · have hJ := ite_t c3 hJ
    refine lv_iconst (v := 0) hx hb dX8_lengthOf_8 (by decide) ?_
    exact ro_iret hx hb hr hlocks hS hJ dX8_lengthOf_9
theorem qX8_symbolOf : (yX8_symbolOf.cls = RX8) ∧ yX8_symbolOf.cls ≠ "java/lang/invoke/MethodHandle" ∧ yX8_symbolOf.cls ≠ "java/lang/invoke/VarHandle" ∧ (parseMethodDescriptor yX8_symbolOf.desc).map (fun d => d.parameters.length) = some 2 := by decide +kernel
set_option maxHeartbeats 4000000 in
set_option maxRecDepth 100000 in
theorem c_X8_symbolOf (fu : Nat) (l : Launch) (dC : Nat → ClassId) (dI : Nat → Nat → Nat) (kI kB kZ : ClassId) (a : Nat → Nat) (v_tape : Nat → Int32) (v_taped : Int32) (v_errorAt : Int32) (v_thrown : Int32) (v_world : Nat → Int32) (v_aside : Nat → Int32) (v_undone : Nat → Int32) (v_slots : Nat → Int32) (v_isKept : Nat → Int32) (v_undos : Int32) (v_seenPrefix : Nat → Int32) (v_seenLast : Nat → Int32) (v_seen : Int32) (v_previous : Int32) (v_gained : Nat → Int32) (v_gains : Int32) (v_decoded : Nat → Int32) (v_decodes : Int32) (v_readAt : Int32) (v_start : Int32) (v_kind : Int32) (v_word : Int64) (v_letters : Int32) (v_number : Int32) (v_fine : Int32) (v_text : Nat → Int32) (v_texted : Int32) (p0 : Int32) (p1 : Int32) (z : Int32) (hJ : J_X8_symbolOf fu v_world p0 p1 = some z) : Met l yX8_symbolOf wsX8_symbolOf ({ frames := 3, cells := 0, slots := 0, locals := 64 }) (va_Pc [.ref (a 0), .int p0, .int p1] (ROp dC dI (MWc a kI kB kZ v_tape v_taped v_errorAt v_thrown v_world v_aside v_undone v_slots v_isKept v_undos v_seenPrefix v_seenLast v_seen v_previous v_gained v_gains v_decoded v_decodes v_readAt v_start v_kind v_word v_letters v_number v_fine v_text v_texted) [(kI, .int), (kB, .byte), (kZ, .boolean)])) (roQi z) 0 0 (fun _ => False) := by
  refine ro_start (cc := cX8_symbolOf) (maxL := 5) (ret := (some .int)) (by decide) rfl (Nat.le_of_ble_eq_true rfl) ?_
  intro p e s m args below meth c hx hb hr hml hown hts hlocks hNW hK H locs ls hP hS hl
  have hown : s.vm.findClass RX8 = some m.cls := hown
  have hl : lv_has ls 5 [(0, .ref (a 0)), (1, .int p0), (2, .int p1)] := hl
  unfold J_X8_symbolOf at hJ
  have L13 : ∀ (n : Nat) (y3 : Int32) (y4 : Int32) (H : Heap) (locs : List Loc) (ls : Array Slot), va_P (dC, dI) vwCl (MWc a kI kB kZ v_tape v_taped v_errorAt v_thrown v_world v_aside v_undone v_slots v_isKept v_undos v_seenPrefix v_seenLast v_seen v_previous v_gained v_gains v_decoded v_decodes v_readAt v_start v_kind v_word v_letters v_number v_fine v_text v_texted) H → va_S (fun _ => False) s.heap H locs → lv_has ls 5 [(0, .ref (a 0)), (3, .int y3), (4, .int y4)] → J_X8_symbolOf_b13 fu v_world n y3 y4 = some z → W p l e ({ frames := 3, cells := 0, slots := 0, locals := 64 }) s m args below meth c H locs 0 0 (MQ below (roQi z) args s 0 0 (fun _ => False)) (F0 m 13 ls []) := by
    intro n
    induction n with
    | zero =>
      intro y3 y4 H locs ls hP hS hl hJ
      rw [J_X8_symbolOf_b13] at hJ; cases hJ
    | succ n ih =>
      intro y3 y4 H locs ls hP hS hl hJ
      rw [J_X8_symbolOf_b13] at hJ
      refine lv_iload hx hb dX8_symbolOf_13 (lv_at hl 2 rfl) ?_
      refine lv_if_le (tgt := 34) hx hb dX8_symbolOf_15 (by decide) (fun c3 => ?_) (fun c3 => ?_)
      · have hJ := ite_t c3 hJ
        refine lv_aload_n hx hb dX8_symbolOf_34 rfl (lv_at hl 0 rfl) ?_
        refine lv_iload_n hx hb dX8_symbolOf_35 rfl (lv_at hl 1 rfl) ?_
        obtain ⟨z4, e5, hJ⟩ := bnd hJ
        refine roVi (As := [.int y3]) (rest := []) (ci := 8) (q0 := 0) hx hb hml hown hts (c_X8_isFirst l dC dI kI kB kZ a v_tape v_taped v_errorAt v_thrown v_world v_aside v_undone v_slots v_isKept v_undos v_seenPrefix v_seenLast v_seen v_previous v_gained v_gains v_decoded v_decodes v_readAt v_start v_kind v_word v_letters v_number v_fine v_text v_texted y3 z4 e5) gX8_symbolOf_X8_isFirst qX8_isFirst rfl ⟨Nat.le_of_ble_eq_true rfl, Nat.le_of_ble_eq_true rfl⟩ ⟨rfl, rfl⟩ hNW hK hP hS hP hK rfl rfl rfl hl.1 rfl rfl (Nat.le_of_ble_eq_true rfl) dX8_symbolOf_36 z0 (fun H locs hP hS => ?_)
        refine lv_if_eq (tgt := 46) hx hb dX8_symbolOf_39 (by decide) (fun c6 => ?_) (fun c6 => ?_)
        · have hJ := ite_t c6 hJ
          refine lv_aload_n hx hb dX8_symbolOf_46 rfl (lv_at hl 0 rfl) ?_
          refine va_get (D := (dC, dI)) (ci := 8) (v := .ref (a 2)) (C := RX8) (T := TX8) (N := 27) hx hb hts (fun _ h => List.mem_cons_of_mem _ (List.mem_append_right _ h)) hown hK hP 0 rfl rfl 4 (by decide) (hts _ (List.mem_of_getElem? (i := 1) rfl)) (fun _ h9 => h9) rfl dX8_symbolOf_47 ?_
          refine lv_sipush (v := 270) hx hb dX8_symbolOf_50 (by decide) ?_
          refine lv_iload_n hx hb dX8_symbolOf_53 rfl (lv_at hl 1 rfl) ?_
          refine lv_iadd hx hb dX8_symbolOf_54 ?_
          obtain ⟨z7, e8, hJ⟩ := bnd hJ
          refine rd_int (n := 1726) (f := v_world) hx hb hK hP 2 0 rfl rfl e8 dX8_symbolOf_55 ?_
          exact ro_iret hx hb hr hlocks hS hJ dX8_symbolOf_56
        · have hJ := ite_f c6 hJ
          refine lv_iload_n hx hb dX8_symbolOf_42 rfl (lv_at hl 1 rfl) ?_
          refine lv_goto (tgt := 56) hx hb dX8_symbolOf_43 (by decide) ?_
          exact ro_iret hx hb hr hlocks hS hJ dX8_symbolOf_56
      · have hJ := ite_f c3 hJ
        refine lv_aload_n hx hb dX8_symbolOf_18 rfl (lv_at hl 0 rfl) ?_
        refine va_get (D := (dC, dI)) (ci := 8) (v := .ref (a 2)) (C := RX8) (T := TX8) (N := 27) hx hb hts (fun _ h => List.mem_cons_of_mem _ (List.mem_append_right _ h)) hown hK hP 0 rfl rfl 4 (by decide) (hts _ (List.mem_of_getElem? (i := 1) rfl)) (fun _ h9 => h9) rfl dX8_symbolOf_19 ?_
        refine lv_bipush (v := 14) hx hb dX8_symbolOf_22 (by decide) ?_
        refine lv_iload_n hx hb dX8_symbolOf_24 rfl (lv_at hl 1 rfl) ?_
        refine lv_iadd hx hb dX8_symbolOf_25 ?_
        obtain ⟨z9, e10, hJ⟩ := bnd hJ
        refine rd_int (n := 1726) (f := v_world) hx hb hK hP 2 0 rfl rfl e10 dX8_symbolOf_26 ?_
        refine lv_istore_n (lv' := [(3, .int z9), (0, .ref (a 0)), (4, .int y4)]) hx hb dX8_symbolOf_27 rfl hl (by decide) rfl (fun ls hl => ?_)
        refine lv_iinc (v := y4 + (-1)) (lv' := [(4, .int (y4 + (-1))), (3, .int z9), (0, .ref (a 0))]) hx hb dX8_symbolOf_28 hl (k := 2) rfl rfl (by decide) rfl (fun ls hl => ?_)
        refine lv_goto (tgt := 13) hx hb dX8_symbolOf_31 (by decide) ?_
        exact ih z9 (y4 + (-1)) H locs ls hP hS (lv_sub hl [2, 1, 0] rfl) hJ
  refine lv_iload_n hx hb dX8_symbolOf_0 rfl (lv_at hl 1 rfl) ?_
  refine lv_istore_n (lv' := [(3, .int p0), (0, .ref (a 0)), (1, .int p0), (2, .int p1)]) hx hb dX8_symbolOf_1 rfl hl (by decide) rfl (fun ls hl => ?_)
  refine lv_aload_n hx hb dX8_symbolOf_2 rfl (lv_at hl 1 rfl) ?_
  refine lv_iload_n hx hb dX8_symbolOf_3 rfl (lv_at hl 2 rfl) ?_
  obtain ⟨z1, e2, hJ⟩ := bnd hJ
  refine roVi (As := [.int p0]) (rest := []) (ci := 8) (q0 := 0) hx hb hml hown hts (c_X8_lengthOf fu l dC dI kI kB kZ a v_tape v_taped v_errorAt v_thrown v_world v_aside v_undone v_slots v_isKept v_undos v_seenPrefix v_seenLast v_seen v_previous v_gained v_gains v_decoded v_decodes v_readAt v_start v_kind v_word v_letters v_number v_fine v_text v_texted p0 z1 e2) gX8_symbolOf_X8_lengthOf qX8_lengthOf rfl ⟨Nat.le_of_ble_eq_true rfl, Nat.le_of_ble_eq_true rfl⟩ ⟨rfl, rfl⟩ hNW hK hP hS hP hK rfl rfl rfl hl.1 rfl rfl (Nat.le_of_ble_eq_true rfl) dX8_symbolOf_4 z0 (fun H locs hP hS => ?_)
  refine lv_iconst (v := 1) hx hb dX8_symbolOf_7 (by decide) ?_
  refine lv_isub hx hb dX8_symbolOf_8 ?_
  refine lv_iload_n hx hb dX8_symbolOf_9 rfl (lv_at hl 3 rfl) ?_
  refine lv_isub hx hb dX8_symbolOf_10 ?_
  refine lv_istore (lv' := [(4, .int ((z1 - (1 : Int32)) - p1)), (3, .int p0), (0, .ref (a 0)), (1, .int p0), (2, .int p1)]) hx hb dX8_symbolOf_11 hl (by decide) rfl (fun ls hl => ?_)
  exact L13 fu p0 ((z1 - (1 : Int32)) - p1) H locs ls hP hS (lv_sub hl [2, 1, 0] rfl) hJ
theorem qX8_longer : (yX8_longer.cls = RX8) ∧ yX8_longer.cls ≠ "java/lang/invoke/MethodHandle" ∧ yX8_longer.cls ≠ "java/lang/invoke/VarHandle" ∧ (parseMethodDescriptor yX8_longer.desc).map (fun d => d.parameters.length) = some 2 := by decide +kernel
set_option maxHeartbeats 4000000 in
set_option maxRecDepth 100000 in
theorem c_X8_longer (fu : Nat) (l : Launch) (dC : Nat → ClassId) (dI : Nat → Nat → Nat) (kI kB kZ : ClassId) (a : Nat → Nat) (v_tape : Nat → Int32) (v_taped : Int32) (v_errorAt : Int32) (v_thrown : Int32) (v_world : Nat → Int32) (v_aside : Nat → Int32) (v_undone : Nat → Int32) (v_slots : Nat → Int32) (v_isKept : Nat → Int32) (v_undos : Int32) (v_seenPrefix : Nat → Int32) (v_seenLast : Nat → Int32) (v_seen : Int32) (v_previous : Int32) (v_gained : Nat → Int32) (v_gains : Int32) (v_decoded : Nat → Int32) (v_decodes : Int32) (v_readAt : Int32) (v_start : Int32) (v_kind : Int32) (v_word : Int64) (v_letters : Int32) (v_number : Int32) (v_fine : Int32) (v_text : Nat → Int32) (v_texted : Int32) (p0 : Int32) (p1 : Int32) (z : Int32) (hJ : J_X8_longer fu v_world p0 p1 = some z) : Met l yX8_longer wsX8_longer ({ frames := 1, cells := 0, slots := 0, locals := 20 }) (va_Pc [.ref (a 0), .int p0, .int p1] (ROp dC dI (MWc a kI kB kZ v_tape v_taped v_errorAt v_thrown v_world v_aside v_undone v_slots v_isKept v_undos v_seenPrefix v_seenLast v_seen v_previous v_gained v_gains v_decoded v_decodes v_readAt v_start v_kind v_word v_letters v_number v_fine v_text v_texted) [(kI, .int), (kB, .byte), (kZ, .boolean)])) (roQi z) 0 0 (fun _ => False) := by
  refine ro_start (cc := cX8_longer) (maxL := 4) (ret := (some .int)) (by decide) rfl (Nat.le_of_ble_eq_true rfl) ?_
  intro p e s m args below meth c hx hb hr hml hown hts hlocks hNW hK H locs ls hP hS hl
  have hown : s.vm.findClass RX8 = some m.cls := hown
  have hl : lv_has ls 4 [(0, .ref (a 0)), (1, .int p0), (2, .int p1)] := hl
  unfold J_X8_longer at hJ
  have L7 : ∀ (n : Nat) (y1 : Int32) (y2 : Int32) (y3 : Int32) (H : Heap) (locs : List Loc) (ls : Array Slot), va_P (dC, dI) vwCl (MWc a kI kB kZ v_tape v_taped v_errorAt v_thrown v_world v_aside v_undone v_slots v_isKept v_undos v_seenPrefix v_seenLast v_seen v_previous v_gained v_gains v_decoded v_decodes v_readAt v_start v_kind v_word v_letters v_number v_fine v_text v_texted) H → va_S (fun _ => False) s.heap H locs → lv_has ls 4 [(0, .ref (a 0)), (1, .int y1), (2, .int y2), (3, .int y3)] → J_X8_longer_b7 fu v_world n y1 y2 y3 = some z → W p l e ({ frames := 1, cells := 0, slots := 0, locals := 20 }) s m args below meth c H locs 0 0 (MQ below (roQi z) args s 0 0 (fun _ => False)) (F0 m 7 ls []) := by
    intro n
    induction n with
    | zero =>
      intro y1 y2 y3 H locs ls hP hS hl hJ
      rw [J_X8_longer_b7] at hJ; cases hJ
    | succ n ih =>
      intro y1 y2 y3 H locs ls hP hS hl hJ
      rw [J_X8_longer_b7] at hJ
      refine lv_iload_n hx hb dX8_longer_7 rfl (lv_at hl 3 rfl) ?_
      refine lv_aload_n hx hb dX8_longer_8 rfl (lv_at hl 0 rfl) ?_
      refine va_get (D := (dC, dI)) (ci := 8) (v := .ref (a 2)) (C := RX8) (T := TX8) (N := 27) hx hb hts (fun _ h => List.mem_cons_of_mem _ (List.mem_append_right _ h)) hown hK hP 0 rfl rfl 4 (by decide) (hts _ (List.mem_of_getElem? (i := 1) rfl)) (fun _ h9 => h9) rfl dX8_longer_9 ?_
      refine lv_iconst (v := 4) hx hb dX8_longer_12 (by decide) ?_
      obtain ⟨z3, e4, hJ⟩ := bnd hJ
      refine rd_int (n := 1726) (f := v_world) hx hb hK hP 2 0 rfl rfl e4 dX8_longer_13 ?_
      refine lv_icmp_ge (tgt := 52) hx hb dX8_longer_14 (by decide) (fun c5 => ?_) (fun c5 => ?_)
      · have hJ := ite_t c5 hJ
        refine lv_iconst (v := -1) hx hb dX8_longer_52 (by decide) ?_
        exact ro_iret hx hb hr hlocks hS hJ dX8_longer_53
      · have hJ := ite_f c5 hJ
        refine lv_aload_n hx hb dX8_longer_17 rfl (lv_at hl 0 rfl) ?_
        refine va_get (D := (dC, dI)) (ci := 8) (v := .ref (a 2)) (C := RX8) (T := TX8) (N := 27) hx hb hts (fun _ h => List.mem_cons_of_mem _ (List.mem_append_right _ h)) hown hK hP 0 rfl rfl 4 (by decide) (hts _ (List.mem_of_getElem? (i := 1) rfl)) (fun _ h9 => h9) rfl dX8_longer_18 ?_
        refine lv_bipush (v := 14) hx hb dX8_longer_21 (by decide) ?_
        refine lv_iload_n hx hb dX8_longer_23 rfl (lv_at hl 3 rfl) ?_
        refine lv_iadd hx hb dX8_longer_24 ?_
        obtain ⟨z6, e7, hJ⟩ := bnd hJ
        refine rd_int (n := 1726) (f := v_world) hx hb hK hP 2 0 rfl rfl e7 dX8_longer_25 ?_
        refine lv_iload_n hx hb dX8_longer_26 rfl (lv_at hl 1 rfl) ?_
        refine lv_icmp_ne (tgt := 46) hx hb dX8_longer_27 (by decide) (fun c8 => ?_) (fun c8 => ?_)
        · have hJ := ite_f c8 hJ
          refine lv_iinc (v := y3 + 1) (lv' := [(3, .int (y3 + 1)), (0, .ref (a 0)), (1, .int y1), (2, .int y2)]) hx hb dX8_longer_46 hl (k := 3) rfl rfl (by decide) rfl (fun ls hl => ?_)
          refine lv_goto (tgt := 7) hx hb dX8_longer_49 (by decide) ?_
          exact ih y1 y2 (y3 + 1) H locs ls hP hS (lv_sub hl [1, 2, 3, 0] rfl) hJ
        · have hJ := ite_t c8 hJ
          refine lv_aload_n hx hb dX8_longer_30 rfl (lv_at hl 0 rfl) ?_
          refine va_get (D := (dC, dI)) (ci := 8) (v := .ref (a 2)) (C := RX8) (T := TX8) (N := 27) hx hb hts (fun _ h => List.mem_cons_of_mem _ (List.mem_append_right _ h)) hown hK hP 0 rfl rfl 4 (by decide) (hts _ (List.mem_of_getElem? (i := 1) rfl)) (fun _ h9 => h9) rfl dX8_longer_31 ?_
          refine lv_sipush (v := 270) hx hb dX8_longer_34 (by decide) ?_
          refine lv_iload_n hx hb dX8_longer_37 rfl (lv_at hl 3 rfl) ?_
          refine lv_iadd hx hb dX8_longer_38 ?_
          obtain ⟨z9, e10, hJ⟩ := bnd hJ
          refine rd_int (n := 1726) (f := v_world) hx hb hK hP 2 0 rfl rfl e10 dX8_longer_39 ?_
          refine lv_iload_n hx hb dX8_longer_40 rfl (lv_at hl 2 rfl) ?_
          refine lv_icmp_ne (tgt := 46) hx hb dX8_longer_41 (by decide) (fun c11 => ?_) (fun c11 => ?_)
          · have hJ := ite_f c11 hJ
            refine lv_iinc (v := y3 + 1) (lv' := [(3, .int (y3 + 1)), (0, .ref (a 0)), (1, .int y1), (2, .int y2)]) hx hb dX8_longer_46 hl (k := 3) rfl rfl (by decide) rfl (fun ls hl => ?_)
            refine lv_goto (tgt := 7) hx hb dX8_longer_49 (by decide) ?_
            exact ih y1 y2 (y3 + 1) H locs ls hP hS (lv_sub hl [1, 2, 3, 0] rfl) hJ
          · have hJ := ite_t c11 hJ
            refine lv_iload_n hx hb dX8_longer_44 rfl (lv_at hl 3 rfl) ?_
            exact ro_iret hx hb hr hlocks hS hJ dX8_longer_45
  refine lv_aload_n hx hb dX8_longer_0 rfl (lv_at hl 0 rfl) ?_
  obtain ⟨z1, e2, hJ⟩ := bnd hJ
  refine roVi (As := []) (rest := []) (ci := 8) (q0 := 0) hx hb hml hown hts (c_X8_clear l dC dI kI kB kZ a v_tape v_taped v_errorAt v_thrown v_world v_aside v_undone v_slots v_isKept v_undos v_seenPrefix v_seenLast v_seen v_previous v_gained v_gains v_decoded v_decodes v_readAt v_start v_kind v_word v_letters v_number v_fine v_text v_texted z1 e2) gX8_longer_X8_clear qX8_clear rfl ⟨Nat.le_of_ble_eq_true rfl, Nat.le_of_ble_eq_true rfl⟩ ⟨rfl, rfl⟩ hNW hK hP hS hP hK rfl rfl rfl hl.1 rfl rfl (Nat.le_of_ble_eq_true rfl) dX8_longer_1 z0 (fun H locs hP hS => ?_)
  refine lv_iconst (v := 1) hx hb dX8_longer_4 (by decide) ?_
  refine lv_iadd hx hb dX8_longer_5 ?_
  refine lv_istore_n (lv' := [(3, .int (z1 + (1 : Int32))), (0, .ref (a 0)), (1, .int p0), (2, .int p1)]) hx hb dX8_longer_6 rfl hl (by decide) rfl (fun ls hl => ?_)
  exact L7 fu p0 p1 (z1 + (1 : Int32)) H locs ls hP hS (lv_sub hl [1, 2, 3, 0] rfl) hJ
theorem qX8_learns : (yX8_learns.cls = RX8) ∧ yX8_learns.cls ≠ "java/lang/invoke/MethodHandle" ∧ yX8_learns.cls ≠ "java/lang/invoke/VarHandle" ∧ (parseMethodDescriptor yX8_learns.desc).map (fun d => d.parameters.length) = some 2 := by decide +kernel
set_option maxHeartbeats 4000000 in
set_option maxRecDepth 100000 in
theorem c_X8_learns (l : Launch) (dC : Nat → ClassId) (dI : Nat → Nat → Nat) (kI kB kZ : ClassId) (a : Nat → Nat) (v_tape : Nat → Int32) (v_taped : Int32) (v_errorAt : Int32) (v_thrown : Int32) (v_world : Nat → Int32) (v_aside : Nat → Int32) (v_undone : Nat → Int32) (v_slots : Nat → Int32) (v_isKept : Nat → Int32) (v_undos : Int32) (v_seenPrefix : Nat → Int32) (v_seenLast : Nat → Int32) (v_seen : Int32) (v_previous : Int32) (v_gained : Nat → Int32) (v_gains : Int32) (v_decoded : Nat → Int32) (v_decodes : Int32) (v_readAt : Int32) (v_start : Int32) (v_kind : Int32) (v_word : Int64) (v_letters : Int32) (v_number : Int32) (v_fine : Int32) (v_text : Nat → Int32) (v_texted : Int32) (p0 : Int32) (p1 : Int32) (sz : Nat) (z : (Nat → Int32)) (hJ : J_X8_learns v_world p0 p1 = some z) : Met l yX8_learns wsX8_learns ({ frames := 0, cells := 0, slots := 0, locals := 0 }) (va_Pc [.ref (a 0), .int p0, .int p1] (RWp dC dI sz (MWc a kI kB kZ v_tape v_taped v_errorAt v_thrown v_world v_aside v_undone v_slots v_isKept v_undos v_seenPrefix v_seenLast v_seen v_previous v_gained v_gains v_decoded v_decodes v_readAt v_start v_kind v_word v_letters v_number v_fine v_text v_texted) [(kI, .int), (kB, .byte), (kZ, .boolean)])) (rwQv dC dI (va_A (MWc a kI kB kZ v_tape v_taped v_errorAt v_thrown v_world v_aside v_undone v_slots v_isKept v_undos v_seenPrefix v_seenLast v_seen v_previous v_gained v_gains v_decoded v_decodes v_readAt v_start v_kind v_word v_letters v_number v_fine v_text v_texted) sz) (MWc a kI kB kZ v_tape v_taped v_errorAt v_thrown z v_aside v_undone v_slots v_isKept v_undos v_seenPrefix v_seenLast v_seen v_previous v_gained v_gains v_decoded v_decodes v_readAt v_start v_kind v_word v_letters v_number v_fine v_text v_texted)) 0 0 (va_A (MWc a kI kB kZ v_tape v_taped v_errorAt v_thrown v_world v_aside v_undone v_slots v_isKept v_undos v_seenPrefix v_seenLast v_seen v_previous v_gained v_gains v_decoded v_decodes v_readAt v_start v_kind v_word v_letters v_number v_fine v_text v_texted) sz) := by
  refine rw_start (Qc := fun A => rwQv dC dI A (MWc a kI kB kZ v_tape v_taped v_errorAt v_thrown z v_aside v_undone v_slots v_isKept v_undos v_seenPrefix v_seenLast v_seen v_previous v_gained v_gains v_decoded v_decodes v_readAt v_start v_kind v_word v_letters v_number v_fine v_text v_texted)) (cc := cX8_learns) (maxL := 4) (ret := none) (by decide) rfl (Nat.le_of_ble_eq_true rfl) ?_
  intro p e s m args below meth c hx hb hr hml hown hts hlocks hNW hK A hA H locs ls hP hD hS hl
  have hown : s.vm.findClass RX8 = some m.cls := hown
  have hl : lv_has ls 4 [(0, .ref (a 0)), (1, .int p0), (2, .int p1)] := hl
  unfold J_X8_learns at hJ
  refine lv_aload_n hx hb dX8_learns_0 rfl (lv_at hl 0 rfl) ?_
  refine va_get (D := (dC, dI)) (ci := 8) (v := .ref (a 2)) (C := RX8) (T := TX8) (N := 27) hx hb hts (fun _ h => List.mem_cons_of_mem _ (List.mem_append_right _ h)) hown hK hP 0 rfl rfl 4 (by decide) (hts _ (List.mem_of_getElem? (i := 1) rfl)) (fun _ h9 => h9) rfl dX8_learns_1 ?_
  refine lv_iconst (v := 4) hx hb dX8_learns_4 (by decide) ?_
  obtain ⟨z1, e2, hJ⟩ := bnd hJ
  refine rd_int (n := 1726) (f := v_world) hx hb hK hP 2 0 rfl rfl e2 dX8_learns_5 ?_
  refine lv_istore_n (lv' := [(3, .int z1), (0, .ref (a 0)), (1, .int p0), (2, .int p1)]) hx hb dX8_learns_6 rfl hl (by decide) rfl (fun ls hl => ?_)
  refine lv_aload_n hx hb dX8_learns_7 rfl (lv_at hl 1 rfl) ?_
  refine va_get (D := (dC, dI)) (ci := 8) (v := .ref (a 2)) (C := RX8) (T := TX8) (N := 27) hx hb hts (fun _ h => List.mem_cons_of_mem _ (List.mem_append_right _ h)) hown hK hP 0 rfl rfl 4 (by decide) (hts _ (List.mem_of_getElem? (i := 1) rfl)) (fun _ h9 => h9) rfl dX8_learns_8 ?_
  refine lv_bipush (v := 14) hx hb dX8_learns_11 (by decide) ?_
  refine lv_iload_n hx hb dX8_learns_13 rfl (lv_at hl 0 rfl) ?_
  refine lv_iadd hx hb dX8_learns_14 ?_
  refine lv_iload_n hx hb dX8_learns_15 rfl (lv_at hl 2 rfl) ?_
  obtain ⟨g3, e4, hJ⟩ := bnd hJ
  refine wr_int (n := 1726) (f := v_world) (x := p0) hx hb hK hP hD hS 2 0 rfl rfl e4 dX8_learns_16 (fun H locs hP hD hS => ?_)
  have hP : va_P (dC, dI) vwCl (MWc a kI kB kZ v_tape v_taped v_errorAt v_thrown g3 v_aside v_undone v_slots v_isKept v_undos v_seenPrefix v_seenLast v_seen v_previous v_gained v_gains v_decoded v_decodes v_readAt v_start v_kind v_word v_letters v_number v_fine v_text v_texted) H := hP
  have hD : va_D A (MWc a kI kB kZ v_tape v_taped v_errorAt v_thrown g3 v_aside v_undone v_slots v_isKept v_undos v_seenPrefix v_seenLast v_seen v_previous v_gained v_gains v_decoded v_decodes v_readAt v_start v_kind v_word v_letters v_number v_fine v_text v_texted) := hD
  refine lv_aload_n hx hb dX8_learns_17 rfl (lv_at hl 1 rfl) ?_
  refine va_get (D := (dC, dI)) (ci := 8) (v := .ref (a 2)) (C := RX8) (T := TX8) (N := 27) hx hb hts (fun _ h => List.mem_cons_of_mem _ (List.mem_append_right _ h)) hown hK hP 0 rfl rfl 4 (by decide) (hts _ (List.mem_of_getElem? (i := 1) rfl)) (fun _ h9 => h9) rfl dX8_learns_18 ?_
  refine lv_sipush (v := 270) hx hb dX8_learns_21 (by decide) ?_
  refine lv_iload_n hx hb dX8_learns_24 rfl (lv_at hl 0 rfl) ?_
  refine lv_iadd hx hb dX8_learns_25 ?_
  refine lv_iload_n hx hb dX8_learns_26 rfl (lv_at hl 3 rfl) ?_
  obtain ⟨g5, e6, hJ⟩ := bnd hJ
  refine wr_int (n := 1726) (f := g3) (x := p1) hx hb hK hP hD hS 2 0 rfl rfl e6 dX8_learns_27 (fun H locs hP hD hS => ?_)
  have hP : va_P (dC, dI) vwCl (MWc a kI kB kZ v_tape v_taped v_errorAt v_thrown g5 v_aside v_undone v_slots v_isKept v_undos v_seenPrefix v_seenLast v_seen v_previous v_gained v_gains v_decoded v_decodes v_readAt v_start v_kind v_word v_letters v_number v_fine v_text v_texted) H := hP
  have hD : va_D A (MWc a kI kB kZ v_tape v_taped v_errorAt v_thrown g5 v_aside v_undone v_slots v_isKept v_undos v_seenPrefix v_seenLast v_seen v_previous v_gained v_gains v_decoded v_decodes v_readAt v_start v_kind v_word v_letters v_number v_fine v_text v_texted) := hD
  refine lv_aload_n hx hb dX8_learns_28 rfl (lv_at hl 1 rfl) ?_
  refine va_get (D := (dC, dI)) (ci := 8) (v := .ref (a 2)) (C := RX8) (T := TX8) (N := 27) hx hb hts (fun _ h => List.mem_cons_of_mem _ (List.mem_append_right _ h)) hown hK hP 0 rfl rfl 4 (by decide) (hts _ (List.mem_of_getElem? (i := 1) rfl)) (fun _ h9 => h9) rfl dX8_learns_29 ?_
  refine lv_iconst (v := 4) hx hb dX8_learns_32 (by decide) ?_
  refine lv_dup2_11 hx hb dX8_learns_33 rfl rfl ?_
  obtain ⟨z7, e8, hJ⟩ := bnd hJ
  refine rd_int (n := 1726) (f := g5) hx hb hK hP 2 0 rfl rfl e8 dX8_learns_34 ?_
  refine lv_iconst (v := 1) hx hb dX8_learns_35 (by decide) ?_
  refine lv_iadd hx hb dX8_learns_36 ?_
  obtain ⟨g9, e10, hJ⟩ := bnd hJ
  refine wr_int (n := 1726) (f := g5) (x := z7 + (1 : Int32)) hx hb hK hP hD hS 2 0 rfl rfl e10 dX8_learns_37 (fun H locs hP hD hS => ?_)
  have hP : va_P (dC, dI) vwCl (MWc a kI kB kZ v_tape v_taped v_errorAt v_thrown g9 v_aside v_undone v_slots v_isKept v_undos v_seenPrefix v_seenLast v_seen v_previous v_gained v_gains v_decoded v_decodes v_readAt v_start v_kind v_word v_letters v_number v_fine v_text v_texted) H := hP
  have hD : va_D A (MWc a kI kB kZ v_tape v_taped v_errorAt v_thrown g9 v_aside v_undone v_slots v_isKept v_undos v_seenPrefix v_seenLast v_seen v_previous v_gained v_gains v_decoded v_decodes v_readAt v_start v_kind v_word v_letters v_number v_fine v_text v_texted) := hD
  obtain rfl := Option.some.inj hJ
  exact rw_vret hx hb hr hlocks hP hD hS dX8_learns_38
theorem qX8_writes : (yX8_writes.cls = RX8) ∧ yX8_writes.cls ≠ "java/lang/invoke/MethodHandle" ∧ yX8_writes.cls ≠ "java/lang/invoke/VarHandle" ∧ (parseMethodDescriptor yX8_writes.desc).map (fun d => d.parameters.length) = some 1 := by decide +kernel
set_option maxHeartbeats 4000000 in
set_option maxRecDepth 100000 in
theorem c_X8_writes (fu : Nat) (l : Launch) (dC : Nat → ClassId) (dI : Nat → Nat → Nat) (kI kB kZ : ClassId) (a : Nat → Nat) (v_tape : Nat → Int32) (v_taped : Int32) (v_errorAt : Int32) (v_thrown : Int32) (v_world : Nat → Int32) (v_aside : Nat → Int32) (v_undone : Nat → Int32) (v_slots : Nat → Int32) (v_isKept : Nat → Int32) (v_undos : Int32) (v_seenPrefix : Nat → Int32) (v_seenLast : Nat → Int32) (v_seen : Int32) (v_previous : Int32) (v_gained : Nat → Int32) (v_gains : Int32) (v_decoded : Nat → Int32) (v_decodes : Int32) (v_readAt : Int32) (v_start : Int32) (v_kind : Int32) (v_word : Int64) (v_letters : Int32) (v_number : Int32) (v_fine : Int32) (v_text : Nat → Int32) (v_texted : Int32) (p0 : Int32) (sz : Nat) (z : (Nat → Int32)) (hJ : J_X8_writes fu v_world p0 = some z) : Met l yX8_writes wsX8_writes ({ frames := 3, cells := 0, slots := 0, locals := 64 }) (va_Pc [.ref (a 0), .int p0] (RWp dC dI sz (MWc a kI kB kZ v_tape v_taped v_errorAt v_thrown v_world v_aside v_undone v_slots v_isKept v_undos v_seenPrefix v_seenLast v_seen v_previous v_gained v_gains v_decoded v_decodes v_readAt v_start v_kind v_word v_letters v_number v_fine v_text v_texted) [(kI, .int), (kB, .byte), (kZ, .boolean)])) (rwQv dC dI (va_A (MWc a kI kB kZ v_tape v_taped v_errorAt v_thrown v_world v_aside v_undone v_slots v_isKept v_undos v_seenPrefix v_seenLast v_seen v_previous v_gained v_gains v_decoded v_decodes v_readAt v_start v_kind v_word v_letters v_number v_fine v_text v_texted) sz) (MWc a kI kB kZ v_tape v_taped v_errorAt v_thrown z v_aside v_undone v_slots v_isKept v_undos v_seenPrefix v_seenLast v_seen v_previous v_gained v_gains v_decoded v_decodes v_readAt v_start v_kind v_word v_letters v_number v_fine v_text v_texted)) 0 0 (va_A (MWc a kI kB kZ v_tape v_taped v_errorAt v_thrown v_world v_aside v_undone v_slots v_isKept v_undos v_seenPrefix v_seenLast v_seen v_previous v_gained v_gains v_decoded v_decodes v_readAt v_start v_kind v_word v_letters v_number v_fine v_text v_texted) sz) := by
  refine rw_start (Qc := fun A => rwQv dC dI A (MWc a kI kB kZ v_tape v_taped v_errorAt v_thrown z v_aside v_undone v_slots v_isKept v_undos v_seenPrefix v_seenLast v_seen v_previous v_gained v_gains v_decoded v_decodes v_readAt v_start v_kind v_word v_letters v_number v_fine v_text v_texted)) (cc := cX8_writes) (maxL := 3) (ret := none) (by decide) rfl (Nat.le_of_ble_eq_true rfl) ?_
  intro p e s m args below meth c hx hb hr hml hown hts hlocks hNW hK A hA H locs ls hP hD hS hl
  have hown : s.vm.findClass RX8 = some m.cls := hown
  have hl : lv_has ls 3 [(0, .ref (a 0)), (1, .int p0)] := hl
  unfold J_X8_writes at hJ
  refine lv_aload_n hx hb dX8_writes_0 rfl (lv_at hl 0 rfl) ?_
  refine va_get (D := (dC, dI)) (ci := 8) (v := .ref (a 2)) (C := RX8) (T := TX8) (N := 27) hx hb hts (fun _ h => List.mem_cons_of_mem _ (List.mem_append_right _ h)) hown hK hP 0 rfl rfl 4 (by decide) (hts _ (List.mem_of_getElem? (i := 1) rfl)) (fun _ h9 => h9) rfl dX8_writes_1 ?_
  refine lv_iconst (v := 4) hx hb dX8_writes_4 (by decide) ?_
  obtain ⟨z1, e2, hJ⟩ := bnd hJ
  refine rd_int (n := 1726) (f := v_world) hx hb hK hP 2 0 rfl rfl e2 dX8_writes_5 ?_
  obtain ⟨z3, e4, hJ⟩ := bnd hJ
  refine roSi (As := [.int z1]) (rest := []) hx hb hml hown hts (c_X8_bitsFor fu l dC dI z1 z3 e4) gX8_writes_X8_bitsFor qX8_bitsFor rfl ⟨Nat.le_of_ble_eq_true rfl, Nat.le_of_ble_eq_true rfl⟩ ⟨rfl, rfl⟩ hNW hK hP hS (hP.sub (ws' := []) [] rfl) (hK.sub (tys' := []) [] rfl) hl.1 rfl rfl (Nat.le_of_ble_eq_true rfl) dX8_writes_6 z0 (fun H locs hP hS => ?_)
  refine lv_istore_n (lv' := [(2, .int z3), (0, .ref (a 0)), (1, .int p0)]) hx hb dX8_writes_9 rfl hl (by decide) rfl (fun ls hl => ?_)
  refine lv_aload_n hx hb dX8_writes_10 rfl (lv_at hl 1 rfl) ?_
  refine va_get (D := (dC, dI)) (ci := 8) (v := .ref (a 2)) (C := RX8) (T := TX8) (N := 27) hx hb hts (fun _ h => List.mem_cons_of_mem _ (List.mem_append_right _ h)) hown hK hP 0 rfl rfl 4 (by decide) (hts _ (List.mem_of_getElem? (i := 1) rfl)) (fun _ h9 => h9) rfl dX8_writes_11 ?_
  refine lv_sipush (v := 926) hx hb dX8_writes_14 (by decide) ?_
  refine lv_aload_n hx hb dX8_writes_17 rfl (lv_at hl 1 rfl) ?_
  refine va_get (D := (dC, dI)) (ci := 8) (v := .ref (a 2)) (C := RX8) (T := TX8) (N := 27) hx hb hts (fun _ h => List.mem_cons_of_mem _ (List.mem_append_right _ h)) hown hK hP 0 rfl rfl 4 (by decide) (hts _ (List.mem_of_getElem? (i := 1) rfl)) (fun _ h9 => h9) rfl dX8_writes_18 ?_
  refine lv_bipush (v := 7) hx hb dX8_writes_21 (by decide) ?_
  obtain ⟨z5, e6, hJ⟩ := bnd hJ
  refine rd_int (n := 1726) (f := v_world) hx hb hK hP 2 0 rfl rfl e6 dX8_writes_23 ?_
  refine lv_iadd hx hb dX8_writes_24 ?_
  refine lv_bipush (v := 16) hx hb dX8_writes_25 (by decide) ?_
  refine lv_iload_n hx hb dX8_writes_27 rfl (lv_at hl 2 rfl) ?_
  refine lv_imul hx hb dX8_writes_28 ?_
  refine lv_iload_n hx hb dX8_writes_29 rfl (lv_at hl 0 rfl) ?_
  refine lv_iadd hx hb dX8_writes_30 ?_
  obtain ⟨g7, e8, hJ⟩ := bnd hJ
  refine wr_int (n := 1726) (f := v_world) (x := ((16 : Int32) * p0) + z3) hx hb hK hP hD hS 2 0 rfl rfl e8 dX8_writes_31 (fun H locs hP hD hS => ?_)
  have hP : va_P (dC, dI) vwCl (MWc a kI kB kZ v_tape v_taped v_errorAt v_thrown g7 v_aside v_undone v_slots v_isKept v_undos v_seenPrefix v_seenLast v_seen v_previous v_gained v_gains v_decoded v_decodes v_readAt v_start v_kind v_word v_letters v_number v_fine v_text v_texted) H := hP
  have hD : va_D A (MWc a kI kB kZ v_tape v_taped v_errorAt v_thrown g7 v_aside v_undone v_slots v_isKept v_undos v_seenPrefix v_seenLast v_seen v_previous v_gained v_gains v_decoded v_decodes v_readAt v_start v_kind v_word v_letters v_number v_fine v_text v_texted) := hD
  refine lv_aload_n hx hb dX8_writes_32 rfl (lv_at hl 1 rfl) ?_
  refine va_get (D := (dC, dI)) (ci := 8) (v := .ref (a 2)) (C := RX8) (T := TX8) (N := 27) hx hb hts (fun _ h => List.mem_cons_of_mem _ (List.mem_append_right _ h)) hown hK hP 0 rfl rfl 4 (by decide) (hts _ (List.mem_of_getElem? (i := 1) rfl)) (fun _ h9 => h9) rfl dX8_writes_33 ?_
  refine lv_bipush (v := 7) hx hb dX8_writes_36 (by decide) ?_
  refine lv_dup2_11 hx hb dX8_writes_38 rfl rfl ?_
  obtain ⟨z9, e10, hJ⟩ := bnd hJ
  refine rd_int (n := 1726) (f := g7) hx hb hK hP 2 0 rfl rfl e10 dX8_writes_39 ?_
  refine lv_iconst (v := 1) hx hb dX8_writes_40 (by decide) ?_
  refine lv_iadd hx hb dX8_writes_41 ?_
  obtain ⟨g11, e12, hJ⟩ := bnd hJ
  refine wr_int (n := 1726) (f := g7) (x := z9 + (1 : Int32)) hx hb hK hP hD hS 2 0 rfl rfl e12 dX8_writes_42 (fun H locs hP hD hS => ?_)
  have hP : va_P (dC, dI) vwCl (MWc a kI kB kZ v_tape v_taped v_errorAt v_thrown g11 v_aside v_undone v_slots v_isKept v_undos v_seenPrefix v_seenLast v_seen v_previous v_gained v_gains v_decoded v_decodes v_readAt v_start v_kind v_word v_letters v_number v_fine v_text v_texted) H := hP
  have hD : va_D A (MWc a kI kB kZ v_tape v_taped v_errorAt v_thrown g11 v_aside v_undone v_slots v_isKept v_undos v_seenPrefix v_seenLast v_seen v_previous v_gained v_gains v_decoded v_decodes v_readAt v_start v_kind v_word v_letters v_number v_fine v_text v_texted) := hD
  refine lv_aload_n hx hb dX8_writes_43 rfl (lv_at hl 1 rfl) ?_
  refine va_get (D := (dC, dI)) (ci := 8) (v := .ref (a 2)) (C := RX8) (T := TX8) (N := 27) hx hb hts (fun _ h => List.mem_cons_of_mem _ (List.mem_append_right _ h)) hown hK hP 0 rfl rfl 4 (by decide) (hts _ (List.mem_of_getElem? (i := 1) rfl)) (fun _ h9 => h9) rfl dX8_writes_44 ?_
  refine lv_bipush (v := 13) hx hb dX8_writes_47 (by decide) ?_
  refine lv_dup2_11 hx hb dX8_writes_49 rfl rfl ?_
  obtain ⟨z13, e14, hJ⟩ := bnd hJ
  refine rd_int (n := 1726) (f := g11) hx hb hK hP 2 0 rfl rfl e14 dX8_writes_50 ?_
  refine lv_aload_n hx hb dX8_writes_51 rfl (lv_at hl 1 rfl) ?_
  refine lv_iload_n hx hb dX8_writes_52 rfl (lv_at hl 2 rfl) ?_
  obtain ⟨z15, e16, hJ⟩ := bnd hJ
  refine roVi (As := [.int p0]) (rest := [.int z13, .int (13 : Int32), .ref (a 2)]) (ci := 8) (q0 := 0) hx hb hml hown hts (c_X8_lengthOf fu l dC dI kI kB kZ a v_tape v_taped v_errorAt v_thrown g11 v_aside v_undone v_slots v_isKept v_undos v_seenPrefix v_seenLast v_seen v_previous v_gained v_gains v_decoded v_decodes v_readAt v_start v_kind v_word v_letters v_number v_fine v_text v_texted p0 z15 e16) gX8_writes_X8_lengthOf qX8_lengthOf rfl ⟨Nat.le_of_ble_eq_true rfl, Nat.le_of_ble_eq_true rfl⟩ ⟨rfl, rfl⟩ hNW hK hP hS hP hK rfl rfl rfl hl.1 rfl rfl (Nat.le_of_ble_eq_true rfl) dX8_writes_53 z0 (fun H locs hP hS => ?_)
  refine lv_iadd hx hb dX8_writes_56 ?_
  obtain ⟨g17, e18, hJ⟩ := bnd hJ
  refine wr_int (n := 1726) (f := g11) (x := z13 + z15) hx hb hK hP hD hS 2 0 rfl rfl e18 dX8_writes_57 (fun H locs hP hD hS => ?_)
  have hP : va_P (dC, dI) vwCl (MWc a kI kB kZ v_tape v_taped v_errorAt v_thrown g17 v_aside v_undone v_slots v_isKept v_undos v_seenPrefix v_seenLast v_seen v_previous v_gained v_gains v_decoded v_decodes v_readAt v_start v_kind v_word v_letters v_number v_fine v_text v_texted) H := hP
  have hD : va_D A (MWc a kI kB kZ v_tape v_taped v_errorAt v_thrown g17 v_aside v_undone v_slots v_isKept v_undos v_seenPrefix v_seenLast v_seen v_previous v_gained v_gains v_decoded v_decodes v_readAt v_start v_kind v_word v_letters v_number v_fine v_text v_texted) := hD
  obtain rfl := Option.some.inj hJ
  exact rw_vret hx hb hr hlocks hP hD hS dX8_writes_58
theorem qX8_writesClear : (yX8_writesClear.cls = RX8) ∧ yX8_writesClear.cls ≠ "java/lang/invoke/MethodHandle" ∧ yX8_writesClear.cls ≠ "java/lang/invoke/VarHandle" ∧ (parseMethodDescriptor yX8_writesClear.desc).map (fun d => d.parameters.length) = some 0 := by decide +kernel
set_option maxHeartbeats 4000000 in
set_option maxRecDepth 100000 in
theorem c_X8_writesClear (fu : Nat) (l : Launch) (dC : Nat → ClassId) (dI : Nat → Nat → Nat) (kI kB kZ : ClassId) (a : Nat → Nat) (v_tape : Nat → Int32) (v_taped : Int32) (v_errorAt : Int32) (v_thrown : Int32) (v_world : Nat → Int32) (v_aside : Nat → Int32) (v_undone : Nat → Int32) (v_slots : Nat → Int32) (v_isKept : Nat → Int32) (v_undos : Int32) (v_seenPrefix : Nat → Int32) (v_seenLast : Nat → Int32) (v_seen : Int32) (v_previous : Int32) (v_gained : Nat → Int32) (v_gains : Int32) (v_decoded : Nat → Int32) (v_decodes : Int32) (v_readAt : Int32) (v_start : Int32) (v_kind : Int32) (v_word : Int64) (v_letters : Int32) (v_number : Int32) (v_fine : Int32) (v_text : Nat → Int32) (v_texted : Int32) (sz : Nat) (z : (Nat → Int32)) (hJ : J_X8_writesClear fu v_world = some z) : Met l yX8_writesClear wsX8_writesClear ({ frames := 4, cells := 0, slots := 0, locals := 86 }) (va_Pc [.ref (a 0)] (RWp dC dI sz (MWc a kI kB kZ v_tape v_taped v_errorAt v_thrown v_world v_aside v_undone v_slots v_isKept v_undos v_seenPrefix v_seenLast v_seen v_previous v_gained v_gains v_decoded v_decodes v_readAt v_start v_kind v_word v_letters v_number v_fine v_text v_texted) [(kI, .int), (kB, .byte), (kZ, .boolean)])) (rwQv dC dI (va_A (MWc a kI kB kZ v_tape v_taped v_errorAt v_thrown v_world v_aside v_undone v_slots v_isKept v_undos v_seenPrefix v_seenLast v_seen v_previous v_gained v_gains v_decoded v_decodes v_readAt v_start v_kind v_word v_letters v_number v_fine v_text v_texted) sz) (MWc a kI kB kZ v_tape v_taped v_errorAt v_thrown z v_aside v_undone v_slots v_isKept v_undos v_seenPrefix v_seenLast v_seen v_previous v_gained v_gains v_decoded v_decodes v_readAt v_start v_kind v_word v_letters v_number v_fine v_text v_texted)) 0 0 (va_A (MWc a kI kB kZ v_tape v_taped v_errorAt v_thrown v_world v_aside v_undone v_slots v_isKept v_undos v_seenPrefix v_seenLast v_seen v_previous v_gained v_gains v_decoded v_decodes v_readAt v_start v_kind v_word v_letters v_number v_fine v_text v_texted) sz) := by
  refine rw_start (Qc := fun A => rwQv dC dI A (MWc a kI kB kZ v_tape v_taped v_errorAt v_thrown z v_aside v_undone v_slots v_isKept v_undos v_seenPrefix v_seenLast v_seen v_previous v_gained v_gains v_decoded v_decodes v_readAt v_start v_kind v_word v_letters v_number v_fine v_text v_texted)) (cc := cX8_writesClear) (maxL := 1) (ret := none) (by decide) rfl (Nat.le_of_ble_eq_true rfl) ?_
  intro p e s m args below meth c hx hb hr hml hown hts hlocks hNW hK A hA H locs ls hP hD hS hl
  have hown : s.vm.findClass RX8 = some m.cls := hown
  have hl : lv_has ls 1 [(0, .ref (a 0))] := hl
  unfold J_X8_writesClear at hJ
  refine lv_aload_n hx hb dX8_writesClear_0 rfl (lv_at hl 0 rfl) ?_
  refine lv_aload_n hx hb dX8_writesClear_1 rfl (lv_at hl 0 rfl) ?_
  obtain ⟨z1, e2, hJ⟩ := bnd hJ
  refine roVi (As := []) (rest := [.ref (a 0)]) (ci := 8) (q0 := 0) hx hb hml hown hts (c_X8_clear l dC dI kI kB kZ a v_tape v_taped v_errorAt v_thrown v_world v_aside v_undone v_slots v_isKept v_undos v_seenPrefix v_seenLast v_seen v_previous v_gained v_gains v_decoded v_decodes v_readAt v_start v_kind v_word v_letters v_number v_fine v_text v_texted z1 e2) gX8_writesClear_X8_clear qX8_clear rfl ⟨Nat.le_of_ble_eq_true rfl, Nat.le_of_ble_eq_true rfl⟩ ⟨rfl, rfl⟩ hNW hK hP hS hP hK rfl rfl rfl hl.1 rfl rfl (Nat.le_of_ble_eq_true rfl) dX8_writesClear_2 z0 (fun H locs hP hS => ?_)
  obtain ⟨z3, e4, hJ⟩ := bnd hJ
  refine rwVvW (As := [.int z1]) (rest := []) (ci := 8) (q0 := 0) hx hb hml hown hts (c_X8_writes fu l dC dI kI kB kZ a v_tape v_taped v_errorAt v_thrown v_world v_aside v_undone v_slots v_isKept v_undos v_seenPrefix v_seenLast v_seen v_previous v_gained v_gains v_decoded v_decodes v_readAt v_start v_kind v_word v_letters v_number v_fine v_text v_texted z1 H.size z3 e4) gX8_writesClear_X8_writes qX8_writes rfl ⟨Nat.le_of_ble_eq_true rfl, Nat.le_of_ble_eq_true rfl⟩ ⟨rfl, rfl⟩ hNW hK hP hD hS hA hK rfl rfl rfl hl.1 rfl rfl (Nat.le_of_ble_eq_true rfl) dX8_writesClear_5 z0 (fun H locs hP hD hS => ?_)
  refine lv_aload_n hx hb dX8_writesClear_8 rfl (lv_at hl 0 rfl) ?_
  refine va_get (D := (dC, dI)) (ci := 8) (v := .ref (a 2)) (C := RX8) (T := TX8) (N := 27) hx hb hts (fun _ h => List.mem_cons_of_mem _ (List.mem_append_right _ h)) hown hK hP 0 rfl rfl 4 (by decide) (hts _ (List.mem_of_getElem? (i := 1) rfl)) (fun _ h9 => h9) rfl dX8_writesClear_9 ?_
  refine lv_bipush (v := 8) hx hb dX8_writesClear_12 (by decide) ?_
  refine lv_dup2_11 hx hb dX8_writesClear_14 rfl rfl ?_
  obtain ⟨z5, e6, hJ⟩ := bnd hJ
  refine rd_int (n := 1726) (f := z3) hx hb hK hP 2 0 rfl rfl e6 dX8_writesClear_15 ?_
  refine lv_iconst (v := 1) hx hb dX8_writesClear_16 (by decide) ?_
  refine lv_iadd hx hb dX8_writesClear_17 ?_
  obtain ⟨g7, e8, hJ⟩ := bnd hJ
  refine wr_int (n := 1726) (f := z3) (x := z5 + (1 : Int32)) hx hb hK hP hD hS 2 0 rfl rfl e8 dX8_writesClear_18 (fun H locs hP hD hS => ?_)
  have hP : va_P (dC, dI) vwCl (MWc a kI kB kZ v_tape v_taped v_errorAt v_thrown g7 v_aside v_undone v_slots v_isKept v_undos v_seenPrefix v_seenLast v_seen v_previous v_gained v_gains v_decoded v_decodes v_readAt v_start v_kind v_word v_letters v_number v_fine v_text v_texted) H := hP
  have hD : va_D A (MWc a kI kB kZ v_tape v_taped v_errorAt v_thrown g7 v_aside v_undone v_slots v_isKept v_undos v_seenPrefix v_seenLast v_seen v_previous v_gained v_gains v_decoded v_decodes v_readAt v_start v_kind v_word v_letters v_number v_fine v_text v_texted) := hD
  refine lv_aload_n hx hb dX8_writesClear_19 rfl (lv_at hl 0 rfl) ?_
  obtain ⟨z9, e10, hJ⟩ := bnd hJ
  refine rwVvW (As := []) (rest := []) (ci := 8) (q0 := 0) hx hb hml hown hts (c_X8_clearsAll l dC dI kI kB kZ a v_tape v_taped v_errorAt v_thrown g7 v_aside v_undone v_slots v_isKept v_undos v_seenPrefix v_seenLast v_seen v_previous v_gained v_gains v_decoded v_decodes v_readAt v_start v_kind v_word v_letters v_number v_fine v_text v_texted H.size z9 e10) gX8_writesClear_X8_clearsAll qX8_clearsAll rfl ⟨Nat.le_of_ble_eq_true rfl, Nat.le_of_ble_eq_true rfl⟩ ⟨rfl, rfl⟩ hNW hK hP hD hS hA hK rfl rfl rfl hl.1 rfl rfl (Nat.le_of_ble_eq_true rfl) dX8_writesClear_20 z0 (fun H locs hP hD hS => ?_)
  obtain rfl := Option.some.inj hJ
  exact rw_vret hx hb hr hlocks hP hD hS dX8_writesClear_23
theorem qX8_plain : (yX8_plain.cls = RX8) ∧ yX8_plain.cls ≠ "java/lang/invoke/MethodHandle" ∧ yX8_plain.cls ≠ "java/lang/invoke/VarHandle" ∧ (parseMethodDescriptor yX8_plain.desc).map (fun d => d.parameters.length) = some 0 := by decide +kernel
set_option maxHeartbeats 4000000 in
set_option maxRecDepth 100000 in
theorem c_X8_plain (fu : Nat) (l : Launch) (dC : Nat → ClassId) (dI : Nat → Nat → Nat) (kI kB kZ : ClassId) (a : Nat → Nat) (v_tape : Nat → Int32) (v_taped : Int32) (v_errorAt : Int32) (v_thrown : Int32) (v_world : Nat → Int32) (v_aside : Nat → Int32) (v_undone : Nat → Int32) (v_slots : Nat → Int32) (v_isKept : Nat → Int32) (v_undos : Int32) (v_seenPrefix : Nat → Int32) (v_seenLast : Nat → Int32) (v_seen : Int32) (v_previous : Int32) (v_gained : Nat → Int32) (v_gains : Int32) (v_decoded : Nat → Int32) (v_decodes : Int32) (v_readAt : Int32) (v_start : Int32) (v_kind : Int32) (v_word : Int64) (v_letters : Int32) (v_number : Int32) (v_fine : Int32) (v_text : Nat → Int32) (v_texted : Int32) (z : Int32) (hJ : J_X8_plain fu v_world = some z) : Met l yX8_plain wsX8_plain ({ frames := 1, cells := 0, slots := 0, locals := 21 }) (va_Pc [.ref (a 0)] (ROp dC dI (MWc a kI kB kZ v_tape v_taped v_errorAt v_thrown v_world v_aside v_undone v_slots v_isKept v_undos v_seenPrefix v_seenLast v_seen v_previous v_gained v_gains v_decoded v_decodes v_readAt v_start v_kind v_word v_letters v_number v_fine v_text v_texted) [(kI, .int), (kB, .byte), (kZ, .boolean)])) (roQi z) 0 0 (fun _ => False) := by
  refine ro_start (cc := cX8_plain) (maxL := 1) (ret := (some .int)) (by decide) rfl (Nat.le_of_ble_eq_true rfl) ?_
  intro p e s m args below meth c hx hb hr hml hown hts hlocks hNW hK H locs ls hP hS hl
  have hown : s.vm.findClass RX8 = some m.cls := hown
  have hl : lv_has ls 1 [(0, .ref (a 0))] := hl
  unfold J_X8_plain at hJ
  refine lv_aload_n hx hb dX8_plain_0 rfl (lv_at hl 0 rfl) ?_
  refine va_get (D := (dC, dI)) (ci := 8) (v := .ref (a 2)) (C := RX8) (T := TX8) (N := 27) hx hb hts (fun _ h => List.mem_cons_of_mem _ (List.mem_append_right _ h)) hown hK hP 0 rfl rfl 4 (by decide) (hts _ (List.mem_of_getElem? (i := 1) rfl)) (fun _ h9 => h9) rfl dX8_plain_1 ?_
  refine lv_iconst (v := 0) hx hb dX8_plain_4 (by decide) ?_
  obtain ⟨z1, e2, hJ⟩ := bnd hJ
  refine rd_int (n := 1726) (f := v_world) hx hb hK hP 2 0 rfl rfl e2 dX8_plain_5 ?_
  obtain ⟨z3, e4, hJ⟩ := bnd hJ
  refine roSi (As := [.int z1]) (rest := []) hx hb hml hown hts (c_X8_bitsFor fu l dC dI z1 z3 e4) gX8_plain_X8_bitsFor qX8_bitsFor rfl ⟨Nat.le_of_ble_eq_true rfl, Nat.le_of_ble_eq_true rfl⟩ ⟨rfl, rfl⟩ hNW hK hP hS (hP.sub (ws' := []) [] rfl) (hK.sub (tys' := []) [] rfl) hl.1 rfl rfl (Nat.le_of_ble_eq_true rfl) dX8_plain_6 z0 (fun H locs hP hS => ?_)
  exact ro_iret hx hb hr hlocks hS hJ dX8_plain_9
theorem qX8_codeAt : (yX8_codeAt.cls = RX8) ∧ yX8_codeAt.cls ≠ "java/lang/invoke/MethodHandle" ∧ yX8_codeAt.cls ≠ "java/lang/invoke/VarHandle" ∧ (parseMethodDescriptor yX8_codeAt.desc).map (fun d => d.parameters.length) = some 1 := by decide +kernel
set_option maxHeartbeats 4000000 in
set_option maxRecDepth 100000 in
theorem c_X8_codeAt (l : Launch) (dC : Nat → ClassId) (dI : Nat → Nat → Nat) (kI kB kZ : ClassId) (a : Nat → Nat) (v_tape : Nat → Int32) (v_taped : Int32) (v_errorAt : Int32) (v_thrown : Int32) (v_world : Nat → Int32) (v_aside : Nat → Int32) (v_undone : Nat → Int32) (v_slots : Nat → Int32) (v_isKept : Nat → Int32) (v_undos : Int32) (v_seenPrefix : Nat → Int32) (v_seenLast : Nat → Int32) (v_seen : Int32) (v_previous : Int32) (v_gained : Nat → Int32) (v_gains : Int32) (v_decoded : Nat → Int32) (v_decodes : Int32) (v_readAt : Int32) (v_start : Int32) (v_kind : Int32) (v_word : Int64) (v_letters : Int32) (v_number : Int32) (v_fine : Int32) (v_text : Nat → Int32) (v_texted : Int32) (p0 : Int32) (z : Int32) (hJ : J_X8_codeAt v_world p0 = some z) : Met l yX8_codeAt wsX8_codeAt ({ frames := 0, cells := 0, slots := 0, locals := 0 }) (va_Pc [.ref (a 0), .int p0] (ROp dC dI (MWc a kI kB kZ v_tape v_taped v_errorAt v_thrown v_world v_aside v_undone v_slots v_isKept v_undos v_seenPrefix v_seenLast v_seen v_previous v_gained v_gains v_decoded v_decodes v_readAt v_start v_kind v_word v_letters v_number v_fine v_text v_texted) [(kI, .int), (kB, .byte), (kZ, .boolean)])) (roQi z) 0 0 (fun _ => False) := by
  refine ro_start (cc := cX8_codeAt) (maxL := 2) (ret := (some .int)) (by decide) rfl (Nat.le_of_ble_eq_true rfl) ?_
  intro p e s m args below meth c hx hb hr hml hown hts hlocks hNW hK H locs ls hP hS hl
  have hown : s.vm.findClass RX8 = some m.cls := hown
  have hl : lv_has ls 2 [(0, .ref (a 0)), (1, .int p0)] := hl
  unfold J_X8_codeAt at hJ
  refine lv_aload_n hx hb dX8_codeAt_0 rfl (lv_at hl 0 rfl) ?_
  refine va_get (D := (dC, dI)) (ci := 8) (v := .ref (a 2)) (C := RX8) (T := TX8) (N := 27) hx hb hts (fun _ h => List.mem_cons_of_mem _ (List.mem_append_right _ h)) hown hK hP 0 rfl rfl 4 (by decide) (hts _ (List.mem_of_getElem? (i := 1) rfl)) (fun _ h9 => h9) rfl dX8_codeAt_1 ?_
  refine lv_sipush (v := 926) hx hb dX8_codeAt_4 (by decide) ?_
  refine lv_iload_n hx hb dX8_codeAt_7 rfl (lv_at hl 1 rfl) ?_
  refine lv_iadd hx hb dX8_codeAt_8 ?_
  obtain ⟨z1, e2, hJ⟩ := bnd hJ
  refine rd_int (n := 1726) (f := v_world) hx hb hK hP 2 0 rfl rfl e2 dX8_codeAt_9 ?_
  refine lv_bipush (v := 16) hx hb dX8_codeAt_10 (by decide) ?_
  refine lv_idiv hx hb dX8_codeAt_12 (by decide) ?_
  exact ro_iret hx hb hr hlocks hS hJ dX8_codeAt_13
theorem qX8_widthAt : (yX8_widthAt.cls = RX8) ∧ yX8_widthAt.cls ≠ "java/lang/invoke/MethodHandle" ∧ yX8_widthAt.cls ≠ "java/lang/invoke/VarHandle" ∧ (parseMethodDescriptor yX8_widthAt.desc).map (fun d => d.parameters.length) = some 1 := by decide +kernel
set_option maxHeartbeats 4000000 in
set_option maxRecDepth 100000 in
theorem c_X8_widthAt (l : Launch) (dC : Nat → ClassId) (dI : Nat → Nat → Nat) (kI kB kZ : ClassId) (a : Nat → Nat) (v_tape : Nat → Int32) (v_taped : Int32) (v_errorAt : Int32) (v_thrown : Int32) (v_world : Nat → Int32) (v_aside : Nat → Int32) (v_undone : Nat → Int32) (v_slots : Nat → Int32) (v_isKept : Nat → Int32) (v_undos : Int32) (v_seenPrefix : Nat → Int32) (v_seenLast : Nat → Int32) (v_seen : Int32) (v_previous : Int32) (v_gained : Nat → Int32) (v_gains : Int32) (v_decoded : Nat → Int32) (v_decodes : Int32) (v_readAt : Int32) (v_start : Int32) (v_kind : Int32) (v_word : Int64) (v_letters : Int32) (v_number : Int32) (v_fine : Int32) (v_text : Nat → Int32) (v_texted : Int32) (p0 : Int32) (z : Int32) (hJ : J_X8_widthAt v_world p0 = some z) : Met l yX8_widthAt wsX8_widthAt ({ frames := 0, cells := 0, slots := 0, locals := 0 }) (va_Pc [.ref (a 0), .int p0] (ROp dC dI (MWc a kI kB kZ v_tape v_taped v_errorAt v_thrown v_world v_aside v_undone v_slots v_isKept v_undos v_seenPrefix v_seenLast v_seen v_previous v_gained v_gains v_decoded v_decodes v_readAt v_start v_kind v_word v_letters v_number v_fine v_text v_texted) [(kI, .int), (kB, .byte), (kZ, .boolean)])) (roQi z) 0 0 (fun _ => False) := by
  refine ro_start (cc := cX8_widthAt) (maxL := 2) (ret := (some .int)) (by decide) rfl (Nat.le_of_ble_eq_true rfl) ?_
  intro p e s m args below meth c hx hb hr hml hown hts hlocks hNW hK H locs ls hP hS hl
  have hown : s.vm.findClass RX8 = some m.cls := hown
  have hl : lv_has ls 2 [(0, .ref (a 0)), (1, .int p0)] := hl
  unfold J_X8_widthAt at hJ
  refine lv_aload_n hx hb dX8_widthAt_0 rfl (lv_at hl 0 rfl) ?_
  refine va_get (D := (dC, dI)) (ci := 8) (v := .ref (a 2)) (C := RX8) (T := TX8) (N := 27) hx hb hts (fun _ h => List.mem_cons_of_mem _ (List.mem_append_right _ h)) hown hK hP 0 rfl rfl 4 (by decide) (hts _ (List.mem_of_getElem? (i := 1) rfl)) (fun _ h9 => h9) rfl dX8_widthAt_1 ?_
  refine lv_sipush (v := 926) hx hb dX8_widthAt_4 (by decide) ?_
  refine lv_iload_n hx hb dX8_widthAt_7 rfl (lv_at hl 1 rfl) ?_
  refine lv_iadd hx hb dX8_widthAt_8 ?_
  obtain ⟨z1, e2, hJ⟩ := bnd hJ
  refine rd_int (n := 1726) (f := v_world) hx hb hK hP 2 0 rfl rfl e2 dX8_widthAt_9 ?_
  refine lv_bipush (v := 16) hx hb dX8_widthAt_10 (by decide) ?_
  refine lv_irem hx hb dX8_widthAt_12 (by decide) ?_
  exact ro_iret hx hb hr hlocks hS hJ dX8_widthAt_13
theorem qX8_symbolsSince : (yX8_symbolsSince.cls = RX8) ∧ yX8_symbolsSince.cls ≠ "java/lang/invoke/MethodHandle" ∧ yX8_symbolsSince.cls ≠ "java/lang/invoke/VarHandle" ∧ (parseMethodDescriptor yX8_symbolsSince.desc).map (fun d => d.parameters.length) = some 0 := by decide +kernel
set_option maxHeartbeats 4000000 in
set_option maxRecDepth 100000 in
theorem c_X8_symbolsSince (fu : Nat) (l : Launch) (dC : Nat → ClassId) (dI : Nat → Nat → Nat) (kI kB kZ : ClassId) (a : Nat → Nat) (v_tape : Nat → Int32) (v_taped : Int32) (v_errorAt : Int32) (v_thrown : Int32) (v_world : Nat → Int32) (v_aside : Nat → Int32) (v_undone : Nat → Int32) (v_slots : Nat → Int32) (v_isKept : Nat → Int32) (v_undos : Int32) (v_seenPrefix : Nat → Int32) (v_seenLast : Nat → Int32) (v_seen : Int32) (v_previous : Int32) (v_gained : Nat → Int32) (v_gains : Int32) (v_decoded : Nat → Int32) (v_decodes : Int32) (v_readAt : Int32) (v_start : Int32) (v_kind : Int32) (v_word : Int64) (v_letters : Int32) (v_number : Int32) (v_fine : Int32) (v_text : Nat → Int32) (v_texted : Int32) (z : Int32) (hJ : J_X8_symbolsSince fu v_world = some z) : Met l yX8_symbolsSince wsX8_symbolsSince ({ frames := 3, cells := 0, slots := 0, locals := 64 }) (va_Pc [.ref (a 0)] (ROp dC dI (MWc a kI kB kZ v_tape v_taped v_errorAt v_thrown v_world v_aside v_undone v_slots v_isKept v_undos v_seenPrefix v_seenLast v_seen v_previous v_gained v_gains v_decoded v_decodes v_readAt v_start v_kind v_word v_letters v_number v_fine v_text v_texted) [(kI, .int), (kB, .byte), (kZ, .boolean)])) (roQi z) 0 0 (fun _ => False) := by
  refine ro_start (cc := cX8_symbolsSince) (maxL := 3) (ret := (some .int)) (by decide) rfl (Nat.le_of_ble_eq_true rfl) ?_
  intro p e s m args below meth c hx hb hr hml hown hts hlocks hNW hK H locs ls hP hS hl
  have hown : s.vm.findClass RX8 = some m.cls := hown
  have hl : lv_has ls 3 [(0, .ref (a 0))] := hl
  unfold J_X8_symbolsSince at hJ
  have L10 : ∀ (n : Nat) (y1 : Int32) (y2 : Int32) (H : Heap) (locs : List Loc) (ls : Array Slot), va_P (dC, dI) vwCl (MWc a kI kB kZ v_tape v_taped v_errorAt v_thrown v_world v_aside v_undone v_slots v_isKept v_undos v_seenPrefix v_seenLast v_seen v_previous v_gained v_gains v_decoded v_decodes v_readAt v_start v_kind v_word v_letters v_number v_fine v_text v_texted) H → va_S (fun _ => False) s.heap H locs → lv_has ls 3 [(0, .ref (a 0)), (1, .int y1), (2, .int y2)] → J_X8_symbolsSince_b10 fu v_world n y1 y2 = some z → W p l e ({ frames := 3, cells := 0, slots := 0, locals := 64 }) s m args below meth c H locs 0 0 (MQ below (roQi z) args s 0 0 (fun _ => False)) (F0 m 10 ls []) := by
    intro n
    induction n with
    | zero =>
      intro y1 y2 H locs ls hP hS hl hJ
      rw [J_X8_symbolsSince_b10] at hJ; cases hJ
    | succ n ih =>
      intro y1 y2 H locs ls hP hS hl hJ
      rw [J_X8_symbolsSince_b10] at hJ
      refine lv_iload_n hx hb dX8_symbolsSince_10 rfl (lv_at hl 2 rfl) ?_
      refine lv_aload_n hx hb dX8_symbolsSince_11 rfl (lv_at hl 0 rfl) ?_
      refine va_get (D := (dC, dI)) (ci := 8) (v := .ref (a 2)) (C := RX8) (T := TX8) (N := 27) hx hb hts (fun _ h => List.mem_cons_of_mem _ (List.mem_append_right _ h)) hown hK hP 0 rfl rfl 4 (by decide) (hts _ (List.mem_of_getElem? (i := 1) rfl)) (fun _ h9 => h9) rfl dX8_symbolsSince_12 ?_
      refine lv_bipush (v := 7) hx hb dX8_symbolsSince_15 (by decide) ?_
      obtain ⟨z3, e4, hJ⟩ := bnd hJ
      refine rd_int (n := 1726) (f := v_world) hx hb hK hP 2 0 rfl rfl e4 dX8_symbolsSince_17 ?_
      refine lv_icmp_ge (tgt := 39) hx hb dX8_symbolsSince_18 (by decide) (fun c5 => ?_) (fun c5 => ?_)
      · have hJ := ite_t c5 hJ
        refine lv_iload_n hx hb dX8_symbolsSince_39 rfl (lv_at hl 1 rfl) ?_
        exact ro_iret hx hb hr hlocks hS hJ dX8_symbolsSince_40
      · have hJ := ite_f c5 hJ
        refine lv_iload_n hx hb dX8_symbolsSince_21 rfl (lv_at hl 1 rfl) ?_
        refine lv_aload_n hx hb dX8_symbolsSince_22 rfl (lv_at hl 0 rfl) ?_
        refine lv_aload_n hx hb dX8_symbolsSince_23 rfl (lv_at hl 0 rfl) ?_
        refine lv_iload_n hx hb dX8_symbolsSince_24 rfl (lv_at hl 2 rfl) ?_
        obtain ⟨z6, e7, hJ⟩ := bnd hJ
        refine roVi (As := [.int y2]) (rest := [.ref (a 0), .int y1]) (ci := 8) (q0 := 0) hx hb hml hown hts (c_X8_codeAt l dC dI kI kB kZ a v_tape v_taped v_errorAt v_thrown v_world v_aside v_undone v_slots v_isKept v_undos v_seenPrefix v_seenLast v_seen v_previous v_gained v_gains v_decoded v_decodes v_readAt v_start v_kind v_word v_letters v_number v_fine v_text v_texted y2 z6 e7) gX8_symbolsSince_X8_codeAt qX8_codeAt rfl ⟨Nat.le_of_ble_eq_true rfl, Nat.le_of_ble_eq_true rfl⟩ ⟨rfl, rfl⟩ hNW hK hP hS hP hK rfl rfl rfl hl.1 rfl rfl (Nat.le_of_ble_eq_true rfl) dX8_symbolsSince_25 z0 (fun H locs hP hS => ?_)
        obtain ⟨z8, e9, hJ⟩ := bnd hJ
        refine roVi (As := [.int z6]) (rest := [.int y1]) (ci := 8) (q0 := 0) hx hb hml hown hts (c_X8_lengthOf fu l dC dI kI kB kZ a v_tape v_taped v_errorAt v_thrown v_world v_aside v_undone v_slots v_isKept v_undos v_seenPrefix v_seenLast v_seen v_previous v_gained v_gains v_decoded v_decodes v_readAt v_start v_kind v_word v_letters v_number v_fine v_text v_texted z6 z8 e9) gX8_symbolsSince_X8_lengthOf qX8_lengthOf rfl ⟨Nat.le_of_ble_eq_true rfl, Nat.le_of_ble_eq_true rfl⟩ ⟨rfl, rfl⟩ hNW hK hP hS hP hK rfl rfl rfl hl.1 rfl rfl (Nat.le_of_ble_eq_true rfl) dX8_symbolsSince_28 z0 (fun H locs hP hS => ?_)
        refine lv_iadd hx hb dX8_symbolsSince_31 ?_
        refine lv_istore_n (lv' := [(1, .int (y1 + z8)), (0, .ref (a 0)), (2, .int y2)]) hx hb dX8_symbolsSince_32 rfl hl (by decide) rfl (fun ls hl => ?_)
        refine lv_iinc (v := y2 + 1) (lv' := [(2, .int (y2 + 1)), (1, .int (y1 + z8)), (0, .ref (a 0))]) hx hb dX8_symbolsSince_33 hl (k := 2) rfl rfl (by decide) rfl (fun ls hl => ?_)
        refine lv_goto (tgt := 10) hx hb dX8_symbolsSince_36 (by decide) ?_
        exact ih (y1 + z8) (y2 + 1) H locs ls hP hS (lv_sub hl [2, 1, 0] rfl) hJ
  refine lv_iconst (v := 0) hx hb dX8_symbolsSince_0 (by decide) ?_
  refine lv_istore_n (lv' := [(1, .int (0 : Int32)), (0, .ref (a 0))]) hx hb dX8_symbolsSince_1 rfl hl (by decide) rfl (fun ls hl => ?_)
  refine lv_aload_n hx hb dX8_symbolsSince_2 rfl (lv_at hl 1 rfl) ?_
  refine va_get (D := (dC, dI)) (ci := 8) (v := .ref (a 2)) (C := RX8) (T := TX8) (N := 27) hx hb hts (fun _ h => List.mem_cons_of_mem _ (List.mem_append_right _ h)) hown hK hP 0 rfl rfl 4 (by decide) (hts _ (List.mem_of_getElem? (i := 1) rfl)) (fun _ h9 => h9) rfl dX8_symbolsSince_3 ?_
  refine lv_bipush (v := 9) hx hb dX8_symbolsSince_6 (by decide) ?_
  obtain ⟨z1, e2, hJ⟩ := bnd hJ
  refine rd_int (n := 1726) (f := v_world) hx hb hK hP 2 0 rfl rfl e2 dX8_symbolsSince_8 ?_
  refine lv_istore_n (lv' := [(2, .int z1), (1, .int (0 : Int32)), (0, .ref (a 0))]) hx hb dX8_symbolsSince_9 rfl hl (by decide) rfl (fun ls hl => ?_)
  exact L10 fu (0 : Int32) z1 H locs ls hP hS (lv_sub hl [2, 1, 0] rfl) hJ
theorem qX8_bitsFrom : (yX8_bitsFrom.cls = RX8) ∧ yX8_bitsFrom.cls ≠ "java/lang/invoke/MethodHandle" ∧ yX8_bitsFrom.cls ≠ "java/lang/invoke/VarHandle" ∧ (parseMethodDescriptor yX8_bitsFrom.desc).map (fun d => d.parameters.length) = some 1 := by decide +kernel
set_option maxHeartbeats 4000000 in
set_option maxRecDepth 100000 in
theorem c_X8_bitsFrom (fu : Nat) (l : Launch) (dC : Nat → ClassId) (dI : Nat → Nat → Nat) (kI kB kZ : ClassId) (a : Nat → Nat) (v_tape : Nat → Int32) (v_taped : Int32) (v_errorAt : Int32) (v_thrown : Int32) (v_world : Nat → Int32) (v_aside : Nat → Int32) (v_undone : Nat → Int32) (v_slots : Nat → Int32) (v_isKept : Nat → Int32) (v_undos : Int32) (v_seenPrefix : Nat → Int32) (v_seenLast : Nat → Int32) (v_seen : Int32) (v_previous : Int32) (v_gained : Nat → Int32) (v_gains : Int32) (v_decoded : Nat → Int32) (v_decodes : Int32) (v_readAt : Int32) (v_start : Int32) (v_kind : Int32) (v_word : Int64) (v_letters : Int32) (v_number : Int32) (v_fine : Int32) (v_text : Nat → Int32) (v_texted : Int32) (p0 : Int32) (z : Int32) (hJ : J_X8_bitsFrom fu v_world p0 = some z) : Met l yX8_bitsFrom wsX8_bitsFrom ({ frames := 1, cells := 0, slots := 0, locals := 21 }) (va_Pc [.ref (a 0), .int p0] (ROp dC dI (MWc a kI kB kZ v_tape v_taped v_errorAt v_thrown v_world v_aside v_undone v_slots v_isKept v_undos v_seenPrefix v_seenLast v_seen v_previous v_gained v_gains v_decoded v_decodes v_readAt v_start v_kind v_word v_letters v_number v_fine v_text v_texted) [(kI, .int), (kB, .byte), (kZ, .boolean)])) (roQi z) 0 0 (fun _ => False) := by
  refine ro_start (cc := cX8_bitsFrom) (maxL := 4) (ret := (some .int)) (by decide) rfl (Nat.le_of_ble_eq_true rfl) ?_
  intro p e s m args below meth c hx hb hr hml hown hts hlocks hNW hK H locs ls hP hS hl
  have hown : s.vm.findClass RX8 = some m.cls := hown
  have hl : lv_has ls 4 [(0, .ref (a 0)), (1, .int p0)] := hl
  unfold J_X8_bitsFrom at hJ
  have L4 : ∀ (n : Nat) (y2 : Int32) (y3 : Int32) (H : Heap) (locs : List Loc) (ls : Array Slot), va_P (dC, dI) vwCl (MWc a kI kB kZ v_tape v_taped v_errorAt v_thrown v_world v_aside v_undone v_slots v_isKept v_undos v_seenPrefix v_seenLast v_seen v_previous v_gained v_gains v_decoded v_decodes v_readAt v_start v_kind v_word v_letters v_number v_fine v_text v_texted) H → va_S (fun _ => False) s.heap H locs → lv_has ls 4 [(0, .ref (a 0)), (2, .int y2), (3, .int y3)] → J_X8_bitsFrom_b4 fu v_world n y2 y3 = some z → W p l e ({ frames := 1, cells := 0, slots := 0, locals := 21 }) s m args below meth c H locs 0 0 (MQ below (roQi z) args s 0 0 (fun _ => False)) (F0 m 4 ls []) := by
    intro n
    induction n with
    | zero =>
      intro y2 y3 H locs ls hP hS hl hJ
      rw [J_X8_bitsFrom_b4] at hJ; cases hJ
    | succ n ih =>
      intro y2 y3 H locs ls hP hS hl hJ
      rw [J_X8_bitsFrom_b4] at hJ
      refine lv_iload_n hx hb dX8_bitsFrom_4 rfl (lv_at hl 2 rfl) ?_
      refine lv_aload_n hx hb dX8_bitsFrom_5 rfl (lv_at hl 0 rfl) ?_
      refine va_get (D := (dC, dI)) (ci := 8) (v := .ref (a 2)) (C := RX8) (T := TX8) (N := 27) hx hb hts (fun _ h => List.mem_cons_of_mem _ (List.mem_append_right _ h)) hown hK hP 0 rfl rfl 4 (by decide) (hts _ (List.mem_of_getElem? (i := 1) rfl)) (fun _ h9 => h9) rfl dX8_bitsFrom_6 ?_
      refine lv_bipush (v := 7) hx hb dX8_bitsFrom_9 (by decide) ?_
      obtain ⟨z1, e2, hJ⟩ := bnd hJ
      refine rd_int (n := 1726) (f := v_world) hx hb hK hP 2 0 rfl rfl e2 dX8_bitsFrom_11 ?_
      refine lv_icmp_ge (tgt := 29) hx hb dX8_bitsFrom_12 (by decide) (fun c3 => ?_) (fun c3 => ?_)
      · have hJ := ite_t c3 hJ
        refine lv_iload_n hx hb dX8_bitsFrom_29 rfl (lv_at hl 1 rfl) ?_
        exact ro_iret hx hb hr hlocks hS hJ dX8_bitsFrom_30
      · have hJ := ite_f c3 hJ
        refine lv_iload_n hx hb dX8_bitsFrom_15 rfl (lv_at hl 1 rfl) ?_
        refine lv_aload_n hx hb dX8_bitsFrom_16 rfl (lv_at hl 0 rfl) ?_
        refine lv_iload_n hx hb dX8_bitsFrom_17 rfl (lv_at hl 2 rfl) ?_
        obtain ⟨z4, e5, hJ⟩ := bnd hJ
        refine roVi (As := [.int y3]) (rest := [.int y2]) (ci := 8) (q0 := 0) hx hb hml hown hts (c_X8_widthAt l dC dI kI kB kZ a v_tape v_taped v_errorAt v_thrown v_world v_aside v_undone v_slots v_isKept v_undos v_seenPrefix v_seenLast v_seen v_previous v_gained v_gains v_decoded v_decodes v_readAt v_start v_kind v_word v_letters v_number v_fine v_text v_texted y3 z4 e5) gX8_bitsFrom_X8_widthAt qX8_widthAt rfl ⟨Nat.le_of_ble_eq_true rfl, Nat.le_of_ble_eq_true rfl⟩ ⟨rfl, rfl⟩ hNW hK hP hS hP hK rfl rfl rfl hl.1 rfl rfl (Nat.le_of_ble_eq_true rfl) dX8_bitsFrom_18 z0 (fun H locs hP hS => ?_)
        refine lv_iadd hx hb dX8_bitsFrom_21 ?_
        refine lv_istore_n (lv' := [(2, .int (y2 + z4)), (0, .ref (a 0)), (3, .int y3)]) hx hb dX8_bitsFrom_22 rfl hl (by decide) rfl (fun ls hl => ?_)
        refine lv_iinc (v := y3 + 1) (lv' := [(3, .int (y3 + 1)), (2, .int (y2 + z4)), (0, .ref (a 0))]) hx hb dX8_bitsFrom_23 hl (k := 2) rfl rfl (by decide) rfl (fun ls hl => ?_)
        refine lv_goto (tgt := 4) hx hb dX8_bitsFrom_26 (by decide) ?_
        exact ih (y2 + z4) (y3 + 1) H locs ls hP hS (lv_sub hl [2, 1, 0] rfl) hJ
  refine lv_iconst (v := 0) hx hb dX8_bitsFrom_0 (by decide) ?_
  refine lv_istore_n (lv' := [(2, .int (0 : Int32)), (0, .ref (a 0)), (1, .int p0)]) hx hb dX8_bitsFrom_1 rfl hl (by decide) rfl (fun ls hl => ?_)
  refine lv_iload_n hx hb dX8_bitsFrom_2 rfl (lv_at hl 2 rfl) ?_
  refine lv_istore_n (lv' := [(3, .int p0), (2, .int (0 : Int32)), (0, .ref (a 0)), (1, .int p0)]) hx hb dX8_bitsFrom_3 rfl hl (by decide) rfl (fun ls hl => ?_)
  exact L4 fu (0 : Int32) p0 H locs ls hP hS (lv_sub hl [2, 1, 0] rfl) hJ
theorem qX8_bitsSince : (yX8_bitsSince.cls = RX8) ∧ yX8_bitsSince.cls ≠ "java/lang/invoke/MethodHandle" ∧ yX8_bitsSince.cls ≠ "java/lang/invoke/VarHandle" ∧ (parseMethodDescriptor yX8_bitsSince.desc).map (fun d => d.parameters.length) = some 0 := by decide +kernel
set_option maxHeartbeats 4000000 in
set_option maxRecDepth 100000 in
theorem c_X8_bitsSince (fu : Nat) (l : Launch) (dC : Nat → ClassId) (dI : Nat → Nat → Nat) (kI kB kZ : ClassId) (a : Nat → Nat) (v_tape : Nat → Int32) (v_taped : Int32) (v_errorAt : Int32) (v_thrown : Int32) (v_world : Nat → Int32) (v_aside : Nat → Int32) (v_undone : Nat → Int32) (v_slots : Nat → Int32) (v_isKept : Nat → Int32) (v_undos : Int32) (v_seenPrefix : Nat → Int32) (v_seenLast : Nat → Int32) (v_seen : Int32) (v_previous : Int32) (v_gained : Nat → Int32) (v_gains : Int32) (v_decoded : Nat → Int32) (v_decodes : Int32) (v_readAt : Int32) (v_start : Int32) (v_kind : Int32) (v_word : Int64) (v_letters : Int32) (v_number : Int32) (v_fine : Int32) (v_text : Nat → Int32) (v_texted : Int32) (z : Int32) (hJ : J_X8_bitsSince fu v_world = some z) : Met l yX8_bitsSince wsX8_bitsSince ({ frames := 2, cells := 0, slots := 0, locals := 44 }) (va_Pc [.ref (a 0)] (ROp dC dI (MWc a kI kB kZ v_tape v_taped v_errorAt v_thrown v_world v_aside v_undone v_slots v_isKept v_undos v_seenPrefix v_seenLast v_seen v_previous v_gained v_gains v_decoded v_decodes v_readAt v_start v_kind v_word v_letters v_number v_fine v_text v_texted) [(kI, .int), (kB, .byte), (kZ, .boolean)])) (roQi z) 0 0 (fun _ => False) := by
  refine ro_start (cc := cX8_bitsSince) (maxL := 1) (ret := (some .int)) (by decide) rfl (Nat.le_of_ble_eq_true rfl) ?_
  intro p e s m args below meth c hx hb hr hml hown hts hlocks hNW hK H locs ls hP hS hl
  have hown : s.vm.findClass RX8 = some m.cls := hown
  have hl : lv_has ls 1 [(0, .ref (a 0))] := hl
  unfold J_X8_bitsSince at hJ
  refine lv_aload_n hx hb dX8_bitsSince_0 rfl (lv_at hl 0 rfl) ?_
  refine lv_aload_n hx hb dX8_bitsSince_1 rfl (lv_at hl 0 rfl) ?_
  refine va_get (D := (dC, dI)) (ci := 8) (v := .ref (a 2)) (C := RX8) (T := TX8) (N := 27) hx hb hts (fun _ h => List.mem_cons_of_mem _ (List.mem_append_right _ h)) hown hK hP 0 rfl rfl 4 (by decide) (hts _ (List.mem_of_getElem? (i := 1) rfl)) (fun _ h9 => h9) rfl dX8_bitsSince_2 ?_
  refine lv_bipush (v := 9) hx hb dX8_bitsSince_5 (by decide) ?_
  obtain ⟨z1, e2, hJ⟩ := bnd hJ
  refine rd_int (n := 1726) (f := v_world) hx hb hK hP 2 0 rfl rfl e2 dX8_bitsSince_7 ?_
  obtain ⟨z3, e4, hJ⟩ := bnd hJ
  refine roVi (As := [.int z1]) (rest := []) (ci := 8) (q0 := 0) hx hb hml hown hts (c_X8_bitsFrom fu l dC dI kI kB kZ a v_tape v_taped v_errorAt v_thrown v_world v_aside v_undone v_slots v_isKept v_undos v_seenPrefix v_seenLast v_seen v_previous v_gained v_gains v_decoded v_decodes v_readAt v_start v_kind v_word v_letters v_number v_fine v_text v_texted z1 z3 e4) gX8_bitsSince_X8_bitsFrom qX8_bitsFrom rfl ⟨Nat.le_of_ble_eq_true rfl, Nat.le_of_ble_eq_true rfl⟩ ⟨rfl, rfl⟩ hNW hK hP hS hP hK rfl rfl rfl hl.1 rfl rfl (Nat.le_of_ble_eq_true rfl) dX8_bitsSince_8 z0 (fun H locs hP hS => ?_)
  exact ro_iret hx hb hr hlocks hS hJ dX8_bitsSince_11
theorem qX8_allBits : (yX8_allBits.cls = RX8) ∧ yX8_allBits.cls ≠ "java/lang/invoke/MethodHandle" ∧ yX8_allBits.cls ≠ "java/lang/invoke/VarHandle" ∧ (parseMethodDescriptor yX8_allBits.desc).map (fun d => d.parameters.length) = some 0 := by decide +kernel
set_option maxHeartbeats 4000000 in
set_option maxRecDepth 100000 in
theorem c_X8_allBits (fu : Nat) (l : Launch) (dC : Nat → ClassId) (dI : Nat → Nat → Nat) (kI kB kZ : ClassId) (a : Nat → Nat) (v_tape : Nat → Int32) (v_taped : Int32) (v_errorAt : Int32) (v_thrown : Int32) (v_world : Nat → Int32) (v_aside : Nat → Int32) (v_undone : Nat → Int32) (v_slots : Nat → Int32) (v_isKept : Nat → Int32) (v_undos : Int32) (v_seenPrefix : Nat → Int32) (v_seenLast : Nat → Int32) (v_seen : Int32) (v_previous : Int32) (v_gained : Nat → Int32) (v_gains : Int32) (v_decoded : Nat → Int32) (v_decodes : Int32) (v_readAt : Int32) (v_start : Int32) (v_kind : Int32) (v_word : Int64) (v_letters : Int32) (v_number : Int32) (v_fine : Int32) (v_text : Nat → Int32) (v_texted : Int32) (z : Int32) (hJ : J_X8_allBits fu v_world = some z) : Met l yX8_allBits wsX8_allBits ({ frames := 2, cells := 0, slots := 0, locals := 44 }) (va_Pc [.ref (a 0)] (ROp dC dI (MWc a kI kB kZ v_tape v_taped v_errorAt v_thrown v_world v_aside v_undone v_slots v_isKept v_undos v_seenPrefix v_seenLast v_seen v_previous v_gained v_gains v_decoded v_decodes v_readAt v_start v_kind v_word v_letters v_number v_fine v_text v_texted) [(kI, .int), (kB, .byte), (kZ, .boolean)])) (roQi z) 0 0 (fun _ => False) := by
  refine ro_start (cc := cX8_allBits) (maxL := 1) (ret := (some .int)) (by decide) rfl (Nat.le_of_ble_eq_true rfl) ?_
  intro p e s m args below meth c hx hb hr hml hown hts hlocks hNW hK H locs ls hP hS hl
  have hown : s.vm.findClass RX8 = some m.cls := hown
  have hl : lv_has ls 1 [(0, .ref (a 0))] := hl
  unfold J_X8_allBits at hJ
  refine lv_aload_n hx hb dX8_allBits_0 rfl (lv_at hl 0 rfl) ?_
  refine lv_iconst (v := 0) hx hb dX8_allBits_1 (by decide) ?_
  obtain ⟨z1, e2, hJ⟩ := bnd hJ
  refine roVi (As := [.int (0 : Int32)]) (rest := []) (ci := 8) (q0 := 0) hx hb hml hown hts (c_X8_bitsFrom fu l dC dI kI kB kZ a v_tape v_taped v_errorAt v_thrown v_world v_aside v_undone v_slots v_isKept v_undos v_seenPrefix v_seenLast v_seen v_previous v_gained v_gains v_decoded v_decodes v_readAt v_start v_kind v_word v_letters v_number v_fine v_text v_texted (0 : Int32) z1 e2) gX8_allBits_X8_bitsFrom qX8_bitsFrom rfl ⟨Nat.le_of_ble_eq_true rfl, Nat.le_of_ble_eq_true rfl⟩ ⟨rfl, rfl⟩ hNW hK hP hS hP hK rfl rfl rfl hl.1 rfl rfl (Nat.le_of_ble_eq_true rfl) dX8_allBits_2 z0 (fun H locs hP hS => ?_)
  exact ro_iret hx hb hr hlocks hS hJ dX8_allBits_5
theorem qX8_percentOf : (yX8_percentOf.cls = RX8) ∧ yX8_percentOf.cls ≠ "java/lang/invoke/MethodHandle" ∧ yX8_percentOf.cls ≠ "java/lang/invoke/VarHandle" ∧ (parseMethodDescriptor yX8_percentOf.desc).map (fun d => d.parameters.length) = some 2 := by decide +kernel
set_option maxHeartbeats 4000000 in
set_option maxRecDepth 100000 in
theorem c_X8_percentOf (fu : Nat) (l : Launch) (dC : Nat → ClassId) (dI : Nat → Nat → Nat) (kI kB kZ : ClassId) (a : Nat → Nat) (v_tape : Nat → Int32) (v_taped : Int32) (v_errorAt : Int32) (v_thrown : Int32) (v_world : Nat → Int32) (v_aside : Nat → Int32) (v_undone : Nat → Int32) (v_slots : Nat → Int32) (v_isKept : Nat → Int32) (v_undos : Int32) (v_seenPrefix : Nat → Int32) (v_seenLast : Nat → Int32) (v_seen : Int32) (v_previous : Int32) (v_gained : Nat → Int32) (v_gains : Int32) (v_decoded : Nat → Int32) (v_decodes : Int32) (v_readAt : Int32) (v_start : Int32) (v_kind : Int32) (v_word : Int64) (v_letters : Int32) (v_number : Int32) (v_fine : Int32) (v_text : Nat → Int32) (v_texted : Int32) (p0 : Int32) (p1 : Int32) (z : Int32) (hJ : J_X8_percentOf fu v_world p0 p1 = some z) : Met l yX8_percentOf wsX8_percentOf ({ frames := 2, cells := 0, slots := 0, locals := 41 }) (va_Pc [.ref (a 0), .int p0, .int p1] (ROp dC dI (MWc a kI kB kZ v_tape v_taped v_errorAt v_thrown v_world v_aside v_undone v_slots v_isKept v_undos v_seenPrefix v_seenLast v_seen v_previous v_gained v_gains v_decoded v_decodes v_readAt v_start v_kind v_word v_letters v_number v_fine v_text v_texted) [(kI, .int), (kB, .byte), (kZ, .boolean)])) (roQi z) 0 0 (fun _ => False) := by
  refine ro_start (cc := cX8_percentOf) (maxL := 3) (ret := (some .int)) (by decide) rfl (Nat.le_of_ble_eq_true rfl) ?_
  intro p e s m args below meth c hx hb hr hml hown hts hlocks hNW hK H locs ls hP hS hl
  have hown : s.vm.findClass RX8 = some m.cls := hown
  have hl : lv_has ls 3 [(0, .ref (a 0)), (1, .int p0), (2, .int p1)] := hl
  unfold J_X8_percentOf at hJ
  refine lv_iload_n hx hb dX8_percentOf_0 rfl (lv_at hl 2 rfl) ?_
  refine lv_if_ne (tgt := 6) hx hb dX8_percentOf_1 (by decide) (fun c1 => ?_) (fun c1 => ?_)
  · have hJ := ite_f c1 hJ
    refine lv_bipush (v := 100) hx hb dX8_percentOf_6 (by decide) ?_
    refine lv_iload_n hx hb dX8_percentOf_8 rfl (lv_at hl 1 rfl) ?_
    refine lv_imul hx hb dX8_percentOf_9 ?_
    refine lv_iload_n hx hb dX8_percentOf_10 rfl (lv_at hl 2 rfl) ?_
    refine lv_aload_n hx hb dX8_percentOf_11 rfl (lv_at hl 0 rfl) ?_
    obtain ⟨z2, e3, hJ⟩ := bnd hJ
    refine roVi (As := []) (rest := [.int p1, .int ((100 : Int32) * p0)]) (ci := 8) (q0 := 0) hx hb hml hown hts (c_X8_plain fu l dC dI kI kB kZ a v_tape v_taped v_errorAt v_thrown v_world v_aside v_undone v_slots v_isKept v_undos v_seenPrefix v_seenLast v_seen v_previous v_gained v_gains v_decoded v_decodes v_readAt v_start v_kind v_word v_letters v_number v_fine v_text v_texted z2 e3) gX8_percentOf_X8_plain qX8_plain rfl ⟨Nat.le_of_ble_eq_true rfl, Nat.le_of_ble_eq_true rfl⟩ ⟨rfl, rfl⟩ hNW hK hP hS hP hK rfl rfl rfl hl.1 rfl rfl (Nat.le_of_ble_eq_true rfl) dX8_percentOf_12 z0 (fun H locs hP hS => ?_)
    refine lv_imul hx hb dX8_percentOf_15 ?_
    obtain ⟨h4, hJ⟩ := ite_none hJ
    refine lv_idiv hx hb dX8_percentOf_16 h4 ?_
    exact ro_iret hx hb hr hlocks hS hJ dX8_percentOf_17
  · have hJ := ite_t c1 hJ
    refine lv_iconst (v := 0) hx hb dX8_percentOf_4 (by decide) ?_
    exact ro_iret hx hb hr hlocks hS hJ dX8_percentOf_5
theorem qX8_percent : (yX8_percent.cls = RX8) ∧ yX8_percent.cls ≠ "java/lang/invoke/MethodHandle" ∧ yX8_percent.cls ≠ "java/lang/invoke/VarHandle" ∧ (parseMethodDescriptor yX8_percent.desc).map (fun d => d.parameters.length) = some 0 := by decide +kernel
set_option maxHeartbeats 4000000 in
set_option maxRecDepth 100000 in
theorem c_X8_percent (fu : Nat) (l : Launch) (dC : Nat → ClassId) (dI : Nat → Nat → Nat) (kI kB kZ : ClassId) (a : Nat → Nat) (v_tape : Nat → Int32) (v_taped : Int32) (v_errorAt : Int32) (v_thrown : Int32) (v_world : Nat → Int32) (v_aside : Nat → Int32) (v_undone : Nat → Int32) (v_slots : Nat → Int32) (v_isKept : Nat → Int32) (v_undos : Int32) (v_seenPrefix : Nat → Int32) (v_seenLast : Nat → Int32) (v_seen : Int32) (v_previous : Int32) (v_gained : Nat → Int32) (v_gains : Int32) (v_decoded : Nat → Int32) (v_decodes : Int32) (v_readAt : Int32) (v_start : Int32) (v_kind : Int32) (v_word : Int64) (v_letters : Int32) (v_number : Int32) (v_fine : Int32) (v_text : Nat → Int32) (v_texted : Int32) (z : Int32) (hJ : J_X8_percent fu v_world = some z) : Met l yX8_percent wsX8_percent ({ frames := 4, cells := 0, slots := 0, locals := 86 }) (va_Pc [.ref (a 0)] (ROp dC dI (MWc a kI kB kZ v_tape v_taped v_errorAt v_thrown v_world v_aside v_undone v_slots v_isKept v_undos v_seenPrefix v_seenLast v_seen v_previous v_gained v_gains v_decoded v_decodes v_readAt v_start v_kind v_word v_letters v_number v_fine v_text v_texted) [(kI, .int), (kB, .byte), (kZ, .boolean)])) (roQi z) 0 0 (fun _ => False) := by
  refine ro_start (cc := cX8_percent) (maxL := 1) (ret := (some .int)) (by decide) rfl (Nat.le_of_ble_eq_true rfl) ?_
  intro p e s m args below meth c hx hb hr hml hown hts hlocks hNW hK H locs ls hP hS hl
  have hown : s.vm.findClass RX8 = some m.cls := hown
  have hl : lv_has ls 1 [(0, .ref (a 0))] := hl
  unfold J_X8_percent at hJ
  refine lv_aload_n hx hb dX8_percent_0 rfl (lv_at hl 0 rfl) ?_
  refine lv_aload_n hx hb dX8_percent_1 rfl (lv_at hl 0 rfl) ?_
  obtain ⟨z1, e2, hJ⟩ := bnd hJ
  refine roVi (As := []) (rest := [.ref (a 0)]) (ci := 8) (q0 := 0) hx hb hml hown hts (c_X8_bitsSince fu l dC dI kI kB kZ a v_tape v_taped v_errorAt v_thrown v_world v_aside v_undone v_slots v_isKept v_undos v_seenPrefix v_seenLast v_seen v_previous v_gained v_gains v_decoded v_decodes v_readAt v_start v_kind v_word v_letters v_number v_fine v_text v_texted z1 e2) gX8_percent_X8_bitsSince qX8_bitsSince rfl ⟨Nat.le_of_ble_eq_true rfl, Nat.le_of_ble_eq_true rfl⟩ ⟨rfl, rfl⟩ hNW hK hP hS hP hK rfl rfl rfl hl.1 rfl rfl (Nat.le_of_ble_eq_true rfl) dX8_percent_2 z0 (fun H locs hP hS => ?_)
  refine lv_aload_n hx hb dX8_percent_5 rfl (lv_at hl 0 rfl) ?_
  obtain ⟨z3, e4, hJ⟩ := bnd hJ
  refine roVi (As := []) (rest := [.int z1, .ref (a 0)]) (ci := 8) (q0 := 0) hx hb hml hown hts (c_X8_symbolsSince fu l dC dI kI kB kZ a v_tape v_taped v_errorAt v_thrown v_world v_aside v_undone v_slots v_isKept v_undos v_seenPrefix v_seenLast v_seen v_previous v_gained v_gains v_decoded v_decodes v_readAt v_start v_kind v_word v_letters v_number v_fine v_text v_texted z3 e4) gX8_percent_X8_symbolsSince qX8_symbolsSince rfl ⟨Nat.le_of_ble_eq_true rfl, Nat.le_of_ble_eq_true rfl⟩ ⟨rfl, rfl⟩ hNW hK hP hS hP hK rfl rfl rfl hl.1 rfl rfl (Nat.le_of_ble_eq_true rfl) dX8_percent_6 z0 (fun H locs hP hS => ?_)
  obtain ⟨z5, e6, hJ⟩ := bnd hJ
  refine roVi (As := [.int z1, .int z3]) (rest := []) (ci := 8) (q0 := 0) hx hb hml hown hts (c_X8_percentOf fu l dC dI kI kB kZ a v_tape v_taped v_errorAt v_thrown v_world v_aside v_undone v_slots v_isKept v_undos v_seenPrefix v_seenLast v_seen v_previous v_gained v_gains v_decoded v_decodes v_readAt v_start v_kind v_word v_letters v_number v_fine v_text v_texted z1 z3 z5 e6) gX8_percent_X8_percentOf qX8_percentOf rfl ⟨Nat.le_of_ble_eq_true rfl, Nat.le_of_ble_eq_true rfl⟩ ⟨rfl, rfl⟩ hNW hK hP hS hP hK rfl rfl rfl hl.1 rfl rfl (Nat.le_of_ble_eq_true rfl) dX8_percent_9 z0 (fun H locs hP hS => ?_)
  exact ro_iret hx hb hr hlocks hS hJ dX8_percent_12
theorem qX8_isAsked : (yX8_isAsked.cls = RX8) ∧ yX8_isAsked.cls ≠ "java/lang/invoke/MethodHandle" ∧ yX8_isAsked.cls ≠ "java/lang/invoke/VarHandle" ∧ (parseMethodDescriptor yX8_isAsked.desc).map (fun d => d.parameters.length) = some 0 := by decide +kernel
set_option maxHeartbeats 4000000 in
set_option maxRecDepth 100000 in
theorem c_X8_isAsked (fu : Nat) (l : Launch) (dC : Nat → ClassId) (dI : Nat → Nat → Nat) (kI kB kZ : ClassId) (a : Nat → Nat) (v_tape : Nat → Int32) (v_taped : Int32) (v_errorAt : Int32) (v_thrown : Int32) (v_world : Nat → Int32) (v_aside : Nat → Int32) (v_undone : Nat → Int32) (v_slots : Nat → Int32) (v_isKept : Nat → Int32) (v_undos : Int32) (v_seenPrefix : Nat → Int32) (v_seenLast : Nat → Int32) (v_seen : Int32) (v_previous : Int32) (v_gained : Nat → Int32) (v_gains : Int32) (v_decoded : Nat → Int32) (v_decodes : Int32) (v_readAt : Int32) (v_start : Int32) (v_kind : Int32) (v_word : Int64) (v_letters : Int32) (v_number : Int32) (v_fine : Int32) (v_text : Nat → Int32) (v_texted : Int32) (z : Int32) (hJ : J_X8_isAsked fu v_world = some z) : Met l yX8_isAsked wsX8_isAsked ({ frames := 5, cells := 0, slots := 0, locals := 106 }) (va_Pc [.ref (a 0)] (ROp dC dI (MWc a kI kB kZ v_tape v_taped v_errorAt v_thrown v_world v_aside v_undone v_slots v_isKept v_undos v_seenPrefix v_seenLast v_seen v_previous v_gained v_gains v_decoded v_decodes v_readAt v_start v_kind v_word v_letters v_number v_fine v_text v_texted) [(kI, .int), (kB, .byte), (kZ, .boolean)])) (roQi z) 0 0 (fun _ => False) := by
  refine ro_start (cc := cX8_isAsked) (maxL := 1) (ret := (some .boolean)) (by decide) rfl (Nat.le_of_ble_eq_true rfl) ?_
  intro p e s m args below meth c hx hb hr hml hown hts hlocks hNW hK H locs ls hP hS hl
  have hown : s.vm.findClass RX8 = some m.cls := hown
  have hl : lv_has ls 1 [(0, .ref (a 0))] := hl
  unfold J_X8_isAsked at hJ
  refine lv_aload_n hx hb dX8_isAsked_0 rfl (lv_at hl 0 rfl) ?_
  obtain ⟨z1, e2, hJ⟩ := bnd hJ
  refine roVi (As := []) (rest := []) (ci := 8) (q0 := 0) hx hb hml hown hts (c_X8_isAllFull l dC dI kI kB kZ a v_tape v_taped v_errorAt v_thrown v_world v_aside v_undone v_slots v_isKept v_undos v_seenPrefix v_seenLast v_seen v_previous v_gained v_gains v_decoded v_decodes v_readAt v_start v_kind v_word v_letters v_number v_fine v_text v_texted z1 e2) gX8_isAsked_X8_isAllFull qX8_isAllFull rfl ⟨Nat.le_of_ble_eq_true rfl, Nat.le_of_ble_eq_true rfl⟩ ⟨rfl, rfl⟩ hNW hK hP hS hP hK rfl rfl rfl hl.1 rfl rfl (Nat.le_of_ble_eq_true rfl) dX8_isAsked_1 z0 (fun H locs hP hS => ?_)
  refine lv_if_ne (tgt := 9) hx hb dX8_isAsked_4 (by decide) (fun c3 => ?_) (fun c3 => ?_)
  · have hJ := ite_f c3 hJ
    refine lv_aload_n hx hb dX8_isAsked_9 rfl (lv_at hl 0 rfl) ?_
    refine va_get (D := (dC, dI)) (ci := 8) (v := .ref (a 2)) (C := RX8) (T := TX8) (N := 27) hx hb hts (fun _ h => List.mem_cons_of_mem _ (List.mem_append_right _ h)) hown hK hP 0 rfl rfl 4 (by decide) (hts _ (List.mem_of_getElem? (i := 1) rfl)) (fun _ h9 => h9) rfl dX8_isAsked_10 ?_
    refine lv_iconst (v := 2) hx hb dX8_isAsked_13 (by decide) ?_
    obtain ⟨z4, e5, hJ⟩ := bnd hJ
    refine rd_int (n := 1726) (f := v_world) hx hb hK hP 2 0 rfl rfl e5 dX8_isAsked_14 ?_
    refine lv_iconst (v := 2) hx hb dX8_isAsked_15 (by decide) ?_
    refine lv_icmp_ne (tgt := 38) hx hb dX8_isAsked_16 (by decide) (fun c6 => ?_) (fun c6 => ?_)
    · have hJ := ite_f c6 hJ
      refine lv_aload_n hx hb dX8_isAsked_38 rfl (lv_at hl 0 rfl) ?_
      refine va_get (D := (dC, dI)) (ci := 8) (v := .ref (a 2)) (C := RX8) (T := TX8) (N := 27) hx hb hts (fun _ h => List.mem_cons_of_mem _ (List.mem_append_right _ h)) hown hK hP 0 rfl rfl 4 (by decide) (hts _ (List.mem_of_getElem? (i := 1) rfl)) (fun _ h9 => h9) rfl dX8_isAsked_39 ?_
      refine lv_iconst (v := 2) hx hb dX8_isAsked_42 (by decide) ?_
      obtain ⟨z7, e8, hJ⟩ := bnd hJ
      refine rd_int (n := 1726) (f := v_world) hx hb hK hP 2 0 rfl rfl e8 dX8_isAsked_43 ?_
      refine lv_iconst (v := 1) hx hb dX8_isAsked_44 (by decide) ?_
      refine lv_icmp_ne (tgt := 52) hx hb dX8_isAsked_45 (by decide) (fun c9 => ?_) (fun c9 => ?_)
      · have hJ := ite_f c9 hJ
        refine lv_iconst (v := 0) hx hb dX8_isAsked_52 (by decide) ?_
        exact ro_zret hx hb hr hlocks rfl hS hJ dX8_isAsked_53
      · have hJ := ite_t c9 hJ
        refine lv_iconst (v := 1) hx hb dX8_isAsked_48 (by decide) ?_
        refine lv_goto (tgt := 53) hx hb dX8_isAsked_49 (by decide) ?_
        exact ro_zret hx hb hr hlocks rfl hS hJ dX8_isAsked_53
    · have hJ := ite_t c6 hJ
      refine lv_aload_n hx hb dX8_isAsked_19 rfl (lv_at hl 0 rfl) ?_
      obtain ⟨z10, e11, hJ⟩ := bnd hJ
      refine roVi (As := []) (rest := []) (ci := 8) (q0 := 0) hx hb hml hown hts (c_X8_percent fu l dC dI kI kB kZ a v_tape v_taped v_errorAt v_thrown v_world v_aside v_undone v_slots v_isKept v_undos v_seenPrefix v_seenLast v_seen v_previous v_gained v_gains v_decoded v_decodes v_readAt v_start v_kind v_word v_letters v_number v_fine v_text v_texted z10 e11) gX8_isAsked_X8_percent qX8_percent rfl ⟨Nat.le_of_ble_eq_true rfl, Nat.le_of_ble_eq_true rfl⟩ ⟨rfl, rfl⟩ hNW hK hP hS hP hK rfl rfl rfl hl.1 rfl rfl (Nat.le_of_ble_eq_true rfl) dX8_isAsked_20 z0 (fun H locs hP hS => ?_)
      refine lv_aload_n hx hb dX8_isAsked_23 rfl (lv_at hl 0 rfl) ?_
      refine va_get (D := (dC, dI)) (ci := 8) (v := .ref (a 2)) (C := RX8) (T := TX8) (N := 27) hx hb hts (fun _ h => List.mem_cons_of_mem _ (List.mem_append_right _ h)) hown hK hP 0 rfl rfl 4 (by decide) (hts _ (List.mem_of_getElem? (i := 1) rfl)) (fun _ h9 => h9) rfl dX8_isAsked_24 ?_
      refine lv_iconst (v := 3) hx hb dX8_isAsked_27 (by decide) ?_
      obtain ⟨z12, e13, hJ⟩ := bnd hJ
      refine rd_int (n := 1726) (f := v_world) hx hb hK hP 2 0 rfl rfl e13 dX8_isAsked_28 ?_
      refine lv_icmp_le (tgt := 36) hx hb dX8_isAsked_29 (by decide) (fun c14 => ?_) (fun c14 => ?_)
      · have hJ := ite_t c14 hJ
        refine lv_iconst (v := 0) hx hb dX8_isAsked_36 (by decide) ?_
        exact ro_zret hx hb hr hlocks rfl hS hJ dX8_isAsked_37
      · have hJ := ite_f c14 hJ
        refine lv_iconst (v := 1) hx hb dX8_isAsked_32 (by decide) ?_
        refine lv_goto (tgt := 37) hx hb dX8_isAsked_33 (by decide) ?_
        exact ro_zret hx hb hr hlocks rfl hS hJ dX8_isAsked_37
  · have hJ := ite_t c3 hJ
    refine lv_iconst (v := 0) hx hb dX8_isAsked_7 (by decide) ?_
    exact ro_zret hx hb hr hlocks rfl hS hJ dX8_isAsked_8
