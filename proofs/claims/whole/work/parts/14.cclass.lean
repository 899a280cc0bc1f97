theorem qX1_define : (yX1_define.cls = RX1) ∧ yX1_define.cls ≠ "java/lang/invoke/MethodHandle" ∧ yX1_define.cls ≠ "java/lang/invoke/VarHandle" ∧ (parseMethodDescriptor yX1_define.desc).map (fun d => d.parameters.length) = some 4 := by decide +kernel
set_option maxHeartbeats 4000000 in
set_option maxRecDepth 100000 in
theorem c_X1_define (l : Launch) (dC : Nat → ClassId) (dI : Nat → Nat → Nat) (kI : ClassId) (b : Nat → Nat) (d : DS) (p0 : Int32) (p1 : Int32) (p2 : Int32) (p3 : Int32) (sz : Nat) (z : DS) (hJ : J_X1_define d p0 p1 p2 p3 = some z) : Met l yX1_define wsX1_define ({ frames := 0, cells := 0, slots := 0, locals := 0 }) (va_Pc [.ref (b 0), .int p0, .int p1, .int p2, .int p3] (RWp dC dI sz (DWc b kI d) [(kI, .int)])) (rwQv dC dI (va_A (DWc b kI d) sz) (DWc b kI z)) 0 0 (va_A (DWc b kI d) sz) := by
  refine rw_start (Qc := fun A => rwQv dC dI A (DWc b kI z)) (cc := cX1_define) (maxL := 5) (ret := none) (by decide) rfl (Nat.le_of_ble_eq_true rfl) ?_
  intro p e s m args below meth c hx hb hr hml hown hts hlocks hNW hK A hA H locs ls hP hD hS hl
  have hown : s.vm.findClass RX1 = some m.cls := hown
  have hl : lv_has ls 5 [(0, .ref (b 0)), (1, .int p0), (2, .int p1), (3, .int p2), (4, .int p3)] := hl
  unfold J_X1_define at hJ
  refine lv_iload_n hx hb dX1_define_0 rfl (lv_at hl 1 rfl) ?_
  refine lv_if_lt (tgt := 11) hx hb dX1_define_1 (by decide) (fun c1 => ?_) (fun c1 => ?_)
  · have hJ := ite_t c1 hJ
    obtain rfl := Option.some.inj hJ
    exact rw_vret hx hb hr hlocks hP hD hS dX1_define_11
  · have hJ := ite_f c1 hJ
    refine lv_iload_n hx hb dX1_define_4 rfl (lv_at hl 1 rfl) ?_
    refine lv_sipush (v := 256) hx hb dX1_define_5 (by decide) ?_
    refine lv_icmp_lt (tgt := 12) hx hb dX1_define_8 (by decide) (fun c2 => ?_) (fun c2 => ?_)
    · have hJ := ite_t c2 hJ
      refine lv_aload_n hx hb dX1_define_12 rfl (lv_at hl 0 rfl) ?_
      refine va_get (D := (dC, dI)) (ci := 1) (v := .ref (b 1)) (C := RX1) (T := TX1) (N := 8) hx hb hts (fun _ h => List.mem_cons_of_mem _ (List.mem_append_right _ h)) hown hK hP 0 rfl rfl 0 (by decide) (hts _ (List.mem_of_getElem? (i := 1) rfl)) (fun _ h9 => h9) rfl dX1_define_13 ?_
      refine lv_iload_n hx hb dX1_define_16 rfl (lv_at hl 1 rfl) ?_
      refine lv_iload_n hx hb dX1_define_17 rfl (lv_at hl 2 rfl) ?_
      obtain ⟨g3, e4, hJ⟩ := bnd hJ
      refine wr_int (n := 256) (f := (d_prefix d)) (x := p1) hx hb hK hP hD hS 1 0 rfl rfl e4 dX1_define_18 (fun H locs hP hD hS => ?_)
      have hP : va_P (dC, dI) vwCl (DWc b kI (mkD g3 (d_lastSymbol d) (d_lengths d) (d_newest d) (d_older d) (d_alphabet d) (d_widest d) (d_count d))) H := hP
      have hD : va_D A (DWc b kI (mkD g3 (d_lastSymbol d) (d_lengths d) (d_newest d) (d_older d) (d_alphabet d) (d_widest d) (d_count d))) := hD
      refine lv_aload_n hx hb dX1_define_19 rfl (lv_at hl 0 rfl) ?_
      refine va_get (D := (dC, dI)) (ci := 1) (v := .ref (b 2)) (C := RX1) (T := TX1) (N := 8) hx hb hts (fun _ h => List.mem_cons_of_mem _ (List.mem_append_right _ h)) hown hK hP 0 rfl rfl 1 (by decide) (hts _ (List.mem_of_getElem? (i := 2) rfl)) (fun _ h9 => h9) rfl dX1_define_20 ?_
      refine lv_iload_n hx hb dX1_define_23 rfl (lv_at hl 1 rfl) ?_
      refine lv_iload_n hx hb dX1_define_24 rfl (lv_at hl 3 rfl) ?_
      obtain ⟨g5, e6, hJ⟩ := bnd hJ
      refine wr_int (n := 256) (f := (d_lastSymbol d)) (x := p2) hx hb hK hP hD hS 2 0 rfl rfl e6 dX1_define_25 (fun H locs hP hD hS => ?_)
      have hP : va_P (dC, dI) vwCl (DWc b kI (mkD g3 g5 (d_lengths d) (d_newest d) (d_older d) (d_alphabet d) (d_widest d) (d_count d))) H := hP
      have hD : va_D A (DWc b kI (mkD g3 g5 (d_lengths d) (d_newest d) (d_older d) (d_alphabet d) (d_widest d) (d_count d))) := hD
      refine lv_aload_n hx hb dX1_define_26 rfl (lv_at hl 0 rfl) ?_
      refine va_get (D := (dC, dI)) (ci := 1) (v := .ref (b 3)) (C := RX1) (T := TX1) (N := 8) hx hb hts (fun _ h => List.mem_cons_of_mem _ (List.mem_append_right _ h)) hown hK hP 0 rfl rfl 2 (by decide) (hts _ (List.mem_of_getElem? (i := 3) rfl)) (fun _ h9 => h9) rfl dX1_define_27 ?_
      refine lv_iload_n hx hb dX1_define_30 rfl (lv_at hl 1 rfl) ?_
      refine lv_iload hx hb dX1_define_31 (lv_at hl 4 rfl) ?_
      obtain ⟨g7, e8, hJ⟩ := bnd hJ
      refine wr_int (n := 256) (f := (d_lengths d)) (x := p3) hx hb hK hP hD hS 3 0 rfl rfl e8 dX1_define_33 (fun H locs hP hD hS => ?_)
      have hP : va_P (dC, dI) vwCl (DWc b kI (mkD g3 g5 g7 (d_newest d) (d_older d) (d_alphabet d) (d_widest d) (d_count d))) H := hP
      have hD : va_D A (DWc b kI (mkD g3 g5 g7 (d_newest d) (d_older d) (d_alphabet d) (d_widest d) (d_count d))) := hD
      refine lv_aload_n hx hb dX1_define_34 rfl (lv_at hl 0 rfl) ?_
      refine va_get (D := (dC, dI)) (ci := 1) (v := .ref (b 4)) (C := RX1) (T := TX1) (N := 8) hx hb hts (fun _ h => List.mem_cons_of_mem _ (List.mem_append_right _ h)) hown hK hP 0 rfl rfl 3 (by decide) (hts _ (List.mem_of_getElem? (i := 4) rfl)) (fun _ h9 => h9) rfl dX1_define_35 ?_
      refine lv_iload_n hx hb dX1_define_38 rfl (lv_at hl 1 rfl) ?_
      refine lv_iconst (v := -1) hx hb dX1_define_39 (by decide) ?_
      obtain ⟨g9, e10, hJ⟩ := bnd hJ
      refine wr_int (n := 256) (f := (d_newest d)) (x := (-1 : Int32)) hx hb hK hP hD hS 4 0 rfl rfl e10 dX1_define_40 (fun H locs hP hD hS => ?_)
      have hP : va_P (dC, dI) vwCl (DWc b kI (mkD g3 g5 g7 g9 (d_older d) (d_alphabet d) (d_widest d) (d_count d))) H := hP
      have hD : va_D A (DWc b kI (mkD g3 g5 g7 g9 (d_older d) (d_alphabet d) (d_widest d) (d_count d))) := hD
      obtain rfl := Option.some.inj hJ
      exact rw_vret hx hb hr hlocks hP hD hS dX1_define_41
    · have hJ := ite_f c2 hJ
      obtain rfl := Option.some.inj hJ
      exact rw_vret hx hb hr hlocks hP hD hS dX1_define_11
theorem qX1_keepFirstCodes : (yX1_keepFirstCodes.cls = RX1) ∧ yX1_keepFirstCodes.cls ≠ "java/lang/invoke/MethodHandle" ∧ yX1_keepFirstCodes.cls ≠ "java/lang/invoke/VarHandle" ∧ (parseMethodDescriptor yX1_keepFirstCodes.desc).map (fun d => d.parameters.length) = some 0 := by decide +kernel
set_option maxHeartbeats 4000000 in
set_option maxRecDepth 100000 in
theorem c_X1_keepFirstCodes (fu : Nat) (l : Launch) (dC : Nat → ClassId) (dI : Nat → Nat → Nat) (kI : ClassId) (b : Nat → Nat) (d : DS) (sz : Nat) (z : DS) (hJ : J_X1_keepFirstCodes fu d = some z) : Met l yX1_keepFirstCodes wsX1_keepFirstCodes ({ frames := 1, cells := 0, slots := 0, locals := 24 }) (va_Pc [.ref (b 0)] (RWp dC dI sz (DWc b kI d) [(kI, .int)])) (rwQv dC dI (va_A (DWc b kI d) sz) (DWc b kI z)) 0 0 (va_A (DWc b kI d) sz) := by
  refine rw_start (Qc := fun A => rwQv dC dI A (DWc b kI z)) (cc := cX1_keepFirstCodes) (maxL := 2) (ret := none) (by decide) rfl (Nat.le_of_ble_eq_true rfl) ?_
  intro p e s m args below meth c hx hb hr hml hown hts hlocks hNW hK A hA H locs ls hP hD hS hl
  have hown : s.vm.findClass RX1 = some m.cls := hown
  have hl : lv_has ls 2 [(0, .ref (b 0))] := hl
  unfold J_X1_keepFirstCodes at hJ
  have L2 : ∀ (n : Nat) (d : DS) (y1 : Int32) (H : Heap) (locs : List Loc) (ls : Array Slot), va_P (dC, dI) vwCl (DWc b kI d) H → va_D A (DWc b kI d) → va_S A s.heap H locs → lv_has ls 2 [(0, .ref (b 0)), (1, .int y1)] → J_X1_keepFirstCodes_b2 fu n d y1 = some z → W p l e ({ frames := 1, cells := 0, slots := 0, locals := 24 }) s m args below meth c H locs 0 0 (MQ below (rwQv dC dI A (DWc b kI z)) args s 0 0 (A)) (F0 m 2 ls []) := by
    intro n
    induction n with
    | zero =>
      intro d y1 H locs ls hP hD hS hl hJ
      rw [J_X1_keepFirstCodes_b2] at hJ; cases hJ
    | succ n ih =>
      intro d y1 H locs ls hP hD hS hl hJ
      rw [J_X1_keepFirstCodes_b2] at hJ
      refine lv_iload_n hx hb dX1_keepFirstCodes_2 rfl (lv_at hl 1 rfl) ?_
      refine lv_aload_n hx hb dX1_keepFirstCodes_3 rfl (lv_at hl 0 rfl) ?_
      refine va_get (D := (dC, dI)) (ci := 1) (v := .int (d_alphabet d)) (C := RX1) (T := TX1) (N := 8) hx hb hts (fun _ h => List.mem_cons_of_mem _ (List.mem_append_right _ h)) hown hK hP 0 rfl rfl 5 (by decide) (hts _ (List.mem_of_getElem? (i := 1) rfl)) (fun _ h9 => h9) rfl dX1_keepFirstCodes_4 ?_
      refine lv_icmp_ge (tgt := 24) hx hb dX1_keepFirstCodes_7 (by decide) (fun c1 => ?_) (fun c1 => ?_)
      · have hJ := ite_t c1 hJ
        refine lv_aload_n hx hb dX1_keepFirstCodes_24 rfl (lv_at hl 0 rfl) ?_
        refine lv_aload_n hx hb dX1_keepFirstCodes_25 rfl (lv_at hl 0 rfl) ?_
        refine va_get (D := (dC, dI)) (ci := 1) (v := .int (d_alphabet d)) (C := RX1) (T := TX1) (N := 8) hx hb hts (fun _ h => List.mem_cons_of_mem _ (List.mem_append_right _ h)) hown hK hP 0 rfl rfl 5 (by decide) (hts _ (List.mem_of_getElem? (i := 1) rfl)) (fun _ h9 => h9) rfl dX1_keepFirstCodes_26 ?_
        refine lv_iconst (v := -1) hx hb dX1_keepFirstCodes_29 (by decide) ?_
        refine lv_iconst (v := -1) hx hb dX1_keepFirstCodes_30 (by decide) ?_
        refine lv_iconst (v := 0) hx hb dX1_keepFirstCodes_31 (by decide) ?_
        obtain ⟨z2, e3, hJ⟩ := bnd hJ
        refine rwVvW (As := [.int (d_alphabet d), .int (-1 : Int32), .int (-1 : Int32), .int (0 : Int32)]) (rest := []) (ci := 1) (q0 := 0) hx hb hml hown hts (c_X1_define l dC dI kI b d (d_alphabet d) (-1 : Int32) (-1 : Int32) (0 : Int32) H.size z2 e3) gX1_keepFirstCodes_X1_define qX1_define rfl ⟨Nat.le_of_ble_eq_true rfl, Nat.le_of_ble_eq_true rfl⟩ ⟨rfl, rfl⟩ hNW hK hP hD hS hA hK rfl rfl rfl hl.1 rfl rfl (Nat.le_of_ble_eq_true rfl) dX1_keepFirstCodes_32 z0 (fun H locs hP hD hS => ?_)
        refine lv_aload_n hx hb dX1_keepFirstCodes_35 rfl (lv_at hl 0 rfl) ?_
        refine lv_aload_n hx hb dX1_keepFirstCodes_36 rfl (lv_at hl 0 rfl) ?_
        refine va_get (D := (dC, dI)) (ci := 1) (v := .int (d_alphabet z2)) (C := RX1) (T := TX1) (N := 8) hx hb hts (fun _ h => List.mem_cons_of_mem _ (List.mem_append_right _ h)) hown hK hP 0 rfl rfl 5 (by decide) (hts _ (List.mem_of_getElem? (i := 1) rfl)) (fun _ h9 => h9) rfl dX1_keepFirstCodes_37 ?_
        refine lv_iconst (v := 1) hx hb dX1_keepFirstCodes_40 (by decide) ?_
        refine lv_iadd hx hb dX1_keepFirstCodes_41 ?_
        refine va_put (D := (dC, dI)) (ci := 1) (v := .int ((d_alphabet z2) + (1 : Int32))) (ty := .int) (C := RX1) (T := TX1) (N := 8) hx hb hts (fun _ h => List.mem_cons_of_mem _ (List.mem_append_right _ h)) tyX1 tyX1_ok nmX1 hown hK hP hD hS 0 rfl rfl 7 (by decide) (hts _ (List.mem_of_getElem? (i := 2) rfl)) (fun _ h9 => h9) rfl (by decide +kernel) rfl rfl (Nat.le_of_ble_eq_true rfl) dX1_keepFirstCodes_42 (fun H locs hP hD hS => ?_)
        have hP : va_P (dC, dI) vwCl (DWc b kI (mkD (d_prefix z2) (d_lastSymbol z2) (d_lengths z2) (d_newest z2) (d_older z2) (d_alphabet z2) (d_widest z2) ((d_alphabet z2) + (1 : Int32)))) H := hP
        have hD : va_D A (DWc b kI (mkD (d_prefix z2) (d_lastSymbol z2) (d_lengths z2) (d_newest z2) (d_older z2) (d_alphabet z2) (d_widest z2) ((d_alphabet z2) + (1 : Int32)))) := hD
        obtain rfl := Option.some.inj hJ
        exact rw_vret hx hb hr hlocks hP hD hS dX1_keepFirstCodes_45
      · have hJ := ite_f c1 hJ
        refine lv_aload_n hx hb dX1_keepFirstCodes_10 rfl (lv_at hl 0 rfl) ?_
        refine lv_iload_n hx hb dX1_keepFirstCodes_11 rfl (lv_at hl 1 rfl) ?_
        refine lv_iconst (v := -1) hx hb dX1_keepFirstCodes_12 (by decide) ?_
        refine lv_iload_n hx hb dX1_keepFirstCodes_13 rfl (lv_at hl 1 rfl) ?_
        refine lv_iconst (v := 1) hx hb dX1_keepFirstCodes_14 (by decide) ?_
        obtain ⟨z4, e5, hJ⟩ := bnd hJ
        refine rwVvW (As := [.int y1, .int (-1 : Int32), .int y1, .int (1 : Int32)]) (rest := []) (ci := 1) (q0 := 0) hx hb hml hown hts (c_X1_define l dC dI kI b d y1 (-1 : Int32) y1 (1 : Int32) H.size z4 e5) gX1_keepFirstCodes_X1_define qX1_define rfl ⟨Nat.le_of_ble_eq_true rfl, Nat.le_of_ble_eq_true rfl⟩ ⟨rfl, rfl⟩ hNW hK hP hD hS hA hK rfl rfl rfl hl.1 rfl rfl (Nat.le_of_ble_eq_true rfl) dX1_keepFirstCodes_15 z0 (fun H locs hP hD hS => ?_)
        refine lv_iinc (v := y1 + 1) (lv' := [(1, .int (y1 + 1)), (0, .ref (b 0))]) hx hb dX1_keepFirstCodes_18 hl (k := 1) rfl rfl (by decide) rfl (fun ls hl => ?_)
        refine lv_goto (tgt := 2) hx hb dX1_keepFirstCodes_21 (by decide) ?_
        exact ih z4 (y1 + 1) H locs ls hP hD hS (lv_sub hl [1, 0] rfl) hJ
  refine lv_iconst (v := 0) hx hb dX1_keepFirstCodes_0 (by decide) ?_
  refine lv_istore_n (lv' := [(1, .int (0 : Int32)), (0, .ref (b 0))]) hx hb dX1_keepFirstCodes_1 rfl hl (by decide) rfl (fun ls hl => ?_)
  exact L2 fu d (0 : Int32) H locs ls hP hD hS (lv_sub hl [1, 0] rfl) hJ
theorem qX1_begin : (yX1_begin.cls = RX1) ∧ yX1_begin.cls ≠ "java/lang/invoke/MethodHandle" ∧ yX1_begin.cls ≠ "java/lang/invoke/VarHandle" ∧ (parseMethodDescriptor yX1_begin.desc).map (fun d => d.parameters.length) = some 2 := by decide +kernel
set_option maxHeartbeats 4000000 in
set_option maxRecDepth 100000 in
theorem c_X1_begin (fu : Nat) (l : Launch) (dC : Nat → ClassId) (dI : Nat → Nat → Nat) (kI : ClassId) (b : Nat → Nat) (d : DS) (p0 : Int32) (p1 : Int32) (sz : Nat) (z : DS) (hJ : J_X1_begin fu d p0 p1 = some z) : Met l yX1_begin wsX1_begin ({ frames := 2, cells := 0, slots := 0, locals := 45 }) (va_Pc [.ref (b 0), .int p0, .int p1] (RWp dC dI sz (DWc b kI d) [(kI, .int)])) (rwQv dC dI (va_A (DWc b kI d) sz) (DWc b kI z)) 0 0 (va_A (DWc b kI d) sz) := by
  refine rw_start (Qc := fun A => rwQv dC dI A (DWc b kI z)) (cc := cX1_begin) (maxL := 3) (ret := none) (by decide) rfl (Nat.le_of_ble_eq_true rfl) ?_
  intro p e s m args below meth c hx hb hr hml hown hts hlocks hNW hK A hA H locs ls hP hD hS hl
  have hown : s.vm.findClass RX1 = some m.cls := hown
  have hl : lv_has ls 3 [(0, .ref (b 0)), (1, .int p0), (2, .int p1)] := hl
  unfold J_X1_begin at hJ
  refine lv_aload_n hx hb dX1_begin_0 rfl (lv_at hl 0 rfl) ?_
  refine lv_iload_n hx hb dX1_begin_1 rfl (lv_at hl 1 rfl) ?_
  refine va_put (D := (dC, dI)) (ci := 1) (v := .int p0) (ty := .int) (C := RX1) (T := TX1) (N := 8) hx hb hts (fun _ h => List.mem_cons_of_mem _ (List.mem_append_right _ h)) tyX1 tyX1_ok nmX1 hown hK hP hD hS 0 rfl rfl 5 (by decide) (hts _ (List.mem_of_getElem? (i := 1) rfl)) (fun _ h9 => h9) rfl (by decide +kernel) rfl rfl (Nat.le_of_ble_eq_true rfl) dX1_begin_2 (fun H locs hP hD hS => ?_)
  have hP : va_P (dC, dI) vwCl (DWc b kI (mkD (d_prefix d) (d_lastSymbol d) (d_lengths d) (d_newest d) (d_older d) p0 (d_widest d) (d_count d))) H := hP
  have hD : va_D A (DWc b kI (mkD (d_prefix d) (d_lastSymbol d) (d_lengths d) (d_newest d) (d_older d) p0 (d_widest d) (d_count d))) := hD
  refine lv_aload_n hx hb dX1_begin_5 rfl (lv_at hl 0 rfl) ?_
  refine lv_iload_n hx hb dX1_begin_6 rfl (lv_at hl 2 rfl) ?_
  refine va_put (D := (dC, dI)) (ci := 1) (v := .int p1) (ty := .int) (C := RX1) (T := TX1) (N := 8) hx hb hts (fun _ h => List.mem_cons_of_mem _ (List.mem_append_right _ h)) tyX1 tyX1_ok nmX1 hown hK hP hD hS 0 rfl rfl 6 (by decide) (hts _ (List.mem_of_getElem? (i := 2) rfl)) (fun _ h9 => h9) rfl (by decide +kernel) rfl rfl (Nat.le_of_ble_eq_true rfl) dX1_begin_7 (fun H locs hP hD hS => ?_)
  have hP : va_P (dC, dI) vwCl (DWc b kI (mkD (d_prefix d) (d_lastSymbol d) (d_lengths d) (d_newest d) (d_older d) p0 p1 (d_count d))) H := hP
  have hD : va_D A (DWc b kI (mkD (d_prefix d) (d_lastSymbol d) (d_lengths d) (d_newest d) (d_older d) p0 p1 (d_count d))) := hD
  refine lv_aload_n hx hb dX1_begin_10 rfl (lv_at hl 0 rfl) ?_
  obtain ⟨z1, e2, hJ⟩ := bnd hJ
  refine rwVvW (As := []) (rest := []) (ci := 1) (q0 := 0) hx hb hml hown hts (c_X1_keepFirstCodes fu l dC dI kI b (mkD (d_prefix d) (d_lastSymbol d) (d_lengths d) (d_newest d) (d_older d) p0 p1 (d_count d)) H.size z1 e2) gX1_begin_X1_keepFirstCodes qX1_keepFirstCodes rfl ⟨Nat.le_of_ble_eq_true rfl, Nat.le_of_ble_eq_true rfl⟩ ⟨rfl, rfl⟩ hNW hK hP hD hS hA hK rfl rfl rfl hl.1 rfl rfl (Nat.le_of_ble_eq_true rfl) dX1_begin_11 z0 (fun H locs hP hD hS => ?_)
  obtain rfl := Option.some.inj hJ
  exact rw_vret hx hb hr hlocks hP hD hS dX1_begin_14
theorem qX2_forgetRecent : (yX2_forgetRecent.cls = RX2) ∧ yX2_forgetRecent.cls ≠ "java/lang/invoke/MethodHandle" ∧ yX2_forgetRecent.cls ≠ "java/lang/invoke/VarHandle" ∧ (parseMethodDescriptor yX2_forgetRecent.desc).map (fun d => d.parameters.length) = some 0 := by decide +kernel
set_option maxHeartbeats 4000000 in
set_option maxRecDepth 100000 in
theorem c_X2_forgetRecent (l : Launch) (dC : Nat → ClassId) (dI : Nat → Nat → Nat) (kI : ClassId) (a : Nat → Nat) (b : Nat → Nat) (ee : ES) (sz : Nat) (z : ES) (hJ : J_X2_forgetRecent ee = some z) : Met l yX2_forgetRecent wsX2_forgetRecent ({ frames := 0, cells := 0, slots := 0, locals := 0 }) (va_Pc [.ref (a 0)] (RWp dC dI sz (EWc a b kI ee) [(kI, .int)])) (rwQv dC dI (va_A (EWc a b kI ee) sz) (EWc a b kI z)) 0 0 (va_A (EWc a b kI ee) sz) := by
  refine rw_start (Qc := fun A => rwQv dC dI A (EWc a b kI z)) (cc := cX2_forgetRecent) (maxL := 1) (ret := none) (by decide) rfl (Nat.le_of_ble_eq_true rfl) ?_
  intro p e s m args below meth c hx hb hr hml hown hts hlocks hNW hK A hA H locs ls hP hD hS hl
  have hown : s.vm.findClass RX2 = some m.cls := hown
  have hl : lv_has ls 1 [(0, .ref (a 0))] := hl
  unfold J_X2_forgetRecent at hJ
  refine lv_aload_n hx hb dX2_forgetRecent_0 rfl (lv_at hl 0 rfl) ?_
  refine lv_iconst (v := 0) hx hb dX2_forgetRecent_1 (by decide) ?_
  refine va_put (D := (dC, dI)) (ci := 2) (v := .int (0 : Int32)) (ty := .int) (C := RX2) (T := TX2) (N := 14) hx hb hts (fun _ h => List.mem_cons_of_mem _ (List.mem_append_right _ h)) tyX2 tyX2_ok nmX2 hown hK hP hD hS 0 rfl rfl 11 (by decide) (hts _ (List.mem_of_getElem? (i := 1) rfl)) (fun _ h9 => h9) rfl (by decide +kernel) rfl rfl (Nat.le_of_ble_eq_true rfl) dX2_forgetRecent_2 (fun H locs hP hD hS => ?_)
  have hP : va_P (dC, dI) vwCl (EWc a b kI (mkE (e_d ee) (e_policy ee) (e_limit ee) (e_phrase ee) (e_encoded ee) (e_encodedLength ee) (e_written ee) (e_widths ee) (e_writtenLength ee) (e_bits ee) (e_clears ee) (0 : Int32) (e_recentSymbols ee) (e_recentBits ee))) H := hP
  have hD : va_D A (EWc a b kI (mkE (e_d ee) (e_policy ee) (e_limit ee) (e_phrase ee) (e_encoded ee) (e_encodedLength ee) (e_written ee) (e_widths ee) (e_writtenLength ee) (e_bits ee) (e_clears ee) (0 : Int32) (e_recentSymbols ee) (e_recentBits ee))) := hD
  refine lv_aload_n hx hb dX2_forgetRecent_5 rfl (lv_at hl 0 rfl) ?_
  refine lv_iconst (v := 0) hx hb dX2_forgetRecent_6 (by decide) ?_
  refine va_put (D := (dC, dI)) (ci := 2) (v := .int (0 : Int32)) (ty := .int) (C := RX2) (T := TX2) (N := 14) hx hb hts (fun _ h => List.mem_cons_of_mem _ (List.mem_append_right _ h)) tyX2 tyX2_ok nmX2 hown hK hP hD hS 0 rfl rfl 12 (by decide) (hts _ (List.mem_of_getElem? (i := 2) rfl)) (fun _ h9 => h9) rfl (by decide +kernel) rfl rfl (Nat.le_of_ble_eq_true rfl) dX2_forgetRecent_7 (fun H locs hP hD hS => ?_)
  have hP : va_P (dC, dI) vwCl (EWc a b kI (mkE (e_d ee) (e_policy ee) (e_limit ee) (e_phrase ee) (e_encoded ee) (e_encodedLength ee) (e_written ee) (e_widths ee) (e_writtenLength ee) (e_bits ee) (e_clears ee) (0 : Int32) (0 : Int32) (e_recentBits ee))) H := hP
  have hD : va_D A (EWc a b kI (mkE (e_d ee) (e_policy ee) (e_limit ee) (e_phrase ee) (e_encoded ee) (e_encodedLength ee) (e_written ee) (e_widths ee) (e_writtenLength ee) (e_bits ee) (e_clears ee) (0 : Int32) (0 : Int32) (e_recentBits ee))) := hD
  refine lv_aload_n hx hb dX2_forgetRecent_10 rfl (lv_at hl 0 rfl) ?_
  refine lv_iconst (v := 0) hx hb dX2_forgetRecent_11 (by decide) ?_
  refine va_put (D := (dC, dI)) (ci := 2) (v := .int (0 : Int32)) (ty := .int) (C := RX2) (T := TX2) (N := 14) hx hb hts (fun _ h => List.mem_cons_of_mem _ (List.mem_append_right _ h)) tyX2 tyX2_ok nmX2 hown hK hP hD hS 0 rfl rfl 13 (by decide) (hts _ (List.mem_of_getElem? (i := 3) rfl)) (fun _ h9 => h9) rfl (by decide +kernel) rfl rfl (Nat.le_of_ble_eq_true rfl) dX2_forgetRecent_12 (fun H locs hP hD hS => ?_)
  have hP : va_P (dC, dI) vwCl (EWc a b kI (mkE (e_d ee) (e_policy ee) (e_limit ee) (e_phrase ee) (e_encoded ee) (e_encodedLength ee) (e_written ee) (e_widths ee) (e_writtenLength ee) (e_bits ee) (e_clears ee) (0 : Int32) (0 : Int32) (0 : Int32))) H := hP
  have hD : va_D A (EWc a b kI (mkE (e_d ee) (e_policy ee) (e_limit ee) (e_phrase ee) (e_encoded ee) (e_encodedLength ee) (e_written ee) (e_widths ee) (e_writtenLength ee) (e_bits ee) (e_clears ee) (0 : Int32) (0 : Int32) (0 : Int32))) := hD
  obtain rfl := Option.some.inj hJ
  exact rw_vret hx hb hr hlocks hP hD hS dX2_forgetRecent_15
theorem qX2_startAnew : (yX2_startAnew.cls = RX2) ∧ yX2_startAnew.cls ≠ "java/lang/invoke/MethodHandle" ∧ yX2_startAnew.cls ≠ "java/lang/invoke/VarHandle" ∧ (parseMethodDescriptor yX2_startAnew.desc).map (fun d => d.parameters.length) = some 0 := by decide +kernel
set_option maxHeartbeats 4000000 in
set_option maxRecDepth 100000 in
theorem c_X2_startAnew (fu : Nat) (l : Launch) (dC : Nat → ClassId) (dI : Nat → Nat → Nat) (kI : ClassId) (a : Nat → Nat) (b : Nat → Nat) (ee : ES) (sz : Nat) (z : ES) (hJ : J_X2_startAnew fu ee = some z) : Met l yX2_startAnew wsX2_startAnew ({ frames := 2, cells := 0, slots := 0, locals := 45 }) (va_Pc [.ref (a 0)] (RWp dC dI sz (EWc a b kI ee) [(kI, .int)])) (rwQv dC dI (va_A (EWc a b kI ee) sz) (EWc a b kI z)) 0 0 (va_A (EWc a b kI ee) sz) := by
  refine rw_start (Qc := fun A => rwQv dC dI A (EWc a b kI z)) (cc := cX2_startAnew) (maxL := 1) (ret := none) (by decide) rfl (Nat.le_of_ble_eq_true rfl) ?_
  intro p e s m args below meth c hx hb hr hml hown hts hlocks hNW hK A hA H locs ls hP hD hS hl
  have hown : s.vm.findClass RX2 = some m.cls := hown
  have hl : lv_has ls 1 [(0, .ref (a 0))] := hl
  unfold J_X2_startAnew at hJ
  refine lv_aload_n hx hb dX2_startAnew_0 rfl (lv_at hl 0 rfl) ?_
  refine va_get (D := (dC, dI)) (ci := 2) (v := .ref (b 0)) (C := RX2) (T := TX2) (N := 14) hx hb hts (fun _ h => List.mem_cons_of_mem _ (List.mem_append_left _ (List.mem_append_right _ h))) hown hK hP 0 rfl rfl 0 (by decide) (hts _ (List.mem_of_getElem? (i := 1) rfl)) (fun _ h9 => h9) rfl dX2_startAnew_1 ?_
  obtain ⟨z1, e2, hJ⟩ := bnd hJ
  refine rwVv (As := []) (rest := []) (wc := DWc b kI (e_d ee)) (wc' := DWc b kI z1) (ws' := EWc a b kI (mkE z1 (e_policy ee) (e_limit ee) (e_phrase ee) (e_encoded ee) (e_encodedLength ee) (e_written ee) (e_widths ee) (e_writtenLength ee) (e_bits ee) (e_clears ee) (e_recentCodes ee) (e_recentSymbols ee) (e_recentBits ee))) (ci := 1) (q0 := 0) hx hb hml hown hts (c_X1_keepFirstCodes fu l dC dI kI b (e_d ee) H.size z1 e2) gX2_startAnew_X1_keepFirstCodes qX1_keepFirstCodes rfl ⟨Nat.le_of_ble_eq_true rfl, Nat.le_of_ble_eq_true rfl⟩ ⟨rfl, rfl⟩ hNW hK hP hD hS hA [4, 5, 6, 7, 8, 9] [0, 1, 2, 3] rfl rfl (by decide) (by decide) (by decide) [0, 1, 2, 3, 4, 5, 6, 7, 8, 9] rfl (by decide) hK rfl rfl rfl hl.1 rfl rfl (Nat.le_of_ble_eq_true rfl) dX2_startAnew_4 z0 (fun H locs hP hD hS => ?_)
  refine lv_aload_n hx hb dX2_startAnew_7 rfl (lv_at hl 0 rfl) ?_
  refine lv_iconst (v := -1) hx hb dX2_startAnew_8 (by decide) ?_
  refine va_put (D := (dC, dI)) (ci := 2) (v := .int (-1 : Int32)) (ty := .int) (C := RX2) (T := TX2) (N := 14) hx hb hts (fun _ h => List.mem_cons_of_mem _ (List.mem_append_left _ (List.mem_append_right _ h))) tyX2 tyX2_ok nmX2 hown hK hP hD hS 0 rfl rfl 3 (by decide) (hts _ (List.mem_of_getElem? (i := 2) rfl)) (fun _ h9 => h9) rfl (by decide +kernel) rfl rfl (Nat.le_of_ble_eq_true rfl) dX2_startAnew_9 (fun H locs hP hD hS => ?_)
  have hP : va_P (dC, dI) vwCl (EWc a b kI (mkE z1 (e_policy ee) (e_limit ee) (-1 : Int32) (e_encoded ee) (e_encodedLength ee) (e_written ee) (e_widths ee) (e_writtenLength ee) (e_bits ee) (e_clears ee) (e_recentCodes ee) (e_recentSymbols ee) (e_recentBits ee))) H := hP
  have hD : va_D A (EWc a b kI (mkE z1 (e_policy ee) (e_limit ee) (-1 : Int32) (e_encoded ee) (e_encodedLength ee) (e_written ee) (e_widths ee) (e_writtenLength ee) (e_bits ee) (e_clears ee) (e_recentCodes ee) (e_recentSymbols ee) (e_recentBits ee))) := hD
  refine lv_aload_n hx hb dX2_startAnew_12 rfl (lv_at hl 0 rfl) ?_
  refine lv_iconst (v := 0) hx hb dX2_startAnew_13 (by decide) ?_
  refine va_put (D := (dC, dI)) (ci := 2) (v := .int (0 : Int32)) (ty := .int) (C := RX2) (T := TX2) (N := 14) hx hb hts (fun _ h => List.mem_cons_of_mem _ (List.mem_append_left _ (List.mem_append_right _ h))) tyX2 tyX2_ok nmX2 hown hK hP hD hS 0 rfl rfl 5 (by decide) (hts _ (List.mem_of_getElem? (i := 3) rfl)) (fun _ h9 => h9) rfl (by decide +kernel) rfl rfl (Nat.le_of_ble_eq_true rfl) dX2_startAnew_14 (fun H locs hP hD hS => ?_)
  have hP : va_P (dC, dI) vwCl (EWc a b kI (mkE z1 (e_policy ee) (e_limit ee) (-1 : Int32) (e_encoded ee) (0 : Int32) (e_written ee) (e_widths ee) (e_writtenLength ee) (e_bits ee) (e_clears ee) (e_recentCodes ee) (e_recentSymbols ee) (e_recentBits ee))) H := hP
  have hD : va_D A (EWc a b kI (mkE z1 (e_policy ee) (e_limit ee) (-1 : Int32) (e_encoded ee) (0 : Int32) (e_written ee) (e_widths ee) (e_writtenLength ee) (e_bits ee) (e_clears ee) (e_recentCodes ee) (e_recentSymbols ee) (e_recentBits ee))) := hD
  refine lv_aload_n hx hb dX2_startAnew_17 rfl (lv_at hl 0 rfl) ?_
  refine lv_iconst (v := 0) hx hb dX2_startAnew_18 (by decide) ?_
  refine va_put (D := (dC, dI)) (ci := 2) (v := .int (0 : Int32)) (ty := .int) (C := RX2) (T := TX2) (N := 14) hx hb hts (fun _ h => List.mem_cons_of_mem _ (List.mem_append_left _ (List.mem_append_right _ h))) tyX2 tyX2_ok nmX2 hown hK hP hD hS 0 rfl rfl 8 (by decide) (hts _ (List.mem_of_getElem? (i := 4) rfl)) (fun _ h9 => h9) rfl (by decide +kernel) rfl rfl (Nat.le_of_ble_eq_true rfl) dX2_startAnew_19 (fun H locs hP hD hS => ?_)
  have hP : va_P (dC, dI) vwCl (EWc a b kI (mkE z1 (e_policy ee) (e_limit ee) (-1 : Int32) (e_encoded ee) (0 : Int32) (e_written ee) (e_widths ee) (0 : Int32) (e_bits ee) (e_clears ee) (e_recentCodes ee) (e_recentSymbols ee) (e_recentBits ee))) H := hP
  have hD : va_D A (EWc a b kI (mkE z1 (e_policy ee) (e_limit ee) (-1 : Int32) (e_encoded ee) (0 : Int32) (e_written ee) (e_widths ee) (0 : Int32) (e_bits ee) (e_clears ee) (e_recentCodes ee) (e_recentSymbols ee) (e_recentBits ee))) := hD
  refine lv_aload_n hx hb dX2_startAnew_22 rfl (lv_at hl 0 rfl) ?_
  refine lv_iconst (v := 0) hx hb dX2_startAnew_23 (by decide) ?_
  refine va_put (D := (dC, dI)) (ci := 2) (v := .int (0 : Int32)) (ty := .int) (C := RX2) (T := TX2) (N := 14) hx hb hts (fun _ h => List.mem_cons_of_mem _ (List.mem_append_left _ (List.mem_append_right _ h))) tyX2 tyX2_ok nmX2 hown hK hP hD hS 0 rfl rfl 9 (by decide) (hts _ (List.mem_of_getElem? (i := 5) rfl)) (fun _ h9 => h9) rfl (by decide +kernel) rfl rfl (Nat.le_of_ble_eq_true rfl) dX2_startAnew_24 (fun H locs hP hD hS => ?_)
  have hP : va_P (dC, dI) vwCl (EWc a b kI (mkE z1 (e_policy ee) (e_limit ee) (-1 : Int32) (e_encoded ee) (0 : Int32) (e_written ee) (e_widths ee) (0 : Int32) (0 : Int32) (e_clears ee) (e_recentCodes ee) (e_recentSymbols ee) (e_recentBits ee))) H := hP
  have hD : va_D A (EWc a b kI (mkE z1 (e_policy ee) (e_limit ee) (-1 : Int32) (e_encoded ee) (0 : Int32) (e_written ee) (e_widths ee) (0 : Int32) (0 : Int32) (e_clears ee) (e_recentCodes ee) (e_recentSymbols ee) (e_recentBits ee))) := hD
  refine lv_aload_n hx hb dX2_startAnew_27 rfl (lv_at hl 0 rfl) ?_
  refine lv_iconst (v := 0) hx hb dX2_startAnew_28 (by decide) ?_
  refine va_put (D := (dC, dI)) (ci := 2) (v := .int (0 : Int32)) (ty := .int) (C := RX2) (T := TX2) (N := 14) hx hb hts (fun _ h => List.mem_cons_of_mem _ (List.mem_append_left _ (List.mem_append_right _ h))) tyX2 tyX2_ok nmX2 hown hK hP hD hS 0 rfl rfl 10 (by decide) (hts _ (List.mem_of_getElem? (i := 6) rfl)) (fun _ h9 => h9) rfl (by decide +kernel) rfl rfl (Nat.le_of_ble_eq_true rfl) dX2_startAnew_29 (fun H locs hP hD hS => ?_)
  have hP : va_P (dC, dI) vwCl (EWc a b kI (mkE z1 (e_policy ee) (e_limit ee) (-1 : Int32) (e_encoded ee) (0 : Int32) (e_written ee) (e_widths ee) (0 : Int32) (0 : Int32) (0 : Int32) (e_recentCodes ee) (e_recentSymbols ee) (e_recentBits ee))) H := hP
  have hD : va_D A (EWc a b kI (mkE z1 (e_policy ee) (e_limit ee) (-1 : Int32) (e_encoded ee) (0 : Int32) (e_written ee) (e_widths ee) (0 : Int32) (0 : Int32) (0 : Int32) (e_recentCodes ee) (e_recentSymbols ee) (e_recentBits ee))) := hD
  refine lv_aload_n hx hb dX2_startAnew_32 rfl (lv_at hl 0 rfl) ?_
  obtain ⟨z3, e4, hJ⟩ := bnd hJ
  refine rwVvW (As := []) (rest := []) (ci := 2) (q0 := 0) hx hb hml hown hts (c_X2_forgetRecent l dC dI kI a b (mkE z1 (e_policy ee) (e_limit ee) (-1 : Int32) (e_encoded ee) (0 : Int32) (e_written ee) (e_widths ee) (0 : Int32) (0 : Int32) (0 : Int32) (e_recentCodes ee) (e_recentSymbols ee) (e_recentBits ee)) H.size z3 e4) gX2_startAnew_X2_forgetRecent qX2_forgetRecent rfl ⟨Nat.le_of_ble_eq_true rfl, Nat.le_of_ble_eq_true rfl⟩ ⟨rfl, rfl⟩ hNW hK hP hD hS hA hK rfl rfl rfl hl.1 rfl rfl (Nat.le_of_ble_eq_true rfl) dX2_startAnew_33 z0 (fun H locs hP hD hS => ?_)
  obtain rfl := Option.some.inj hJ
  exact rw_vret hx hb hr hlocks hP hD hS dX2_startAnew_36
theorem qX2_begin : (yX2_begin.cls = RX2) ∧ yX2_begin.cls ≠ "java/lang/invoke/MethodHandle" ∧ yX2_begin.cls ≠ "java/lang/invoke/VarHandle" ∧ (parseMethodDescriptor yX2_begin.desc).map (fun d => d.parameters.length) = some 4 := by decide +kernel
set_option maxHeartbeats 4000000 in
set_option maxRecDepth 100000 in
theorem c_X2_begin (fu : Nat) (l : Launch) (dC : Nat → ClassId) (dI : Nat → Nat → Nat) (kI : ClassId) (a : Nat → Nat) (b : Nat → Nat) (ee : ES) (p0 : Int32) (p1 : Int32) (p2 : Int32) (p3 : Int32) (sz : Nat) (z : ES) (hJ : J_X2_begin fu ee p0 p1 p2 p3 = some z) : Met l yX2_begin wsX2_begin ({ frames := 3, cells := 0, slots := 0, locals := 67 }) (va_Pc [.ref (a 0), .int p0, .int p1, .int p2, .int p3] (RWp dC dI sz (EWc a b kI ee) [(kI, .int)])) (rwQv dC dI (va_A (EWc a b kI ee) sz) (EWc a b kI z)) 0 0 (va_A (EWc a b kI ee) sz) := by
  refine rw_start (Qc := fun A => rwQv dC dI A (EWc a b kI z)) (cc := cX2_begin) (maxL := 5) (ret := none) (by decide) rfl (Nat.le_of_ble_eq_true rfl) ?_
  intro p e s m args below meth c hx hb hr hml hown hts hlocks hNW hK A hA H locs ls hP hD hS hl
  have hown : s.vm.findClass RX2 = some m.cls := hown
  have hl : lv_has ls 5 [(0, .ref (a 0)), (1, .int p0), (2, .int p1), (3, .int p2), (4, .int p3)] := hl
  unfold J_X2_begin at hJ
  refine lv_aload_n hx hb dX2_begin_0 rfl (lv_at hl 0 rfl) ?_
  refine va_get (D := (dC, dI)) (ci := 2) (v := .ref (b 0)) (C := RX2) (T := TX2) (N := 14) hx hb hts (fun _ h => List.mem_cons_of_mem _ (List.mem_append_left _ (List.mem_append_right _ h))) hown hK hP 0 rfl rfl 0 (by decide) (hts _ (List.mem_of_getElem? (i := 1) rfl)) (fun _ h9 => h9) rfl dX2_begin_1 ?_
  refine lv_iload_n hx hb dX2_begin_4 rfl (lv_at hl 1 rfl) ?_
  refine lv_iload_n hx hb dX2_begin_5 rfl (lv_at hl 2 rfl) ?_
  obtain ⟨z1, e2, hJ⟩ := bnd hJ
  refine rwVv (As := [.int p0, .int p1]) (rest := []) (wc := DWc b kI (e_d ee)) (wc' := DWc b kI z1) (ws' := EWc a b kI (mkE z1 (e_policy ee) (e_limit ee) (e_phrase ee) (e_encoded ee) (e_encodedLength ee) (e_written ee) (e_widths ee) (e_writtenLength ee) (e_bits ee) (e_clears ee) (e_recentCodes ee) (e_recentSymbols ee) (e_recentBits ee))) (ci := 1) (q0 := 0) hx hb hml hown hts (c_X1_begin fu l dC dI kI b (e_d ee) p0 p1 H.size z1 e2) gX2_begin_X1_begin qX1_begin rfl ⟨Nat.le_of_ble_eq_true rfl, Nat.le_of_ble_eq_true rfl⟩ ⟨rfl, rfl⟩ hNW hK hP hD hS hA [4, 5, 6, 7, 8, 9] [0, 1, 2, 3] rfl rfl (by decide) (by decide) (by decide) [0, 1, 2, 3, 4, 5, 6, 7, 8, 9] rfl (by decide) hK rfl rfl rfl hl.1 rfl rfl (Nat.le_of_ble_eq_true rfl) dX2_begin_6 z0 (fun H locs hP hD hS => ?_)
  refine lv_aload_n hx hb dX2_begin_9 rfl (lv_at hl 0 rfl) ?_
  refine lv_iload_n hx hb dX2_begin_10 rfl (lv_at hl 3 rfl) ?_
  refine va_put (D := (dC, dI)) (ci := 2) (v := .int p2) (ty := .int) (C := RX2) (T := TX2) (N := 14) hx hb hts (fun _ h => List.mem_cons_of_mem _ (List.mem_append_left _ (List.mem_append_right _ h))) tyX2 tyX2_ok nmX2 hown hK hP hD hS 0 rfl rfl 1 (by decide) (hts _ (List.mem_of_getElem? (i := 2) rfl)) (fun _ h9 => h9) rfl (by decide +kernel) rfl rfl (Nat.le_of_ble_eq_true rfl) dX2_begin_11 (fun H locs hP hD hS => ?_)
  have hP : va_P (dC, dI) vwCl (EWc a b kI (mkE z1 p2 (e_limit ee) (e_phrase ee) (e_encoded ee) (e_encodedLength ee) (e_written ee) (e_widths ee) (e_writtenLength ee) (e_bits ee) (e_clears ee) (e_recentCodes ee) (e_recentSymbols ee) (e_recentBits ee))) H := hP
  have hD : va_D A (EWc a b kI (mkE z1 p2 (e_limit ee) (e_phrase ee) (e_encoded ee) (e_encodedLength ee) (e_written ee) (e_widths ee) (e_writtenLength ee) (e_bits ee) (e_clears ee) (e_recentCodes ee) (e_recentSymbols ee) (e_recentBits ee))) := hD
  refine lv_aload_n hx hb dX2_begin_14 rfl (lv_at hl 0 rfl) ?_
  refine lv_iload hx hb dX2_begin_15 (lv_at hl 4 rfl) ?_
  refine va_put (D := (dC, dI)) (ci := 2) (v := .int p3) (ty := .int) (C := RX2) (T := TX2) (N := 14) hx hb hts (fun _ h => List.mem_cons_of_mem _ (List.mem_append_left _ (List.mem_append_right _ h))) tyX2 tyX2_ok nmX2 hown hK hP hD hS 0 rfl rfl 2 (by decide) (hts _ (List.mem_of_getElem? (i := 3) rfl)) (fun _ h9 => h9) rfl (by decide +kernel) rfl rfl (Nat.le_of_ble_eq_true rfl) dX2_begin_17 (fun H locs hP hD hS => ?_)
  have hP : va_P (dC, dI) vwCl (EWc a b kI (mkE z1 p2 p3 (e_phrase ee) (e_encoded ee) (e_encodedLength ee) (e_written ee) (e_widths ee) (e_writtenLength ee) (e_bits ee) (e_clears ee) (e_recentCodes ee) (e_recentSymbols ee) (e_recentBits ee))) H := hP
  have hD : va_D A (EWc a b kI (mkE z1 p2 p3 (e_phrase ee) (e_encoded ee) (e_encodedLength ee) (e_written ee) (e_widths ee) (e_writtenLength ee) (e_bits ee) (e_clears ee) (e_recentCodes ee) (e_recentSymbols ee) (e_recentBits ee))) := hD
  refine lv_aload_n hx hb dX2_begin_20 rfl (lv_at hl 0 rfl) ?_
  obtain ⟨z3, e4, hJ⟩ := bnd hJ
  refine rwVvW (As := []) (rest := []) (ci := 2) (q0 := 0) hx hb hml hown hts (c_X2_startAnew fu l dC dI kI a b (mkE z1 p2 p3 (e_phrase ee) (e_encoded ee) (e_encodedLength ee) (e_written ee) (e_widths ee) (e_writtenLength ee) (e_bits ee) (e_clears ee) (e_recentCodes ee) (e_recentSymbols ee) (e_recentBits ee)) H.size z3 e4) gX2_begin_X2_startAnew qX2_startAnew rfl ⟨Nat.le_of_ble_eq_true rfl, Nat.le_of_ble_eq_true rfl⟩ ⟨rfl, rfl⟩ hNW hK hP hD hS hA hK rfl rfl rfl hl.1 rfl rfl (Nat.le_of_ble_eq_true rfl) dX2_begin_21 z0 (fun H locs hP hD hS => ?_)
  obtain rfl := Option.some.inj hJ
  exact rw_vret hx hb hr hlocks hP hD hS dX2_begin_24
theorem qX7_put : (yX7_put.cls = RX7) ∧ yX7_put.cls ≠ "java/lang/invoke/MethodHandle" ∧ yX7_put.cls ≠ "java/lang/invoke/VarHandle" ∧ (parseMethodDescriptor yX7_put.desc).map (fun d => d.parameters.length) = some 3 := by decide +kernel
set_option maxHeartbeats 4000000 in
set_option maxRecDepth 100000 in
theorem c_X7_put (l : Launch) (dC : Nat → ClassId) (dI : Nat → Nat → Nat) (kI : ClassId) (ax0 : Nat) (n0 : Nat) (f0 : Nat → Int32) (p1 : Int32) (p2 : Int32) (sz : Nat) (z : (Nat → Int32)) (hJ : J_X7_put n0 f0 p1 p2 = some z) : Met l yX7_put wsX7_put ({ frames := 0, cells := 0, slots := 0, locals := 0 }) (va_Pc [.ref ax0, .int p1, .int p2] (RWp dC dI sz (AWc ax0 kI n0 f0) [(kI, .int)])) (rwQv dC dI (va_A (AWc ax0 kI n0 f0) sz) (AWc ax0 kI n0 z)) 0 0 (va_A (AWc ax0 kI n0 f0) sz) := by
  refine rw_start (Qc := fun A => rwQv dC dI A (AWc ax0 kI n0 z)) (cc := cX7_put) (maxL := 3) (ret := none) (by decide) rfl (Nat.le_of_ble_eq_true rfl) ?_
  intro p e s m args below meth c hx hb hr hml hown hts hlocks hNW hK A hA H locs ls hP hD hS hl
  have hown : s.vm.findClass RX7 = some m.cls := hown
  have hl : lv_has ls 3 [(0, .ref ax0), (1, .int p1), (2, .int p2)] := hl
  unfold J_X7_put at hJ
  refine lv_iload_n hx hb dX7_put_0 rfl (lv_at hl 1 rfl) ?_
  refine lv_if_lt (tgt := 14) hx hb dX7_put_1 (by decide) (fun c1 => ?_) (fun c1 => ?_)
  · have hJ := ite_t c1 hJ
    obtain rfl := Option.some.inj hJ
    exact rw_vret hx hb hr hlocks hP hD hS dX7_put_14
  · have hJ := ite_f c1 hJ
    refine lv_iload_n hx hb dX7_put_4 rfl (lv_at hl 1 rfl) ?_
    refine lv_aload_n hx hb dX7_put_5 rfl (lv_at hl 0 rfl) ?_
    refine va_alen (v := nI n0) (x := (n0, .inl f0)) hx hb hK hP 0 0 rfl rfl rfl dX7_put_6 ?_
    refine lv_icmp_ge (tgt := 14) hx hb dX7_put_7 (by decide) (fun c2 => ?_) (fun c2 => ?_)
    · have hJ := ite_t c2 hJ
      obtain rfl := Option.some.inj hJ
      exact rw_vret hx hb hr hlocks hP hD hS dX7_put_14
    · have hJ := ite_f c2 hJ
      refine lv_aload_n hx hb dX7_put_10 rfl (lv_at hl 0 rfl) ?_
      refine lv_iload_n hx hb dX7_put_11 rfl (lv_at hl 1 rfl) ?_
      refine lv_iload_n hx hb dX7_put_12 rfl (lv_at hl 2 rfl) ?_
      obtain ⟨g3, e4, hJ⟩ := bnd hJ
      refine wr_int (n := n0) (f := f0) (x := p2) hx hb hK hP hD hS 0 0 rfl rfl e4 dX7_put_13 (fun H locs hP hD hS => ?_)
      have hP : va_P (dC, dI) vwCl (AWc ax0 kI n0 g3) H := hP
      have hD : va_D A (AWc ax0 kI n0 g3) := hD
      obtain rfl := Option.some.inj hJ
      exact rw_vret hx hb hr hlocks hP hD hS dX7_put_14
theorem qX6_begin : (yX6_begin.cls = RX6) ∧ yX6_begin.cls ≠ "java/lang/invoke/MethodHandle" ∧ yX6_begin.cls ≠ "java/lang/invoke/VarHandle" ∧ (parseMethodDescriptor yX6_begin.desc).map (fun d => d.parameters.length) = some 2 := by decide +kernel
set_option maxHeartbeats 4000000 in
set_option maxRecDepth 100000 in
theorem c_X6_begin (l : Launch) (dC : Nat → ClassId) (dI : Nat → Nat → Nat) (kI : ClassId) (h : Nat) (xa : Nat) (t : TS) (ax0 : Nat) (n0 : Nat) (f0 : Nat → Int32) (p1 : Int32) (sz : Nat) (z : TS) (hJ : J_X6_begin t n0 f0 p1 = some z) : Met l yX6_begin wsX6_begin ({ frames := 0, cells := 0, slots := 0, locals := 0 }) (va_Pc [.ref h, .ref ax0, .int p1] (RWp dC dI sz ((TWc h xa t) ++ (AWc ax0 kI n0 f0)) [(kI, .int)])) (rwQv dC dI (va_A ((TWc h xa t) ++ (AWc ax0 kI n0 f0)) sz) ((TWc h ax0 z) ++ (AWc ax0 kI n0 f0))) 0 0 (va_A ((TWc h xa t) ++ (AWc ax0 kI n0 f0)) sz) := by
  refine rw_start (Qc := fun A => rwQv dC dI A ((TWc h ax0 z) ++ (AWc ax0 kI n0 f0))) (cc := cX6_begin) (maxL := 3) (ret := none) (by decide) rfl (Nat.le_of_ble_eq_true rfl) ?_
  intro p e s m args below meth c hx hb hr hml hown hts hlocks hNW hK A hA H locs ls hP hD hS hl
  have hown : s.vm.findClass RX6 = some m.cls := hown
  have hl : lv_has ls 3 [(0, .ref h), (1, .ref ax0), (2, .int p1)] := hl
  unfold J_X6_begin at hJ
  refine lv_aload_n hx hb dX6_begin_0 rfl (lv_at hl 0 rfl) ?_
  refine lv_aload_n hx hb dX6_begin_1 rfl (lv_at hl 1 rfl) ?_
  refine va_put (D := (dC, dI)) (ci := 6) (v := .ref ax0) (ty := .array .int) (C := RX6) (T := TX6) (N := 5) hx hb hts (fun _ h => List.mem_cons_of_mem _ (List.mem_append_right _ h)) tyX6 tyX6_ok nmX6 hown hK hP hD hS 0 rfl rfl 0 (by decide) (hts _ (List.mem_of_getElem? (i := 1) rfl)) (fun _ h9 => h9) rfl (by decide +kernel) rfl rfl (Nat.le_of_ble_eq_true rfl) dX6_begin_2 (fun H locs hP hD hS => ?_)
  have hP : va_P (dC, dI) vwCl ((TWc h ax0 t) ++ (AWc ax0 kI n0 f0)) H := hP
  have hD : va_D A ((TWc h ax0 t) ++ (AWc ax0 kI n0 f0)) := hD
  refine lv_aload_n hx hb dX6_begin_5 rfl (lv_at hl 0 rfl) ?_
  refine lv_iload_n hx hb dX6_begin_6 rfl (lv_at hl 2 rfl) ?_
  refine va_put (D := (dC, dI)) (ci := 6) (v := .int p1) (ty := .int) (C := RX6) (T := TX6) (N := 5) hx hb hts (fun _ h => List.mem_cons_of_mem _ (List.mem_append_right _ h)) tyX6 tyX6_ok nmX6 hown hK hP hD hS 0 rfl rfl 1 (by decide) (hts _ (List.mem_of_getElem? (i := 2) rfl)) (fun _ h9 => h9) rfl (by decide +kernel) rfl rfl (Nat.le_of_ble_eq_true rfl) dX6_begin_7 (fun H locs hP hD hS => ?_)
  have hP : va_P (dC, dI) vwCl ((TWc h ax0 (mkT p1 (t_kind t) (t_start t) (t_end t))) ++ (AWc ax0 kI n0 f0)) H := hP
  have hD : va_D A ((TWc h ax0 (mkT p1 (t_kind t) (t_start t) (t_end t))) ++ (AWc ax0 kI n0 f0)) := hD
  refine lv_aload_n hx hb dX6_begin_10 rfl (lv_at hl 0 rfl) ?_
  refine lv_iconst (v := 0) hx hb dX6_begin_11 (by decide) ?_
  refine va_put (D := (dC, dI)) (ci := 6) (v := .int (0 : Int32)) (ty := .int) (C := RX6) (T := TX6) (N := 5) hx hb hts (fun _ h => List.mem_cons_of_mem _ (List.mem_append_right _ h)) tyX6 tyX6_ok nmX6 hown hK hP hD hS 0 rfl rfl 2 (by decide) (hts _ (List.mem_of_getElem? (i := 3) rfl)) (fun _ h9 => h9) rfl (by decide +kernel) rfl rfl (Nat.le_of_ble_eq_true rfl) dX6_begin_12 (fun H locs hP hD hS => ?_)
  have hP : va_P (dC, dI) vwCl ((TWc h ax0 (mkT p1 (0 : Int32) (t_start t) (t_end t))) ++ (AWc ax0 kI n0 f0)) H := hP
  have hD : va_D A ((TWc h ax0 (mkT p1 (0 : Int32) (t_start t) (t_end t))) ++ (AWc ax0 kI n0 f0)) := hD
  refine lv_aload_n hx hb dX6_begin_15 rfl (lv_at hl 0 rfl) ?_
  refine lv_iconst (v := 0) hx hb dX6_begin_16 (by decide) ?_
  refine va_put (D := (dC, dI)) (ci := 6) (v := .int (0 : Int32)) (ty := .int) (C := RX6) (T := TX6) (N := 5) hx hb hts (fun _ h => List.mem_cons_of_mem _ (List.mem_append_right _ h)) tyX6 tyX6_ok nmX6 hown hK hP hD hS 0 rfl rfl 3 (by decide) (hts _ (List.mem_of_getElem? (i := 4) rfl)) (fun _ h9 => h9) rfl (by decide +kernel) rfl rfl (Nat.le_of_ble_eq_true rfl) dX6_begin_17 (fun H locs hP hD hS => ?_)
  have hP : va_P (dC, dI) vwCl ((TWc h ax0 (mkT p1 (0 : Int32) (0 : Int32) (t_end t))) ++ (AWc ax0 kI n0 f0)) H := hP
  have hD : va_D A ((TWc h ax0 (mkT p1 (0 : Int32) (0 : Int32) (t_end t))) ++ (AWc ax0 kI n0 f0)) := hD
  refine lv_aload_n hx hb dX6_begin_20 rfl (lv_at hl 0 rfl) ?_
  refine lv_iconst (v := 0) hx hb dX6_begin_21 (by decide) ?_
  refine va_put (D := (dC, dI)) (ci := 6) (v := .int (0 : Int32)) (ty := .int) (C := RX6) (T := TX6) (N := 5) hx hb hts (fun _ h => List.mem_cons_of_mem _ (List.mem_append_right _ h)) tyX6 tyX6_ok nmX6 hown hK hP hD hS 0 rfl rfl 4 (by decide) (hts _ (List.mem_of_getElem? (i := 5) rfl)) (fun _ h9 => h9) rfl (by decide +kernel) rfl rfl (Nat.le_of_ble_eq_true rfl) dX6_begin_22 (fun H locs hP hD hS => ?_)
  have hP : va_P (dC, dI) vwCl ((TWc h ax0 (mkT p1 (0 : Int32) (0 : Int32) (0 : Int32))) ++ (AWc ax0 kI n0 f0)) H := hP
  have hD : va_D A ((TWc h ax0 (mkT p1 (0 : Int32) (0 : Int32) (0 : Int32))) ++ (AWc ax0 kI n0 f0)) := hD
  obtain rfl := Option.some.inj hJ
  exact rw_vret hx hb hr hlocks hP hD hS dX6_begin_25
theorem qX7_at : (yX7_at.cls = RX7) ∧ yX7_at.cls ≠ "java/lang/invoke/MethodHandle" ∧ yX7_at.cls ≠ "java/lang/invoke/VarHandle" ∧ (parseMethodDescriptor yX7_at.desc).map (fun d => d.parameters.length) = some 2 := by decide +kernel
set_option maxHeartbeats 4000000 in
set_option maxRecDepth 100000 in
theorem c_X7_at (l : Launch) (dC : Nat → ClassId) (dI : Nat → Nat → Nat) (kI : ClassId) (ax0 : Nat) (n0 : Nat) (f0 : Nat → Int32) (p1 : Int32) (z : Int32) (hJ : J_X7_at n0 f0 p1 = some z) : Met l yX7_at wsX7_at ({ frames := 0, cells := 0, slots := 0, locals := 0 }) (va_Pc [.ref ax0, .int p1] (ROp dC dI (AWc ax0 kI n0 f0) [(kI, .int)])) (roQi z) 0 0 (fun _ => False) := by
  refine ro_start (cc := cX7_at) (maxL := 2) (ret := (some .int)) (by decide) rfl (Nat.le_of_ble_eq_true rfl) ?_
  intro p e s m args below meth c hx hb hr hml hown hts hlocks hNW hK H locs ls hP hS hl
  have hown : s.vm.findClass RX7 = some m.cls := hown
  have hl : lv_has ls 2 [(0, .ref ax0), (1, .int p1)] := hl
  unfold J_X7_at at hJ
  refine lv_iload_n hx hb dX7_at_0 rfl (lv_at hl 1 rfl) ?_
  refine lv_if_lt (tgt := 16) hx hb dX7_at_1 (by decide) (fun c1 => ?_) (fun c1 => ?_)
  · have hJ := ite_t c1 hJ
    refine lv_iconst (v := 0) hx hb dX7_at_16 (by decide) ?_
    exact ro_iret hx hb hr hlocks hS hJ dX7_at_17
  · have hJ := ite_f c1 hJ
    refine lv_iload_n hx hb dX7_at_4 rfl (lv_at hl 1 rfl) ?_
    refine lv_aload_n hx hb dX7_at_5 rfl (lv_at hl 0 rfl) ?_
    refine va_alen (v := nI n0) (x := (n0, .inl f0)) hx hb hK hP 0 0 rfl rfl rfl dX7_at_6 ?_
    refine lv_icmp_ge (tgt := 16) hx hb dX7_at_7 (by decide) (fun c2 => ?_) (fun c2 => ?_)
    · have hJ := ite_t c2 hJ
      refine lv_iconst (v := 0) hx hb dX7_at_16 (by decide) ?_
      exact ro_iret hx hb hr hlocks hS hJ dX7_at_17
    · have hJ := ite_f c2 hJ
      refine lv_aload_n hx hb dX7_at_10 rfl (lv_at hl 0 rfl) ?_
      refine lv_iload_n hx hb dX7_at_11 rfl (lv_at hl 1 rfl) ?_
      obtain ⟨z3, e4, hJ⟩ := bnd hJ
      refine rd_int (n := n0) (f := f0) hx hb hK hP 0 0 rfl rfl e4 dX7_at_12 ?_
      refine lv_goto (tgt := 17) hx hb dX7_at_13 (by decide) ?_
      exact ro_iret hx hb hr hlocks hS hJ dX7_at_17
theorem qX6_isBlank : (yX6_isBlank.cls = RX6) ∧ yX6_isBlank.cls ≠ "java/lang/invoke/MethodHandle" ∧ yX6_isBlank.cls ≠ "java/lang/invoke/VarHandle" ∧ (parseMethodDescriptor yX6_isBlank.desc).map (fun d => d.parameters.length) = some 1 := by decide +kernel
set_option maxHeartbeats 4000000 in
set_option maxRecDepth 100000 in
theorem c_X6_isBlank (l : Launch) (dC : Nat → ClassId) (dI : Nat → Nat → Nat) (p0 : Int32) (z : Int32) (hJ : J_X6_isBlank p0 = some z) : Met l yX6_isBlank wsX6_isBlank ({ frames := 0, cells := 0, slots := 0, locals := 0 }) (va_Pc [.int p0] (ROp dC dI ([]) [])) (roQi z) 0 0 (fun _ => False) := by
  refine ro_start (cc := cX6_isBlank) (maxL := 1) (ret := (some .boolean)) (by decide) rfl (Nat.le_of_ble_eq_true rfl) ?_
  intro p e s m args below meth c hx hb hr hml hown hts hlocks hNW hK H locs ls hP hS hl
  have hown : s.vm.findClass RX6 = some m.cls := hown
  have hl : lv_has ls 1 [(0, .int p0)] := hl
  unfold J_X6_isBlank at hJ
  refine lv_iload_n hx hb dX6_isBlank_0 rfl (lv_at hl 0 rfl) ?_
  refine lv_bipush (v := 32) hx hb dX6_isBlank_1 (by decide) ?_
  refine lv_icmp_eq (tgt := 12) hx hb dX6_isBlank_3 (by decide) (fun c1 => ?_) (fun c1 => ?_)
  · have hJ := ite_t c1 hJ
    refine lv_iconst (v := 1) hx hb dX6_isBlank_12 (by decide) ?_
    refine lv_goto (tgt := 17) hx hb dX6_isBlank_13 (by decide) ?_
    exact ro_zret hx hb hr hlocks rfl hS hJ dX6_isBlank_17
  · have hJ := ite_f c1 hJ
    refine lv_iload_n hx hb dX6_isBlank_6 rfl (lv_at hl 0 rfl) ?_
    refine lv_bipush (v := 10) hx hb dX6_isBlank_7 (by decide) ?_
    refine lv_icmp_ne (tgt := 16) hx hb dX6_isBlank_9 (by decide) (fun c2 => ?_) (fun c2 => ?_)
    · have hJ := ite_f c2 hJ
      refine lv_iconst (v := 0) hx hb dX6_isBlank_16 (by decide) ?_
      exact ro_zret hx hb hr hlocks rfl hS hJ dX6_isBlank_17
    · have hJ := ite_t c2 hJ
      refine lv_iconst (v := 1) hx hb dX6_isBlank_12 (by decide) ?_
      refine lv_goto (tgt := 17) hx hb dX6_isBlank_13 (by decide) ?_
      exact ro_zret hx hb hr hlocks rfl hS hJ dX6_isBlank_17
theorem qX6_isLetter : (yX6_isLetter.cls = RX6) ∧ yX6_isLetter.cls ≠ "java/lang/invoke/MethodHandle" ∧ yX6_isLetter.cls ≠ "java/lang/invoke/VarHandle" ∧ (parseMethodDescriptor yX6_isLetter.desc).map (fun d => d.parameters.length) = some 1 := by decide +kernel
set_option maxHeartbeats 4000000 in
set_option maxRecDepth 100000 in
theorem c_X6_isLetter (l : Launch) (dC : Nat → ClassId) (dI : Nat → Nat → Nat) (p0 : Int32) (z : Int32) (hJ : J_X6_isLetter p0 = some z) : Met l yX6_isLetter wsX6_isLetter ({ frames := 0, cells := 0, slots := 0, locals := 0 }) (va_Pc [.int p0] (ROp dC dI ([]) [])) (roQi z) 0 0 (fun _ => False) := by
  refine ro_start (cc := cX6_isLetter) (maxL := 1) (ret := (some .boolean)) (by decide) rfl (Nat.le_of_ble_eq_true rfl) ?_
  intro p e s m args below meth c hx hb hr hml hown hts hlocks hNW hK H locs ls hP hS hl
  have hown : s.vm.findClass RX6 = some m.cls := hown
  have hl : lv_has ls 1 [(0, .int p0)] := hl
  unfold J_X6_isLetter at hJ
  refine lv_iload_n hx hb dX6_isLetter_0 rfl (lv_at hl 0 rfl) ?_
  refine lv_bipush (v := 97) hx hb dX6_isLetter_1 (by decide) ?_
  refine lv_icmp_lt (tgt := 16) hx hb dX6_isLetter_3 (by decide) (fun c1 => ?_) (fun c1 => ?_)
  · have hJ := ite_t c1 hJ
    refine lv_iconst (v := 0) hx hb dX6_isLetter_16 (by decide) ?_
    exact ro_zret hx hb hr hlocks rfl hS hJ dX6_isLetter_17
  · have hJ := ite_f c1 hJ
    refine lv_iload_n hx hb dX6_isLetter_6 rfl (lv_at hl 0 rfl) ?_
    refine lv_bipush (v := 122) hx hb dX6_isLetter_7 (by decide) ?_
    refine lv_icmp_gt (tgt := 16) hx hb dX6_isLetter_9 (by decide) (fun c2 => ?_) (fun c2 => ?_)
    · have hJ := ite_t c2 hJ
      refine lv_iconst (v := 0) hx hb dX6_isLetter_16 (by decide) ?_
      exact ro_zret hx hb hr hlocks rfl hS hJ dX6_isLetter_17
    · have hJ := ite_f c2 hJ
      refine lv_iconst (v := 1) hx hb dX6_isLetter_12 (by decide) ?_
      refine lv_goto (tgt := 17) hx hb dX6_isLetter_13 (by decide) ?_
      exact ro_zret hx hb hr hlocks rfl hS hJ dX6_isLetter_17
theorem qX6_readWord : (yX6_readWord.cls = RX6) ∧ yX6_readWord.cls ≠ "java/lang/invoke/MethodHandle" ∧ yX6_readWord.cls ≠ "java/lang/invoke/VarHandle" ∧ (parseMethodDescriptor yX6_readWord.desc).map (fun d => d.parameters.length) = some 0 := by decide +kernel
set_option maxHeartbeats 4000000 in
set_option maxRecDepth 100000 in
theorem c_X6_readWord (fu : Nat) (l : Launch) (dC : Nat → ClassId) (dI : Nat → Nat → Nat) (kI : ClassId) (h : Nat) (t : TS) (xa0 : Nat) (nx : Nat) (fx : Nat → Int32) (sz : Nat) (z : TS) (hJ : J_X6_readWord fu t nx fx = some z) : Met l yX6_readWord wsX6_readWord ({ frames := 1, cells := 0, slots := 0, locals := 21 }) (va_Pc [.ref h] (RWp dC dI sz ((TWc h xa0 t) ++ (AWc xa0 kI nx fx)) [(kI, .int)])) (rwQv dC dI (va_A ((TWc h xa0 t) ++ (AWc xa0 kI nx fx)) sz) ((TWc h xa0 z) ++ (AWc xa0 kI nx fx))) 0 0 (va_A ((TWc h xa0 t) ++ (AWc xa0 kI nx fx)) sz) := by
  refine rw_start (Qc := fun A => rwQv dC dI A ((TWc h xa0 z) ++ (AWc xa0 kI nx fx))) (cc := cX6_readWord) (maxL := 1) (ret := none) (by decide) rfl (Nat.le_of_ble_eq_true rfl) ?_
  intro p e s m args below meth c hx hb hr hml hown hts hlocks hNW hK A hA H locs ls hP hD hS hl
  have hown : s.vm.findClass RX6 = some m.cls := hown
  have hl : lv_has ls 1 [(0, .ref h)] := hl
  unfold J_X6_readWord at hJ
  have L41 : ∀ (t : TS) (H : Heap) (locs : List Loc) (ls : Array Slot), va_P (dC, dI) vwCl ((TWc h xa0 t) ++ (AWc xa0 kI nx fx)) H → va_D A ((TWc h xa0 t) ++ (AWc xa0 kI nx fx)) → va_S A s.heap H locs → lv_has ls 1 [(0, .ref h)] → J_X6_readWord_b41 fu nx fx t = some z → W p l e ({ frames := 1, cells := 0, slots := 0, locals := 21 }) s m args below meth c H locs 0 0 (MQ below (rwQv dC dI A ((TWc h xa0 z) ++ (AWc xa0 kI nx fx))) args s 0 0 (A)) (F0 m 41 ls []) := by
    intro t H locs ls hP hD hS hl hJ
    unfold J_X6_readWord_b41 at hJ
    refine lv_aload_n hx hb dX6_readWord_41 rfl (lv_at hl 0 rfl) ?_
    refine lv_iconst (v := 1) hx hb dX6_readWord_42 (by decide) ?_
    refine va_put (D := (dC, dI)) (ci := 6) (v := .int (1 : Int32)) (ty := .int) (C := RX6) (T := TX6) (N := 5) hx hb hts (fun _ h => List.mem_cons_of_mem _ (List.mem_append_right _ h)) tyX6 tyX6_ok nmX6 hown hK hP hD hS 0 rfl rfl 2 (by decide) (hts _ (List.mem_of_getElem? (i := 4) rfl)) (fun _ h9 => h9) rfl (by decide +kernel) rfl rfl (Nat.le_of_ble_eq_true rfl) dX6_readWord_43 (fun H locs hP hD hS => ?_)
    have hP : va_P (dC, dI) vwCl ((TWc h xa0 (mkT (t_textLength t) (1 : Int32) (t_start t) (t_end t))) ++ (AWc xa0 kI nx fx)) H := hP
    have hD : va_D A ((TWc h xa0 (mkT (t_textLength t) (1 : Int32) (t_start t) (t_end t))) ++ (AWc xa0 kI nx fx)) := hD
    obtain rfl := Option.some.inj hJ
    exact rw_vret hx hb hr hlocks hP hD hS dX6_readWord_46
  have L0 : ∀ (n : Nat) (t : TS) (H : Heap) (locs : List Loc) (ls : Array Slot), va_P (dC, dI) vwCl ((TWc h xa0 t) ++ (AWc xa0 kI nx fx)) H → va_D A ((TWc h xa0 t) ++ (AWc xa0 kI nx fx)) → va_S A s.heap H locs → lv_has ls 1 [(0, .ref h)] → J_X6_readWord_b0 fu nx fx n t = some z → W p l e ({ frames := 1, cells := 0, slots := 0, locals := 21 }) s m args below meth c H locs 0 0 (MQ below (rwQv dC dI A ((TWc h xa0 z) ++ (AWc xa0 kI nx fx))) args s 0 0 (A)) (F0 m 0 ls []) := by
    intro n
    induction n with
    | zero =>
      intro t H locs ls hP hD hS hl hJ
      rw [J_X6_readWord_b0] at hJ; cases hJ
    | succ n ih =>
      intro t H locs ls hP hD hS hl hJ
      rw [J_X6_readWord_b0] at hJ
      refine lv_aload_n hx hb dX6_readWord_0 rfl (lv_at hl 0 rfl) ?_
      refine va_get (D := (dC, dI)) (ci := 6) (v := .int (t_end t)) (C := RX6) (T := TX6) (N := 5) hx hb hts (fun _ h => List.mem_cons_of_mem _ (List.mem_append_right _ h)) hown hK hP 0 rfl rfl 4 (by decide) (hts _ (List.mem_of_getElem? (i := 1) rfl)) (fun _ h9 => h9) rfl dX6_readWord_1 ?_
      refine lv_aload_n hx hb dX6_readWord_4 rfl (lv_at hl 0 rfl) ?_
      refine va_get (D := (dC, dI)) (ci := 6) (v := .int (t_textLength t)) (C := RX6) (T := TX6) (N := 5) hx hb hts (fun _ h => List.mem_cons_of_mem _ (List.mem_append_right _ h)) hown hK hP 0 rfl rfl 1 (by decide) (hts _ (List.mem_of_getElem? (i := 2) rfl)) (fun _ h9 => h9) rfl dX6_readWord_5 ?_
      refine lv_icmp_ge (tgt := 41) hx hb dX6_readWord_8 (by decide) (fun c7 => ?_) (fun c7 => ?_)
      · have hJ := ite_t c7 hJ
        exact L41 t H locs ls hP hD hS (lv_sub hl [0] rfl) hJ
      · have hJ := ite_f c7 hJ
        refine lv_aload_n hx hb dX6_readWord_11 rfl (lv_at hl 0 rfl) ?_
        refine va_get (D := (dC, dI)) (ci := 6) (v := .ref xa0) (C := RX6) (T := TX6) (N := 5) hx hb hts (fun _ h => List.mem_cons_of_mem _ (List.mem_append_right _ h)) hown hK hP 0 rfl rfl 0 (by decide) (hts _ (List.mem_of_getElem? (i := 3) rfl)) (fun _ h9 => h9) rfl dX6_readWord_12 ?_
        refine lv_aload_n hx hb dX6_readWord_15 rfl (lv_at hl 0 rfl) ?_
        refine va_get (D := (dC, dI)) (ci := 6) (v := .int (t_end t)) (C := RX6) (T := TX6) (N := 5) hx hb hts (fun _ h => List.mem_cons_of_mem _ (List.mem_append_right _ h)) hown hK hP 0 rfl rfl 4 (by decide) (hts _ (List.mem_of_getElem? (i := 1) rfl)) (fun _ h9 => h9) rfl dX6_readWord_16 ?_
        obtain ⟨z8, e9, hJ⟩ := bnd hJ
        refine roSNi (As := [.ref xa0, .int (t_end t)]) (rest := []) hx hb hml hown hts (c_X7_at l dC dI kI xa0 nx fx (t_end t) z8 e9) gX6_readWord_X7_at_n28 qX7_at rfl ⟨Nat.le_of_ble_eq_true rfl, Nat.le_of_ble_eq_true rfl⟩ (hNW.use0 (i := 64) rfl) (hts _ (List.mem_of_getElem? (i := 6) rfl)) (hts _ (List.mem_of_getElem? (i := 5) rfl)) ⟨rfl, rfl⟩ hNW hK hP hS (hP.sub (ws' := AWc xa0 kI nx fx) [1] rfl) hK hl.1 rfl rfl (Nat.le_of_ble_eq_true rfl) dX6_readWord_19 z0 (fun H locs hP hS => ?_)
        obtain ⟨z10, e11, hJ⟩ := bnd hJ
        refine roSi (As := [.int z8]) (rest := []) hx hb hml hown hts (c_X6_isLetter l dC dI z8 z10 e11) gX6_readWord_X6_isLetter qX6_isLetter rfl ⟨Nat.le_of_ble_eq_true rfl, Nat.le_of_ble_eq_true rfl⟩ ⟨rfl, rfl⟩ hNW hK hP hS (hP.sub (ws' := []) [] rfl) (hK.sub (tys' := []) [] rfl) hl.1 rfl rfl (Nat.le_of_ble_eq_true rfl) dX6_readWord_22 z0 (fun H locs hP hS => ?_)
        refine lv_if_eq (tgt := 41) hx hb dX6_readWord_25 (by decide) (fun c12 => ?_) (fun c12 => ?_)
        · have hJ := ite_t c12 hJ
          exact L41 t H locs ls hP hD hS (lv_sub hl [0] rfl) hJ
        · have hJ := ite_f c12 hJ
          refine lv_aload_n hx hb dX6_readWord_28 rfl (lv_at hl 0 rfl) ?_
          refine lv_dup hx hb dX6_readWord_29 rfl ?_
          refine va_get (D := (dC, dI)) (ci := 6) (v := .int (t_end t)) (C := RX6) (T := TX6) (N := 5) hx hb hts (fun _ h => List.mem_cons_of_mem _ (List.mem_append_right _ h)) hown hK hP 0 rfl rfl 4 (by decide) (hts _ (List.mem_of_getElem? (i := 1) rfl)) (fun _ h9 => h9) rfl dX6_readWord_30 ?_
          refine lv_iconst (v := 1) hx hb dX6_readWord_33 (by decide) ?_
          refine lv_iadd hx hb dX6_readWord_34 ?_
          refine va_put (D := (dC, dI)) (ci := 6) (v := .int ((t_end t) + (1 : Int32))) (ty := .int) (C := RX6) (T := TX6) (N := 5) hx hb hts (fun _ h => List.mem_cons_of_mem _ (List.mem_append_right _ h)) tyX6 tyX6_ok nmX6 hown hK hP hD hS 0 rfl rfl 4 (by decide) (hts _ (List.mem_of_getElem? (i := 1) rfl)) (fun _ h9 => h9) rfl (by decide +kernel) rfl rfl (Nat.le_of_ble_eq_true rfl) dX6_readWord_35 (fun H locs hP hD hS => ?_)
          have hP : va_P (dC, dI) vwCl ((TWc h xa0 (mkT (t_textLength t) (t_kind t) (t_start t) ((t_end t) + (1 : Int32)))) ++ (AWc xa0 kI nx fx)) H := hP
          have hD : va_D A ((TWc h xa0 (mkT (t_textLength t) (t_kind t) (t_start t) ((t_end t) + (1 : Int32)))) ++ (AWc xa0 kI nx fx)) := hD
          refine lv_goto (tgt := 0) hx hb dX6_readWord_38 (by decide) ?_
          exact ih (mkT (t_textLength t) (t_kind t) (t_start t) ((t_end t) + (1 : Int32))) H locs ls hP hD hS (lv_sub hl [0] rfl) hJ
  refine lv_aload_n hx hb dX6_readWord_0 rfl (lv_at hl 0 rfl) ?_
  refine va_get (D := (dC, dI)) (ci := 6) (v := .int (t_end t)) (C := RX6) (T := TX6) (N := 5) hx hb hts (fun _ h => List.mem_cons_of_mem _ (List.mem_append_right _ h)) hown hK hP 0 rfl rfl 4 (by decide) (hts _ (List.mem_of_getElem? (i := 1) rfl)) (fun _ h9 => h9) rfl dX6_readWord_1 ?_
  refine lv_aload_n hx hb dX6_readWord_4 rfl (lv_at hl 0 rfl) ?_
  refine va_get (D := (dC, dI)) (ci := 6) (v := .int (t_textLength t)) (C := RX6) (T := TX6) (N := 5) hx hb hts (fun _ h => List.mem_cons_of_mem _ (List.mem_append_right _ h)) hown hK hP 0 rfl rfl 1 (by decide) (hts _ (List.mem_of_getElem? (i := 2) rfl)) (fun _ h9 => h9) rfl dX6_readWord_5 ?_
  refine lv_icmp_ge (tgt := 41) hx hb dX6_readWord_8 (by decide) (fun c1 => ?_) (fun c1 => ?_)
  · have hJ := ite_t c1 hJ
    exact L41 t H locs ls hP hD hS (lv_sub hl [0] rfl) hJ
  · have hJ := ite_f c1 hJ
    refine lv_aload_n hx hb dX6_readWord_11 rfl (lv_at hl 0 rfl) ?_
    refine va_get (D := (dC, dI)) (ci := 6) (v := .ref xa0) (C := RX6) (T := TX6) (N := 5) hx hb hts (fun _ h => List.mem_cons_of_mem _ (List.mem_append_right _ h)) hown hK hP 0 rfl rfl 0 (by decide) (hts _ (List.mem_of_getElem? (i := 3) rfl)) (fun _ h9 => h9) rfl dX6_readWord_12 ?_
    refine lv_aload_n hx hb dX6_readWord_15 rfl (lv_at hl 0 rfl) ?_
    refine va_get (D := (dC, dI)) (ci := 6) (v := .int (t_end t)) (C := RX6) (T := TX6) (N := 5) hx hb hts (fun _ h => List.mem_cons_of_mem _ (List.mem_append_right _ h)) hown hK hP 0 rfl rfl 4 (by decide) (hts _ (List.mem_of_getElem? (i := 1) rfl)) (fun _ h9 => h9) rfl dX6_readWord_16 ?_
    obtain ⟨z2, e3, hJ⟩ := bnd hJ
    refine roSNi (As := [.ref xa0, .int (t_end t)]) (rest := []) hx hb hml hown hts (c_X7_at l dC dI kI xa0 nx fx (t_end t) z2 e3) gX6_readWord_X7_at_n28 qX7_at rfl ⟨Nat.le_of_ble_eq_true rfl, Nat.le_of_ble_eq_true rfl⟩ (hNW.use0 (i := 64) rfl) (hts _ (List.mem_of_getElem? (i := 6) rfl)) (hts _ (List.mem_of_getElem? (i := 5) rfl)) ⟨rfl, rfl⟩ hNW hK hP hS (hP.sub (ws' := AWc xa0 kI nx fx) [1] rfl) hK hl.1 rfl rfl (Nat.le_of_ble_eq_true rfl) dX6_readWord_19 z0 (fun H locs hP hS => ?_)
    obtain ⟨z4, e5, hJ⟩ := bnd hJ
    refine roSi (As := [.int z2]) (rest := []) hx hb hml hown hts (c_X6_isLetter l dC dI z2 z4 e5) gX6_readWord_X6_isLetter qX6_isLetter rfl ⟨Nat.le_of_ble_eq_true rfl, Nat.le_of_ble_eq_true rfl⟩ ⟨rfl, rfl⟩ hNW hK hP hS (hP.sub (ws' := []) [] rfl) (hK.sub (tys' := []) [] rfl) hl.1 rfl rfl (Nat.le_of_ble_eq_true rfl) dX6_readWord_22 z0 (fun H locs hP hS => ?_)
    refine lv_if_eq (tgt := 41) hx hb dX6_readWord_25 (by decide) (fun c6 => ?_) (fun c6 => ?_)
    · have hJ := ite_t c6 hJ
      exact L41 t H locs ls hP hD hS (lv_sub hl [0] rfl) hJ
    · have hJ := ite_f c6 hJ
      refine lv_aload_n hx hb dX6_readWord_28 rfl (lv_at hl 0 rfl) ?_
      refine lv_dup hx hb dX6_readWord_29 rfl ?_
      refine va_get (D := (dC, dI)) (ci := 6) (v := .int (t_end t)) (C := RX6) (T := TX6) (N := 5) hx hb hts (fun _ h => List.mem_cons_of_mem _ (List.mem_append_right _ h)) hown hK hP 0 rfl rfl 4 (by decide) (hts _ (List.mem_of_getElem? (i := 1) rfl)) (fun _ h9 => h9) rfl dX6_readWord_30 ?_
      refine lv_iconst (v := 1) hx hb dX6_readWord_33 (by decide) ?_
      refine lv_iadd hx hb dX6_readWord_34 ?_
      refine va_put (D := (dC, dI)) (ci := 6) (v := .int ((t_end t) + (1 : Int32))) (ty := .int) (C := RX6) (T := TX6) (N := 5) hx hb hts (fun _ h => List.mem_cons_of_mem _ (List.mem_append_right _ h)) tyX6 tyX6_ok nmX6 hown hK hP hD hS 0 rfl rfl 4 (by decide) (hts _ (List.mem_of_getElem? (i := 1) rfl)) (fun _ h9 => h9) rfl (by decide +kernel) rfl rfl (Nat.le_of_ble_eq_true rfl) dX6_readWord_35 (fun H locs hP hD hS => ?_)
      have hP : va_P (dC, dI) vwCl ((TWc h xa0 (mkT (t_textLength t) (t_kind t) (t_start t) ((t_end t) + (1 : Int32)))) ++ (AWc xa0 kI nx fx)) H := hP
      have hD : va_D A ((TWc h xa0 (mkT (t_textLength t) (t_kind t) (t_start t) ((t_end t) + (1 : Int32)))) ++ (AWc xa0 kI nx fx)) := hD
      refine lv_goto (tgt := 0) hx hb dX6_readWord_38 (by decide) ?_
      exact L0 fu (mkT (t_textLength t) (t_kind t) (t_start t) ((t_end t) + (1 : Int32))) H locs ls hP hD hS (lv_sub hl [0] rfl) hJ
theorem qX6_isDigit : (yX6_isDigit.cls = RX6) ∧ yX6_isDigit.cls ≠ "java/lang/invoke/MethodHandle" ∧ yX6_isDigit.cls ≠ "java/lang/invoke/VarHandle" ∧ (parseMethodDescriptor yX6_isDigit.desc).map (fun d => d.parameters.length) = some 1 := by decide +kernel
set_option maxHeartbeats 4000000 in
set_option maxRecDepth 100000 in
theorem c_X6_isDigit (l : Launch) (dC : Nat → ClassId) (dI : Nat → Nat → Nat) (p0 : Int32) (z : Int32) (hJ : J_X6_isDigit p0 = some z) : Met l yX6_isDigit wsX6_isDigit ({ frames := 0, cells := 0, slots := 0, locals := 0 }) (va_Pc [.int p0] (ROp dC dI ([]) [])) (roQi z) 0 0 (fun _ => False) := by
  refine ro_start (cc := cX6_isDigit) (maxL := 1) (ret := (some .boolean)) (by decide) rfl (Nat.le_of_ble_eq_true rfl) ?_
  intro p e s m args below meth c hx hb hr hml hown hts hlocks hNW hK H locs ls hP hS hl
  have hown : s.vm.findClass RX6 = some m.cls := hown
  have hl : lv_has ls 1 [(0, .int p0)] := hl
  unfold J_X6_isDigit at hJ
  refine lv_iload_n hx hb dX6_isDigit_0 rfl (lv_at hl 0 rfl) ?_
  refine lv_bipush (v := 48) hx hb dX6_isDigit_1 (by decide) ?_
  refine lv_icmp_lt (tgt := 16) hx hb dX6_isDigit_3 (by decide) (fun c1 => ?_) (fun c1 => ?_)
  · have hJ := ite_t c1 hJ
    refine lv_iconst (v := 0) hx hb dX6_isDigit_16 (by decide) ?_
    exact ro_zret hx hb hr hlocks rfl hS hJ dX6_isDigit_17
  · have hJ := ite_f c1 hJ
    refine lv_iload_n hx hb dX6_isDigit_6 rfl (lv_at hl 0 rfl) ?_
    refine lv_bipush (v := 57) hx hb dX6_isDigit_7 (by decide) ?_
    refine lv_icmp_gt (tgt := 16) hx hb dX6_isDigit_9 (by decide) (fun c2 => ?_) (fun c2 => ?_)
    · have hJ := ite_t c2 hJ
      refine lv_iconst (v := 0) hx hb dX6_isDigit_16 (by decide) ?_
      exact ro_zret hx hb hr hlocks rfl hS hJ dX6_isDigit_17
    · have hJ := ite_f c2 hJ
      refine lv_iconst (v := 1) hx hb dX6_isDigit_12 (by decide) ?_
      refine lv_goto (tgt := 17) hx hb dX6_isDigit_13 (by decide) ?_
      exact ro_zret hx hb hr hlocks rfl hS hJ dX6_isDigit_17
theorem qX6_readNumber : (yX6_readNumber.cls = RX6) ∧ yX6_readNumber.cls ≠ "java/lang/invoke/MethodHandle" ∧ yX6_readNumber.cls ≠ "java/lang/invoke/VarHandle" ∧ (parseMethodDescriptor yX6_readNumber.desc).map (fun d => d.parameters.length) = some 0 := by decide +kernel
set_option maxHeartbeats 4000000 in
set_option maxRecDepth 100000 in
theorem c_X6_readNumber (fu : Nat) (l : Launch) (dC : Nat → ClassId) (dI : Nat → Nat → Nat) (kI : ClassId) (h : Nat) (t : TS) (xa0 : Nat) (nx : Nat) (fx : Nat → Int32) (sz : Nat) (z : TS) (hJ : J_X6_readNumber fu t nx fx = some z) : Met l yX6_readNumber wsX6_readNumber ({ frames := 1, cells := 0, slots := 0, locals := 21 }) (va_Pc [.ref h] (RWp dC dI sz ((TWc h xa0 t) ++ (AWc xa0 kI nx fx)) [(kI, .int)])) (rwQv dC dI (va_A ((TWc h xa0 t) ++ (AWc xa0 kI nx fx)) sz) ((TWc h xa0 z) ++ (AWc xa0 kI nx fx))) 0 0 (va_A ((TWc h xa0 t) ++ (AWc xa0 kI nx fx)) sz) := by
  refine rw_start (Qc := fun A => rwQv dC dI A ((TWc h xa0 z) ++ (AWc xa0 kI nx fx))) (cc := cX6_readNumber) (maxL := 1) (ret := none) (by decide) rfl (Nat.le_of_ble_eq_true rfl) ?_
  intro p e s m args below meth c hx hb hr hml hown hts hlocks hNW hK A hA H locs ls hP hD hS hl
  have hown : s.vm.findClass RX6 = some m.cls := hown
  have hl : lv_has ls 1 [(0, .ref h)] := hl
  unfold J_X6_readNumber at hJ
  have L60 : ∀ (t : TS) (k1 : Int32) (H : Heap) (locs : List Loc) (ls : Array Slot), va_P (dC, dI) vwCl ((TWc h xa0 t) ++ (AWc xa0 kI nx fx)) H → va_D A ((TWc h xa0 t) ++ (AWc xa0 kI nx fx)) → va_S A s.heap H locs → lv_has ls 1 [] → J_X6_readNumber_b60 fu nx fx t k1 = some z → W p l e ({ frames := 1, cells := 0, slots := 0, locals := 21 }) s m args below meth c H locs 0 0 (MQ below (rwQv dC dI A ((TWc h xa0 z) ++ (AWc xa0 kI nx fx))) args s 0 0 (A)) (F0 m 60 ls [.int k1, .ref h]) := by
    intro t k1 H locs ls hP hD hS hl hJ
    unfold J_X6_readNumber_b60 at hJ
    refine va_put (D := (dC, dI)) (ci := 6) (v := .int k1) (ty := .int) (C := RX6) (T := TX6) (N := 5) hx hb hts (fun _ h => List.mem_cons_of_mem _ (List.mem_append_right _ h)) tyX6 tyX6_ok nmX6 hown hK hP hD hS 0 rfl rfl 2 (by decide) (hts _ (List.mem_of_getElem? (i := 5) rfl)) (fun _ h9 => h9) rfl (by decide +kernel) rfl rfl (Nat.le_of_ble_eq_true rfl) dX6_readNumber_60 (fun H locs hP hD hS => ?_)
    have hP : va_P (dC, dI) vwCl ((TWc h xa0 (mkT (t_textLength t) k1 (t_start t) (t_end t))) ++ (AWc xa0 kI nx fx)) H := hP
    have hD : va_D A ((TWc h xa0 (mkT (t_textLength t) k1 (t_start t) (t_end t))) ++ (AWc xa0 kI nx fx)) := hD
    obtain rfl := Option.some.inj hJ
    exact rw_vret hx hb hr hlocks hP hD hS dX6_readNumber_63
  have L41 : ∀ (t : TS) (H : Heap) (locs : List Loc) (ls : Array Slot), va_P (dC, dI) vwCl ((TWc h xa0 t) ++ (AWc xa0 kI nx fx)) H → va_D A ((TWc h xa0 t) ++ (AWc xa0 kI nx fx)) → va_S A s.heap H locs → lv_has ls 1 [(0, .ref h)] → J_X6_readNumber_b41 fu nx fx t = some z → W p l e ({ frames := 1, cells := 0, slots := 0, locals := 21 }) s m args below meth c H locs 0 0 (MQ below (rwQv dC dI A ((TWc h xa0 z) ++ (AWc xa0 kI nx fx))) args s 0 0 (A)) (F0 m 41 ls []) := by
    intro t H locs ls hP hD hS hl hJ
    unfold J_X6_readNumber_b41 at hJ
    refine lv_aload_n hx hb dX6_readNumber_41 rfl (lv_at hl 0 rfl) ?_
    refine lv_aload_n hx hb dX6_readNumber_42 rfl (lv_at hl 0 rfl) ?_
    refine va_get (D := (dC, dI)) (ci := 6) (v := .int (t_end t)) (C := RX6) (T := TX6) (N := 5) hx hb hts (fun _ h => List.mem_cons_of_mem _ (List.mem_append_right _ h)) hown hK hP 0 rfl rfl 4 (by decide) (hts _ (List.mem_of_getElem? (i := 1) rfl)) (fun _ h9 => h9) rfl dX6_readNumber_43 ?_
    refine lv_aload_n hx hb dX6_readNumber_46 rfl (lv_at hl 0 rfl) ?_
    refine va_get (D := (dC, dI)) (ci := 6) (v := .int (t_start t)) (C := RX6) (T := TX6) (N := 5) hx hb hts (fun _ h => List.mem_cons_of_mem _ (List.mem_append_right _ h)) hown hK hP 0 rfl rfl 3 (by decide) (hts _ (List.mem_of_getElem? (i := 4) rfl)) (fun _ h9 => h9) rfl dX6_readNumber_47 ?_
    refine lv_isub hx hb dX6_readNumber_50 ?_
    refine lv_iconst (v := 3) hx hb dX6_readNumber_51 (by decide) ?_
    refine lv_icmp_gt (tgt := 59) hx hb dX6_readNumber_52 (by decide) (fun c7 => ?_) (fun c7 => ?_)
    · have hJ := ite_t c7 hJ
      refine lv_iconst (v := 4) hx hb dX6_readNumber_59 (by decide) ?_
      exact L60 t (4 : Int32) H locs ls hP hD hS (lv_sub hl [] rfl) hJ
    · have hJ := ite_f c7 hJ
      refine lv_iconst (v := 2) hx hb dX6_readNumber_55 (by decide) ?_
      refine lv_goto (tgt := 60) hx hb dX6_readNumber_56 (by decide) ?_
      exact L60 t (2 : Int32) H locs ls hP hD hS (lv_sub hl [] rfl) hJ
  have L0 : ∀ (n : Nat) (t : TS) (H : Heap) (locs : List Loc) (ls : Array Slot), va_P (dC, dI) vwCl ((TWc h xa0 t) ++ (AWc xa0 kI nx fx)) H → va_D A ((TWc h xa0 t) ++ (AWc xa0 kI nx fx)) → va_S A s.heap H locs → lv_has ls 1 [(0, .ref h)] → J_X6_readNumber_b0 fu nx fx n t = some z → W p l e ({ frames := 1, cells := 0, slots := 0, locals := 21 }) s m args below meth c H locs 0 0 (MQ below (rwQv dC dI A ((TWc h xa0 z) ++ (AWc xa0 kI nx fx))) args s 0 0 (A)) (F0 m 0 ls []) := by
    intro n
    induction n with
    | zero =>
      intro t H locs ls hP hD hS hl hJ
      rw [J_X6_readNumber_b0] at hJ; cases hJ
    | succ n ih =>
      intro t H locs ls hP hD hS hl hJ
      rw [J_X6_readNumber_b0] at hJ
      refine lv_aload_n hx hb dX6_readNumber_0 rfl (lv_at hl 0 rfl) ?_
      refine va_get (D := (dC, dI)) (ci := 6) (v := .int (t_end t)) (C := RX6) (T := TX6) (N := 5) hx hb hts (fun _ h => List.mem_cons_of_mem _ (List.mem_append_right _ h)) hown hK hP 0 rfl rfl 4 (by decide) (hts _ (List.mem_of_getElem? (i := 1) rfl)) (fun _ h9 => h9) rfl dX6_readNumber_1 ?_
      refine lv_aload_n hx hb dX6_readNumber_4 rfl (lv_at hl 0 rfl) ?_
      refine va_get (D := (dC, dI)) (ci := 6) (v := .int (t_textLength t)) (C := RX6) (T := TX6) (N := 5) hx hb hts (fun _ h => List.mem_cons_of_mem _ (List.mem_append_right _ h)) hown hK hP 0 rfl rfl 1 (by decide) (hts _ (List.mem_of_getElem? (i := 2) rfl)) (fun _ h9 => h9) rfl dX6_readNumber_5 ?_
      refine lv_icmp_ge (tgt := 41) hx hb dX6_readNumber_8 (by decide) (fun c8 => ?_) (fun c8 => ?_)
      · have hJ := ite_t c8 hJ
        exact L41 t H locs ls hP hD hS (lv_sub hl [0] rfl) hJ
      · have hJ := ite_f c8 hJ
        refine lv_aload_n hx hb dX6_readNumber_11 rfl (lv_at hl 0 rfl) ?_
        refine va_get (D := (dC, dI)) (ci := 6) (v := .ref xa0) (C := RX6) (T := TX6) (N := 5) hx hb hts (fun _ h => List.mem_cons_of_mem _ (List.mem_append_right _ h)) hown hK hP 0 rfl rfl 0 (by decide) (hts _ (List.mem_of_getElem? (i := 3) rfl)) (fun _ h9 => h9) rfl dX6_readNumber_12 ?_
        refine lv_aload_n hx hb dX6_readNumber_15 rfl (lv_at hl 0 rfl) ?_
        refine va_get (D := (dC, dI)) (ci := 6) (v := .int (t_end t)) (C := RX6) (T := TX6) (N := 5) hx hb hts (fun _ h => List.mem_cons_of_mem _ (List.mem_append_right _ h)) hown hK hP 0 rfl rfl 4 (by decide) (hts _ (List.mem_of_getElem? (i := 1) rfl)) (fun _ h9 => h9) rfl dX6_readNumber_16 ?_
        obtain ⟨z9, e10, hJ⟩ := bnd hJ
        refine roSNi (As := [.ref xa0, .int (t_end t)]) (rest := []) hx hb hml hown hts (c_X7_at l dC dI kI xa0 nx fx (t_end t) z9 e10) gX6_readNumber_X7_at_n28 qX7_at rfl ⟨Nat.le_of_ble_eq_true rfl, Nat.le_of_ble_eq_true rfl⟩ (hNW.use0 (i := 64) rfl) (hts _ (List.mem_of_getElem? (i := 7) rfl)) (hts _ (List.mem_of_getElem? (i := 6) rfl)) ⟨rfl, rfl⟩ hNW hK hP hS (hP.sub (ws' := AWc xa0 kI nx fx) [1] rfl) hK hl.1 rfl rfl (Nat.le_of_ble_eq_true rfl) dX6_readNumber_19 z0 (fun H locs hP hS => ?_)
        obtain ⟨z11, e12, hJ⟩ := bnd hJ
        refine roSi (As := [.int z9]) (rest := []) hx hb hml hown hts (c_X6_isDigit l dC dI z9 z11 e12) gX6_readNumber_X6_isDigit qX6_isDigit rfl ⟨Nat.le_of_ble_eq_true rfl, Nat.le_of_ble_eq_true rfl⟩ ⟨rfl, rfl⟩ hNW hK hP hS (hP.sub (ws' := []) [] rfl) (hK.sub (tys' := []) [] rfl) hl.1 rfl rfl (Nat.le_of_ble_eq_true rfl) dX6_readNumber_22 z0 (fun H locs hP hS => ?_)
        refine lv_if_eq (tgt := 41) hx hb dX6_readNumber_25 (by decide) (fun c13 => ?_) (fun c13 => ?_)
        · have hJ := ite_t c13 hJ
          exact L41 t H locs ls hP hD hS (lv_sub hl [0] rfl) hJ
        · have hJ := ite_f c13 hJ
          refine lv_aload_n hx hb dX6_readNumber_28 rfl (lv_at hl 0 rfl) ?_
          refine lv_dup hx hb dX6_readNumber_29 rfl ?_
          refine va_get (D := (dC, dI)) (ci := 6) (v := .int (t_end t)) (C := RX6) (T := TX6) (N := 5) hx hb hts (fun _ h => List.mem_cons_of_mem _ (List.mem_append_right _ h)) hown hK hP 0 rfl rfl 4 (by decide) (hts _ (List.mem_of_getElem? (i := 1) rfl)) (fun _ h9 => h9) rfl dX6_readNumber_30 ?_
          refine lv_iconst (v := 1) hx hb dX6_readNumber_33 (by decide) ?_
          refine lv_iadd hx hb dX6_readNumber_34 ?_
          refine va_put (D := (dC, dI)) (ci := 6) (v := .int ((t_end t) + (1 : Int32))) (ty := .int) (C := RX6) (T := TX6) (N := 5) hx hb hts (fun _ h => List.mem_cons_of_mem _ (List.mem_append_right _ h)) tyX6 tyX6_ok nmX6 hown hK hP hD hS 0 rfl rfl 4 (by decide) (hts _ (List.mem_of_getElem? (i := 1) rfl)) (fun _ h9 => h9) rfl (by decide +kernel) rfl rfl (Nat.le_of_ble_eq_true rfl) dX6_readNumber_35 (fun H locs hP hD hS => ?_)
          have hP : va_P (dC, dI) vwCl ((TWc h xa0 (mkT (t_textLength t) (t_kind t) (t_start t) ((t_end t) + (1 : Int32)))) ++ (AWc xa0 kI nx fx)) H := hP
          have hD : va_D A ((TWc h xa0 (mkT (t_textLength t) (t_kind t) (t_start t) ((t_end t) + (1 : Int32)))) ++ (AWc xa0 kI nx fx)) := hD
          refine lv_goto (tgt := 0) hx hb dX6_readNumber_38 (by decide) ?_
          exact ih (mkT (t_textLength t) (t_kind t) (t_start t) ((t_end t) + (1 : Int32))) H locs ls hP hD hS (lv_sub hl [0] rfl) hJ
  refine lv_aload_n hx hb dX6_readNumber_0 rfl (lv_at hl 0 rfl) ?_
  refine va_get (D := (dC, dI)) (ci := 6) (v := .int (t_end t)) (C := RX6) (T := TX6) (N := 5) hx hb hts (fun _ h => List.mem_cons_of_mem _ (List.mem_append_right _ h)) hown hK hP 0 rfl rfl 4 (by decide) (hts _ (List.mem_of_getElem? (i := 1) rfl)) (fun _ h9 => h9) rfl dX6_readNumber_1 ?_
  refine lv_aload_n hx hb dX6_readNumber_4 rfl (lv_at hl 0 rfl) ?_
  refine va_get (D := (dC, dI)) (ci := 6) (v := .int (t_textLength t)) (C := RX6) (T := TX6) (N := 5) hx hb hts (fun _ h => List.mem_cons_of_mem _ (List.mem_append_right _ h)) hown hK hP 0 rfl rfl 1 (by decide) (hts _ (List.mem_of_getElem? (i := 2) rfl)) (fun _ h9 => h9) rfl dX6_readNumber_5 ?_
  refine lv_icmp_ge (tgt := 41) hx hb dX6_readNumber_8 (by decide) (fun c1 => ?_) (fun c1 => ?_)
  · have hJ := ite_t c1 hJ
    exact L41 t H locs ls hP hD hS (lv_sub hl [0] rfl) hJ
  · have hJ := ite_f c1 hJ
    refine lv_aload_n hx hb dX6_readNumber_11 rfl (lv_at hl 0 rfl) ?_
    refine va_get (D := (dC, dI)) (ci := 6) (v := .ref xa0) (C := RX6) (T := TX6) (N := 5) hx hb hts (fun _ h => List.mem_cons_of_mem _ (List.mem_append_right _ h)) hown hK hP 0 rfl rfl 0 (by decide) (hts _ (List.mem_of_getElem? (i := 3) rfl)) (fun _ h9 => h9) rfl dX6_readNumber_12 ?_
    refine lv_aload_n hx hb dX6_readNumber_15 rfl (lv_at hl 0 rfl) ?_
    refine va_get (D := (dC, dI)) (ci := 6) (v := .int (t_end t)) (C := RX6) (T := TX6) (N := 5) hx hb hts (fun _ h => List.mem_cons_of_mem _ (List.mem_append_right _ h)) hown hK hP 0 rfl rfl 4 (by decide) (hts _ (List.mem_of_getElem? (i := 1) rfl)) (fun _ h9 => h9) rfl dX6_readNumber_16 ?_
    obtain ⟨z2, e3, hJ⟩ := bnd hJ
    refine roSNi (As := [.ref xa0, .int (t_end t)]) (rest := []) hx hb hml hown hts (c_X7_at l dC dI kI xa0 nx fx (t_end t) z2 e3) gX6_readNumber_X7_at_n28 qX7_at rfl ⟨Nat.le_of_ble_eq_true rfl, Nat.le_of_ble_eq_true rfl⟩ (hNW.use0 (i := 64) rfl) (hts _ (List.mem_of_getElem? (i := 7) rfl)) (hts _ (List.mem_of_getElem? (i := 6) rfl)) ⟨rfl, rfl⟩ hNW hK hP hS (hP.sub (ws' := AWc xa0 kI nx fx) [1] rfl) hK hl.1 rfl rfl (Nat.le_of_ble_eq_true rfl) dX6_readNumber_19 z0 (fun H locs hP hS => ?_)
    obtain ⟨z4, e5, hJ⟩ := bnd hJ
    refine roSi (As := [.int z2]) (rest := []) hx hb hml hown hts (c_X6_isDigit l dC dI z2 z4 e5) gX6_readNumber_X6_isDigit qX6_isDigit rfl ⟨Nat.le_of_ble_eq_true rfl, Nat.le_of_ble_eq_true rfl⟩ ⟨rfl, rfl⟩ hNW hK hP hS (hP.sub (ws' := []) [] rfl) (hK.sub (tys' := []) [] rfl) hl.1 rfl rfl (Nat.le_of_ble_eq_true rfl) dX6_readNumber_22 z0 (fun H locs hP hS => ?_)
    refine lv_if_eq (tgt := 41) hx hb dX6_readNumber_25 (by decide) (fun c6 => ?_) (fun c6 => ?_)
    · have hJ := ite_t c6 hJ
      exact L41 t H locs ls hP hD hS (lv_sub hl [0] rfl) hJ
    · have hJ := ite_f c6 hJ
      refine lv_aload_n hx hb dX6_readNumber_28 rfl (lv_at hl 0 rfl) ?_
      refine lv_dup hx hb dX6_readNumber_29 rfl ?_
      refine va_get (D := (dC, dI)) (ci := 6) (v := .int (t_end t)) (C := RX6) (T := TX6) (N := 5) hx hb hts (fun _ h => List.mem_cons_of_mem _ (List.mem_append_right _ h)) hown hK hP 0 rfl rfl 4 (by decide) (hts _ (List.mem_of_getElem? (i := 1) rfl)) (fun _ h9 => h9) rfl dX6_readNumber_30 ?_
      refine lv_iconst (v := 1) hx hb dX6_readNumber_33 (by decide) ?_
      refine lv_iadd hx hb dX6_readNumber_34 ?_
      refine va_put (D := (dC, dI)) (ci := 6) (v := .int ((t_end t) + (1 : Int32))) (ty := .int) (C := RX6) (T := TX6) (N := 5) hx hb hts (fun _ h => List.mem_cons_of_mem _ (List.mem_append_right _ h)) tyX6 tyX6_ok nmX6 hown hK hP hD hS 0 rfl rfl 4 (by decide) (hts _ (List.mem_of_getElem? (i := 1) rfl)) (fun _ h9 => h9) rfl (by decide +kernel) rfl rfl (Nat.le_of_ble_eq_true rfl) dX6_readNumber_35 (fun H locs hP hD hS => ?_)
      have hP : va_P (dC, dI) vwCl ((TWc h xa0 (mkT (t_textLength t) (t_kind t) (t_start t) ((t_end t) + (1 : Int32)))) ++ (AWc xa0 kI nx fx)) H := hP
      have hD : va_D A ((TWc h xa0 (mkT (t_textLength t) (t_kind t) (t_start t) ((t_end t) + (1 : Int32)))) ++ (AWc xa0 kI nx fx)) := hD
      refine lv_goto (tgt := 0) hx hb dX6_readNumber_38 (by decide) ?_
      exact L0 fu (mkT (t_textLength t) (t_kind t) (t_start t) ((t_end t) + (1 : Int32))) H locs ls hP hD hS (lv_sub hl [0] rfl) hJ
theorem qX6_step : (yX6_step.cls = RX6) ∧ yX6_step.cls ≠ "java/lang/invoke/MethodHandle" ∧ yX6_step.cls ≠ "java/lang/invoke/VarHandle" ∧ (parseMethodDescriptor yX6_step.desc).map (fun d => d.parameters.length) = some 0 := by decide +kernel
set_option maxHeartbeats 4000000 in
set_option maxRecDepth 100000 in
theorem c_X6_step (fu : Nat) (l : Launch) (dC : Nat → ClassId) (dI : Nat → Nat → Nat) (kI : ClassId) (h : Nat) (t : TS) (xa0 : Nat) (nx : Nat) (fx : Nat → Int32) (sz : Nat) (z : TS) (hJ : J_X6_step fu t nx fx = some z) : Met l yX6_step wsX6_step ({ frames := 2, cells := 0, slots := 0, locals := 41 }) (va_Pc [.ref h] (RWp dC dI sz ((TWc h xa0 t) ++ (AWc xa0 kI nx fx)) [(kI, .int)])) (rwQv dC dI (va_A ((TWc h xa0 t) ++ (AWc xa0 kI nx fx)) sz) ((TWc h xa0 z) ++ (AWc xa0 kI nx fx))) 0 0 (va_A ((TWc h xa0 t) ++ (AWc xa0 kI nx fx)) sz) := by
  refine rw_start (Qc := fun A => rwQv dC dI A ((TWc h xa0 z) ++ (AWc xa0 kI nx fx))) (cc := cX6_step) (maxL := 1) (ret := none) (by decide) rfl (Nat.le_of_ble_eq_true rfl) ?_
  intro p e s m args below meth c hx hb hr hml hown hts hlocks hNW hK A hA H locs ls hP hD hS hl
  have hown : s.vm.findClass RX6 = some m.cls := hown
  have hl : lv_has ls 1 [(0, .ref h)] := hl
  unfold J_X6_step at hJ
  have L146 : ∀ (t : TS) (k1 : Int32) (H : Heap) (locs : List Loc) (ls : Array Slot), va_P (dC, dI) vwCl ((TWc h xa0 t) ++ (AWc xa0 kI nx fx)) H → va_D A ((TWc h xa0 t) ++ (AWc xa0 kI nx fx)) → va_S A s.heap H locs → lv_has ls 1 [(0, .ref h)] → J_X6_step_b146 fu nx fx t k1 = some z → W p l e ({ frames := 2, cells := 0, slots := 0, locals := 41 }) s m args below meth c H locs 0 0 (MQ below (rwQv dC dI A ((TWc h xa0 z) ++ (AWc xa0 kI nx fx))) args s 0 0 (A)) (F0 m 146 ls [.int k1, .ref h]) := by
    intro t k1 H locs ls hP hD hS hl hJ
    unfold J_X6_step_b146 at hJ
    refine va_put (D := (dC, dI)) (ci := 6) (v := .int k1) (ty := .int) (C := RX6) (T := TX6) (N := 5) hx hb hts (fun _ h => List.mem_cons_of_mem _ (List.mem_append_right _ h)) tyX6 tyX6_ok nmX6 hown hK hP hD hS 0 rfl rfl 2 (by decide) (hts _ (List.mem_of_getElem? (i := 5) rfl)) (fun _ h9 => h9) rfl (by decide +kernel) rfl rfl (Nat.le_of_ble_eq_true rfl) dX6_step_146 (fun H locs hP hD hS => ?_)
    have hP : va_P (dC, dI) vwCl ((TWc h xa0 (mkT (t_textLength t) k1 (t_start t) (t_end t))) ++ (AWc xa0 kI nx fx)) H := hP
    have hD : va_D A ((TWc h xa0 (mkT (t_textLength t) k1 (t_start t) (t_end t))) ++ (AWc xa0 kI nx fx)) := hD
    refine lv_aload_n hx hb dX6_step_149 rfl (lv_at hl 0 rfl) ?_
    refine lv_aload_n hx hb dX6_step_150 rfl (lv_at hl 0 rfl) ?_
    refine va_get (D := (dC, dI)) (ci := 6) (v := .int (t_start t)) (C := RX6) (T := TX6) (N := 5) hx hb hts (fun _ h => List.mem_cons_of_mem _ (List.mem_append_right _ h)) hown hK hP 0 rfl rfl 3 (by decide) (hts _ (List.mem_of_getElem? (i := 2) rfl)) (fun _ h9 => h9) rfl dX6_step_151 ?_
    refine lv_iconst (v := 1) hx hb dX6_step_154 (by decide) ?_
    refine lv_iadd hx hb dX6_step_155 ?_
    refine va_put (D := (dC, dI)) (ci := 6) (v := .int ((t_start t) + (1 : Int32))) (ty := .int) (C := RX6) (T := TX6) (N := 5) hx hb hts (fun _ h => List.mem_cons_of_mem _ (List.mem_append_right _ h)) tyX6 tyX6_ok nmX6 hown hK hP hD hS 0 rfl rfl 4 (by decide) (hts _ (List.mem_of_getElem? (i := 1) rfl)) (fun _ h9 => h9) rfl (by decide +kernel) rfl rfl (Nat.le_of_ble_eq_true rfl) dX6_step_156 (fun H locs hP hD hS => ?_)
    have hP : va_P (dC, dI) vwCl ((TWc h xa0 (mkT (t_textLength t) k1 (t_start t) ((t_start t) + (1 : Int32)))) ++ (AWc xa0 kI nx fx)) H := hP
    have hD : va_D A ((TWc h xa0 (mkT (t_textLength t) k1 (t_start t) ((t_start t) + (1 : Int32)))) ++ (AWc xa0 kI nx fx)) := hD
    obtain rfl := Option.some.inj hJ
    exact rw_vret hx hb hr hlocks hP hD hS dX6_step_159
  have L49 : ∀ (t : TS) (H : Heap) (locs : List Loc) (ls : Array Slot), va_P (dC, dI) vwCl ((TWc h xa0 t) ++ (AWc xa0 kI nx fx)) H → va_D A ((TWc h xa0 t) ++ (AWc xa0 kI nx fx)) → va_S A s.heap H locs → lv_has ls 1 [(0, .ref h)] → J_X6_step_b49 fu nx fx t = some z → W p l e ({ frames := 2, cells := 0, slots := 0, locals := 41 }) s m args below meth c H locs 0 0 (MQ below (rwQv dC dI A ((TWc h xa0 z) ++ (AWc xa0 kI nx fx))) args s 0 0 (A)) (F0 m 49 ls []) := by
    intro t H locs ls hP hD hS hl hJ
    unfold J_X6_step_b49 at hJ
    refine lv_aload_n hx hb dX6_step_49 rfl (lv_at hl 0 rfl) ?_
    refine lv_aload_n hx hb dX6_step_50 rfl (lv_at hl 0 rfl) ?_
    refine va_get (D := (dC, dI)) (ci := 6) (v := .int (t_start t)) (C := RX6) (T := TX6) (N := 5) hx hb hts (fun _ h => List.mem_cons_of_mem _ (List.mem_append_right _ h)) hown hK hP 0 rfl rfl 3 (by decide) (hts _ (List.mem_of_getElem? (i := 2) rfl)) (fun _ h9 => h9) rfl dX6_step_51 ?_
    refine va_put (D := (dC, dI)) (ci := 6) (v := .int (t_start t)) (ty := .int) (C := RX6) (T := TX6) (N := 5) hx hb hts (fun _ h => List.mem_cons_of_mem _ (List.mem_append_right _ h)) tyX6 tyX6_ok nmX6 hown hK hP hD hS 0 rfl rfl 4 (by decide) (hts _ (List.mem_of_getElem? (i := 1) rfl)) (fun _ h9 => h9) rfl (by decide +kernel) rfl rfl (Nat.le_of_ble_eq_true rfl) dX6_step_54 (fun H locs hP hD hS => ?_)
    have hP : va_P (dC, dI) vwCl ((TWc h xa0 (mkT (t_textLength t) (t_kind t) (t_start t) (t_start t))) ++ (AWc xa0 kI nx fx)) H := hP
    have hD : va_D A ((TWc h xa0 (mkT (t_textLength t) (t_kind t) (t_start t) (t_start t))) ++ (AWc xa0 kI nx fx)) := hD
    refine lv_aload_n hx hb dX6_step_57 rfl (lv_at hl 0 rfl) ?_
    refine va_get (D := (dC, dI)) (ci := 6) (v := .int (t_start t)) (C := RX6) (T := TX6) (N := 5) hx hb hts (fun _ h => List.mem_cons_of_mem _ (List.mem_append_right _ h)) hown hK hP 0 rfl rfl 3 (by decide) (hts _ (List.mem_of_getElem? (i := 2) rfl)) (fun _ h9 => h9) rfl dX6_step_58 ?_
    refine lv_aload_n hx hb dX6_step_61 rfl (lv_at hl 0 rfl) ?_
    refine va_get (D := (dC, dI)) (ci := 6) (v := .int (t_textLength t)) (C := RX6) (T := TX6) (N := 5) hx hb hts (fun _ h => List.mem_cons_of_mem _ (List.mem_append_right _ h)) hown hK hP 0 rfl rfl 1 (by decide) (hts _ (List.mem_of_getElem? (i := 3) rfl)) (fun _ h9 => h9) rfl dX6_step_62 ?_
    refine lv_icmp_lt (tgt := 76) hx hb dX6_step_65 (by decide) (fun c7 => ?_) (fun c7 => ?_)
    · have hJ := ite_t c7 hJ
      refine lv_aload_n hx hb dX6_step_76 rfl (lv_at hl 0 rfl) ?_
      refine va_get (D := (dC, dI)) (ci := 6) (v := .ref xa0) (C := RX6) (T := TX6) (N := 5) hx hb hts (fun _ h => List.mem_cons_of_mem _ (List.mem_append_right _ h)) hown hK hP 0 rfl rfl 0 (by decide) (hts _ (List.mem_of_getElem? (i := 4) rfl)) (fun _ h9 => h9) rfl dX6_step_77 ?_
      refine lv_aload_n hx hb dX6_step_80 rfl (lv_at hl 0 rfl) ?_
      refine va_get (D := (dC, dI)) (ci := 6) (v := .int (t_start t)) (C := RX6) (T := TX6) (N := 5) hx hb hts (fun _ h => List.mem_cons_of_mem _ (List.mem_append_right _ h)) hown hK hP 0 rfl rfl 3 (by decide) (hts _ (List.mem_of_getElem? (i := 2) rfl)) (fun _ h9 => h9) rfl dX6_step_81 ?_
      obtain ⟨z8, e9, hJ⟩ := bnd hJ
      refine roSNi (As := [.ref xa0, .int (t_start t)]) (rest := []) hx hb hml hown hts (c_X7_at l dC dI kI xa0 nx fx (t_start t) z8 e9) gX6_step_X7_at_n28 qX7_at rfl ⟨Nat.le_of_ble_eq_true rfl, Nat.le_of_ble_eq_true rfl⟩ (hNW.use0 (i := 64) rfl) (hts _ (List.mem_of_getElem? (i := 7) rfl)) (hts _ (List.mem_of_getElem? (i := 6) rfl)) ⟨rfl, rfl⟩ hNW hK hP hS (hP.sub (ws' := AWc xa0 kI nx fx) [1] rfl) hK hl.1 rfl rfl (Nat.le_of_ble_eq_true rfl) dX6_step_84 z0 (fun H locs hP hS => ?_)
      obtain ⟨z10, e11, hJ⟩ := bnd hJ
      refine roSi (As := [.int z8]) (rest := []) hx hb hml hown hts (c_X6_isLetter l dC dI z8 z10 e11) gX6_step_X6_isLetter qX6_isLetter rfl ⟨Nat.le_of_ble_eq_true rfl, Nat.le_of_ble_eq_true rfl⟩ ⟨rfl, rfl⟩ hNW hK hP hS (hP.sub (ws' := []) [] rfl) (hK.sub (tys' := []) [] rfl) hl.1 rfl rfl (Nat.le_of_ble_eq_true rfl) dX6_step_87 z0 (fun H locs hP hS => ?_)
      refine lv_if_eq (tgt := 100) hx hb dX6_step_90 (by decide) (fun c12 => ?_) (fun c12 => ?_)
      · have hJ := ite_t c12 hJ
        refine lv_aload_n hx hb dX6_step_100 rfl (lv_at hl 0 rfl) ?_
        refine va_get (D := (dC, dI)) (ci := 6) (v := .ref xa0) (C := RX6) (T := TX6) (N := 5) hx hb hts (fun _ h => List.mem_cons_of_mem _ (List.mem_append_right _ h)) hown hK hP 0 rfl rfl 0 (by decide) (hts _ (List.mem_of_getElem? (i := 4) rfl)) (fun _ h9 => h9) rfl dX6_step_101 ?_
        refine lv_aload_n hx hb dX6_step_104 rfl (lv_at hl 0 rfl) ?_
        refine va_get (D := (dC, dI)) (ci := 6) (v := .int (t_start t)) (C := RX6) (T := TX6) (N := 5) hx hb hts (fun _ h => List.mem_cons_of_mem _ (List.mem_append_right _ h)) hown hK hP 0 rfl rfl 3 (by decide) (hts _ (List.mem_of_getElem? (i := 2) rfl)) (fun _ h9 => h9) rfl dX6_step_105 ?_
        obtain ⟨z13, e14, hJ⟩ := bnd hJ
        refine roSNi (As := [.ref xa0, .int (t_start t)]) (rest := []) hx hb hml hown hts (c_X7_at l dC dI kI xa0 nx fx (t_start t) z13 e14) gX6_step_X7_at_n28 qX7_at rfl ⟨Nat.le_of_ble_eq_true rfl, Nat.le_of_ble_eq_true rfl⟩ (hNW.use0 (i := 64) rfl) (hts _ (List.mem_of_getElem? (i := 7) rfl)) (hts _ (List.mem_of_getElem? (i := 6) rfl)) ⟨rfl, rfl⟩ hNW hK hP hS (hP.sub (ws' := AWc xa0 kI nx fx) [1] rfl) hK hl.1 rfl rfl (Nat.le_of_ble_eq_true rfl) dX6_step_108 z0 (fun H locs hP hS => ?_)
        obtain ⟨z15, e16, hJ⟩ := bnd hJ
        refine roSi (As := [.int z13]) (rest := []) hx hb hml hown hts (c_X6_isDigit l dC dI z13 z15 e16) gX6_step_X6_isDigit qX6_isDigit rfl ⟨Nat.le_of_ble_eq_true rfl, Nat.le_of_ble_eq_true rfl⟩ ⟨rfl, rfl⟩ hNW hK hP hS (hP.sub (ws' := []) [] rfl) (hK.sub (tys' := []) [] rfl) hl.1 rfl rfl (Nat.le_of_ble_eq_true rfl) dX6_step_111 z0 (fun H locs hP hS => ?_)
        refine lv_if_eq (tgt := 124) hx hb dX6_step_114 (by decide) (fun c17 => ?_) (fun c17 => ?_)
        · have hJ := ite_t c17 hJ
          refine lv_aload_n hx hb dX6_step_124 rfl (lv_at hl 0 rfl) ?_
          refine lv_aload_n hx hb dX6_step_125 rfl (lv_at hl 0 rfl) ?_
          refine va_get (D := (dC, dI)) (ci := 6) (v := .ref xa0) (C := RX6) (T := TX6) (N := 5) hx hb hts (fun _ h => List.mem_cons_of_mem _ (List.mem_append_right _ h)) hown hK hP 0 rfl rfl 0 (by decide) (hts _ (List.mem_of_getElem? (i := 4) rfl)) (fun _ h9 => h9) rfl dX6_step_126 ?_
          refine lv_aload_n hx hb dX6_step_129 rfl (lv_at hl 0 rfl) ?_
          refine va_get (D := (dC, dI)) (ci := 6) (v := .int (t_start t)) (C := RX6) (T := TX6) (N := 5) hx hb hts (fun _ h => List.mem_cons_of_mem _ (List.mem_append_right _ h)) hown hK hP 0 rfl rfl 3 (by decide) (hts _ (List.mem_of_getElem? (i := 2) rfl)) (fun _ h9 => h9) rfl dX6_step_130 ?_
          obtain ⟨z18, e19, hJ⟩ := bnd hJ
          refine roSNi (As := [.ref xa0, .int (t_start t)]) (rest := [.ref h]) hx hb hml hown hts (c_X7_at l dC dI kI xa0 nx fx (t_start t) z18 e19) gX6_step_X7_at_n28 qX7_at rfl ⟨Nat.le_of_ble_eq_true rfl, Nat.le_of_ble_eq_true rfl⟩ (hNW.use0 (i := 64) rfl) (hts _ (List.mem_of_getElem? (i := 7) rfl)) (hts _ (List.mem_of_getElem? (i := 6) rfl)) ⟨rfl, rfl⟩ hNW hK hP hS (hP.sub (ws' := AWc xa0 kI nx fx) [1] rfl) hK hl.1 rfl rfl (Nat.le_of_ble_eq_true rfl) dX6_step_133 z0 (fun H locs hP hS => ?_)
          refine lv_bipush (v := 59) hx hb dX6_step_136 (by decide) ?_
          refine lv_icmp_ne (tgt := 145) hx hb dX6_step_138 (by decide) (fun c20 => ?_) (fun c20 => ?_)
          · have hJ := ite_f c20 hJ
            refine lv_iconst (v := 4) hx hb dX6_step_145 (by decide) ?_
            exact L146 (mkT (t_textLength t) (t_kind t) (t_start t) (t_start t)) (4 : Int32) H locs ls hP hD hS (lv_sub hl [0] rfl) hJ
          · have hJ := ite_t c20 hJ
            refine lv_iconst (v := 3) hx hb dX6_step_141 (by decide) ?_
            refine lv_goto (tgt := 146) hx hb dX6_step_142 (by decide) ?_
            exact L146 (mkT (t_textLength t) (t_kind t) (t_start t) (t_start t)) (3 : Int32) H locs ls hP hD hS (lv_sub hl [0] rfl) hJ
        · have hJ := ite_f c17 hJ
          refine lv_aload_n hx hb dX6_step_117 rfl (lv_at hl 0 rfl) ?_
          obtain ⟨z21, e22, hJ⟩ := bnd hJ
          refine rwVvW (As := []) (rest := []) (ci := 6) (q0 := 0) hx hb hml hown hts (c_X6_readNumber fu l dC dI kI h (mkT (t_textLength t) (t_kind t) (t_start t) (t_start t)) xa0 nx fx H.size z21 e22) gX6_step_X6_readNumber qX6_readNumber rfl ⟨Nat.le_of_ble_eq_true rfl, Nat.le_of_ble_eq_true rfl⟩ ⟨rfl, rfl⟩ hNW hK hP hD hS hA hK rfl rfl rfl hl.1 rfl rfl (Nat.le_of_ble_eq_true rfl) dX6_step_118 z0 (fun H locs hP hD hS => ?_)
          refine lv_goto (tgt := 159) hx hb dX6_step_121 (by decide) ?_
          obtain rfl := Option.some.inj hJ
          exact rw_vret hx hb hr hlocks hP hD hS dX6_step_159
      · have hJ := ite_f c12 hJ
        refine lv_aload_n hx hb dX6_step_93 rfl (lv_at hl 0 rfl) ?_
        obtain ⟨z23, e24, hJ⟩ := bnd hJ
        refine rwVvW (As := []) (rest := []) (ci := 6) (q0 := 0) hx hb hml hown hts (c_X6_readWord fu l dC dI kI h (mkT (t_textLength t) (t_kind t) (t_start t) (t_start t)) xa0 nx fx H.size z23 e24) gX6_step_X6_readWord qX6_readWord rfl ⟨Nat.le_of_ble_eq_true rfl, Nat.le_of_ble_eq_true rfl⟩ ⟨rfl, rfl⟩ hNW hK hP hD hS hA hK rfl rfl rfl hl.1 rfl rfl (Nat.le_of_ble_eq_true rfl) dX6_step_94 z0 (fun H locs hP hD hS => ?_)
        refine lv_goto (tgt := 159) hx hb dX6_step_97 (by decide) ?_
        obtain rfl := Option.some.inj hJ
        exact rw_vret hx hb hr hlocks hP hD hS dX6_step_159
    · have hJ := ite_f c7 hJ
      refine lv_aload_n hx hb dX6_step_68 rfl (lv_at hl 0 rfl) ?_
      refine lv_iconst (v := 0) hx hb dX6_step_69 (by decide) ?_
      refine va_put (D := (dC, dI)) (ci := 6) (v := .int (0 : Int32)) (ty := .int) (C := RX6) (T := TX6) (N := 5) hx hb hts (fun _ h => List.mem_cons_of_mem _ (List.mem_append_right _ h)) tyX6 tyX6_ok nmX6 hown hK hP hD hS 0 rfl rfl 2 (by decide) (hts _ (List.mem_of_getElem? (i := 5) rfl)) (fun _ h9 => h9) rfl (by decide +kernel) rfl rfl (Nat.le_of_ble_eq_true rfl) dX6_step_70 (fun H locs hP hD hS => ?_)
      have hP : va_P (dC, dI) vwCl ((TWc h xa0 (mkT (t_textLength t) (0 : Int32) (t_start t) (t_start t))) ++ (AWc xa0 kI nx fx)) H := hP
      have hD : va_D A ((TWc h xa0 (mkT (t_textLength t) (0 : Int32) (t_start t) (t_start t))) ++ (AWc xa0 kI nx fx)) := hD
      refine lv_goto (tgt := 159) hx hb dX6_step_73 (by decide) ?_
      obtain rfl := Option.some.inj hJ
      exact rw_vret hx hb hr hlocks hP hD hS dX6_step_159
  have L8 : ∀ (n : Nat) (t : TS) (H : Heap) (locs : List Loc) (ls : Array Slot), va_P (dC, dI) vwCl ((TWc h xa0 t) ++ (AWc xa0 kI nx fx)) H → va_D A ((TWc h xa0 t) ++ (AWc xa0 kI nx fx)) → va_S A s.heap H locs → lv_has ls 1 [(0, .ref h)] → J_X6_step_b8 fu nx fx n t = some z → W p l e ({ frames := 2, cells := 0, slots := 0, locals := 41 }) s m args below meth c H locs 0 0 (MQ below (rwQv dC dI A ((TWc h xa0 z) ++ (AWc xa0 kI nx fx))) args s 0 0 (A)) (F0 m 8 ls []) := by
    intro n
    induction n with
    | zero =>
      intro t H locs ls hP hD hS hl hJ
      rw [J_X6_step_b8] at hJ; cases hJ
    | succ n ih =>
      intro t H locs ls hP hD hS hl hJ
      rw [J_X6_step_b8] at hJ
      refine lv_aload_n hx hb dX6_step_8 rfl (lv_at hl 0 rfl) ?_
      refine va_get (D := (dC, dI)) (ci := 6) (v := .int (t_start t)) (C := RX6) (T := TX6) (N := 5) hx hb hts (fun _ h => List.mem_cons_of_mem _ (List.mem_append_right _ h)) hown hK hP 0 rfl rfl 3 (by decide) (hts _ (List.mem_of_getElem? (i := 2) rfl)) (fun _ h9 => h9) rfl dX6_step_9 ?_
      refine lv_aload_n hx hb dX6_step_12 rfl (lv_at hl 0 rfl) ?_
      refine va_get (D := (dC, dI)) (ci := 6) (v := .int (t_textLength t)) (C := RX6) (T := TX6) (N := 5) hx hb hts (fun _ h => List.mem_cons_of_mem _ (List.mem_append_right _ h)) hown hK hP 0 rfl rfl 1 (by decide) (hts _ (List.mem_of_getElem? (i := 3) rfl)) (fun _ h9 => h9) rfl dX6_step_13 ?_
      refine lv_icmp_ge (tgt := 49) hx hb dX6_step_16 (by decide) (fun c1 => ?_) (fun c1 => ?_)
      · have hJ := ite_t c1 hJ
        exact L49 t H locs ls hP hD hS (lv_sub hl [0] rfl) hJ
      · have hJ := ite_f c1 hJ
        refine lv_aload_n hx hb dX6_step_19 rfl (lv_at hl 0 rfl) ?_
        refine va_get (D := (dC, dI)) (ci := 6) (v := .ref xa0) (C := RX6) (T := TX6) (N := 5) hx hb hts (fun _ h => List.mem_cons_of_mem _ (List.mem_append_right _ h)) hown hK hP 0 rfl rfl 0 (by decide) (hts _ (List.mem_of_getElem? (i := 4) rfl)) (fun _ h9 => h9) rfl dX6_step_20 ?_
        refine lv_aload_n hx hb dX6_step_23 rfl (lv_at hl 0 rfl) ?_
        refine va_get (D := (dC, dI)) (ci := 6) (v := .int (t_start t)) (C := RX6) (T := TX6) (N := 5) hx hb hts (fun _ h => List.mem_cons_of_mem _ (List.mem_append_right _ h)) hown hK hP 0 rfl rfl 3 (by decide) (hts _ (List.mem_of_getElem? (i := 2) rfl)) (fun _ h9 => h9) rfl dX6_step_24 ?_
        obtain ⟨z2, e3, hJ⟩ := bnd hJ
        refine roSNi (As := [.ref xa0, .int (t_start t)]) (rest := []) hx hb hml hown hts (c_X7_at l dC dI kI xa0 nx fx (t_start t) z2 e3) gX6_step_X7_at_n28 qX7_at rfl ⟨Nat.le_of_ble_eq_true rfl, Nat.le_of_ble_eq_true rfl⟩ (hNW.use0 (i := 64) rfl) (hts _ (List.mem_of_getElem? (i := 7) rfl)) (hts _ (List.mem_of_getElem? (i := 6) rfl)) ⟨rfl, rfl⟩ hNW hK hP hS (hP.sub (ws' := AWc xa0 kI nx fx) [1] rfl) hK hl.1 rfl rfl (Nat.le_of_ble_eq_true rfl) dX6_step_27 z0 (fun H locs hP hS => ?_)
        obtain ⟨z4, e5, hJ⟩ := bnd hJ
        refine roSi (As := [.int z2]) (rest := []) hx hb hml hown hts (c_X6_isBlank l dC dI z2 z4 e5) gX6_step_X6_isBlank qX6_isBlank rfl ⟨Nat.le_of_ble_eq_true rfl, Nat.le_of_ble_eq_true rfl⟩ ⟨rfl, rfl⟩ hNW hK hP hS (hP.sub (ws' := []) [] rfl) (hK.sub (tys' := []) [] rfl) hl.1 rfl rfl (Nat.le_of_ble_eq_true rfl) dX6_step_30 z0 (fun H locs hP hS => ?_)
        refine lv_if_eq (tgt := 49) hx hb dX6_step_33 (by decide) (fun c6 => ?_) (fun c6 => ?_)
        · have hJ := ite_t c6 hJ
          exact L49 t H locs ls hP hD hS (lv_sub hl [0] rfl) hJ
        · have hJ := ite_f c6 hJ
          refine lv_aload_n hx hb dX6_step_36 rfl (lv_at hl 0 rfl) ?_
          refine lv_dup hx hb dX6_step_37 rfl ?_
          refine va_get (D := (dC, dI)) (ci := 6) (v := .int (t_start t)) (C := RX6) (T := TX6) (N := 5) hx hb hts (fun _ h => List.mem_cons_of_mem _ (List.mem_append_right _ h)) hown hK hP 0 rfl rfl 3 (by decide) (hts _ (List.mem_of_getElem? (i := 2) rfl)) (fun _ h9 => h9) rfl dX6_step_38 ?_
          refine lv_iconst (v := 1) hx hb dX6_step_41 (by decide) ?_
          refine lv_iadd hx hb dX6_step_42 ?_
          refine va_put (D := (dC, dI)) (ci := 6) (v := .int ((t_start t) + (1 : Int32))) (ty := .int) (C := RX6) (T := TX6) (N := 5) hx hb hts (fun _ h => List.mem_cons_of_mem _ (List.mem_append_right _ h)) tyX6 tyX6_ok nmX6 hown hK hP hD hS 0 rfl rfl 3 (by decide) (hts _ (List.mem_of_getElem? (i := 2) rfl)) (fun _ h9 => h9) rfl (by decide +kernel) rfl rfl (Nat.le_of_ble_eq_true rfl) dX6_step_43 (fun H locs hP hD hS => ?_)
          have hP : va_P (dC, dI) vwCl ((TWc h xa0 (mkT (t_textLength t) (t_kind t) ((t_start t) + (1 : Int32)) (t_end t))) ++ (AWc xa0 kI nx fx)) H := hP
          have hD : va_D A ((TWc h xa0 (mkT (t_textLength t) (t_kind t) ((t_start t) + (1 : Int32)) (t_end t))) ++ (AWc xa0 kI nx fx)) := hD
          refine lv_goto (tgt := 8) hx hb dX6_step_46 (by decide) ?_
          exact ih (mkT (t_textLength t) (t_kind t) ((t_start t) + (1 : Int32)) (t_end t)) H locs ls hP hD hS (lv_sub hl [0] rfl) hJ
  refine lv_aload_n hx hb dX6_step_0 rfl (lv_at hl 0 rfl) ?_
  refine lv_aload_n hx hb dX6_step_1 rfl (lv_at hl 0 rfl) ?_
  refine va_get (D := (dC, dI)) (ci := 6) (v := .int (t_end t)) (C := RX6) (T := TX6) (N := 5) hx hb hts (fun _ h => List.mem_cons_of_mem _ (List.mem_append_right _ h)) hown hK hP 0 rfl rfl 4 (by decide) (hts _ (List.mem_of_getElem? (i := 1) rfl)) (fun _ h9 => h9) rfl dX6_step_2 ?_
  refine va_put (D := (dC, dI)) (ci := 6) (v := .int (t_end t)) (ty := .int) (C := RX6) (T := TX6) (N := 5) hx hb hts (fun _ h => List.mem_cons_of_mem _ (List.mem_append_right _ h)) tyX6 tyX6_ok nmX6 hown hK hP hD hS 0 rfl rfl 3 (by decide) (hts _ (List.mem_of_getElem? (i := 2) rfl)) (fun _ h9 => h9) rfl (by decide +kernel) rfl rfl (Nat.le_of_ble_eq_true rfl) dX6_step_5 (fun H locs hP hD hS => ?_)
  have hP : va_P (dC, dI) vwCl ((TWc h xa0 (mkT (t_textLength t) (t_kind t) (t_end t) (t_end t))) ++ (AWc xa0 kI nx fx)) H := hP
  have hD : va_D A ((TWc h xa0 (mkT (t_textLength t) (t_kind t) (t_end t) (t_end t))) ++ (AWc xa0 kI nx fx)) := hD
  exact L8 fu (mkT (t_textLength t) (t_kind t) (t_end t) (t_end t)) H locs ls hP hD hS (lv_sub hl [0] rfl) hJ
theorem qX6_number : (yX6_number.cls = RX6) ∧ yX6_number.cls ≠ "java/lang/invoke/MethodHandle" ∧ yX6_number.cls ≠ "java/lang/invoke/VarHandle" ∧ (parseMethodDescriptor yX6_number.desc).map (fun d => d.parameters.length) = some 0 := by decide +kernel
set_option maxHeartbeats 4000000 in
set_option maxRecDepth 100000 in
theorem c_X6_number (fu : Nat) (l : Launch) (dC : Nat → ClassId) (dI : Nat → Nat → Nat) (kI : ClassId) (h : Nat) (t : TS) (xa0 : Nat) (nx : Nat) (fx : Nat → Int32) (z : Int32) (hJ : J_X6_number fu t nx fx = some z) : Met l yX6_number wsX6_number ({ frames := 1, cells := 0, slots := 0, locals := 21 }) (va_Pc [.ref h] (ROp dC dI ((TWc h xa0 t) ++ (AWc xa0 kI nx fx)) [(kI, .int)])) (roQi z) 0 0 (fun _ => False) := by
  refine ro_start (cc := cX6_number) (maxL := 3) (ret := (some .int)) (by decide) rfl (Nat.le_of_ble_eq_true rfl) ?_
  intro p e s m args below meth c hx hb hr hml hown hts hlocks hNW hK H locs ls hP hS hl
  have hown : s.vm.findClass RX6 = some m.cls := hown
  have hl : lv_has ls 3 [(0, .ref h)] := hl
  unfold J_X6_number at hJ
  have L7 : ∀ (n : Nat) (y1 : Int32) (y2 : Int32) (H : Heap) (locs : List Loc) (ls : Array Slot), va_P (dC, dI) vwCl ((TWc h xa0 t) ++ (AWc xa0 kI nx fx)) H → va_S (fun _ => False) s.heap H locs → lv_has ls 3 [(0, .ref h), (1, .int y1), (2, .int y2)] → J_X6_number_b7 fu t nx fx n y1 y2 = some z → W p l e ({ frames := 1, cells := 0, slots := 0, locals := 21 }) s m args below meth c H locs 0 0 (MQ below (roQi z) args s 0 0 (fun _ => False)) (F0 m 7 ls []) := by
    intro n
    induction n with
    | zero =>
      intro y1 y2 H locs ls hP hS hl hJ
      rw [J_X6_number_b7] at hJ; cases hJ
    | succ n ih =>
      intro y1 y2 H locs ls hP hS hl hJ
      rw [J_X6_number_b7] at hJ
      refine lv_iload_n hx hb dX6_number_7 rfl (lv_at hl 2 rfl) ?_
      refine lv_aload_n hx hb dX6_number_8 rfl (lv_at hl 0 rfl) ?_
      refine va_get (D := (dC, dI)) (ci := 6) (v := .int (t_end t)) (C := RX6) (T := TX6) (N := 5) hx hb hts (fun _ h => List.mem_cons_of_mem _ (List.mem_append_right _ h)) hown hK hP 0 rfl rfl 4 (by decide) (hts _ (List.mem_of_getElem? (i := 2) rfl)) (fun _ h9 => h9) rfl dX6_number_9 ?_
      refine lv_icmp_ge (tgt := 38) hx hb dX6_number_12 (by decide) (fun c1 => ?_) (fun c1 => ?_)
      · have hJ := ite_t c1 hJ
        refine lv_iload_n hx hb dX6_number_38 rfl (lv_at hl 1 rfl) ?_
        exact ro_iret hx hb hr hlocks hS hJ dX6_number_39
      · have hJ := ite_f c1 hJ
        refine lv_bipush (v := 10) hx hb dX6_number_15 (by decide) ?_
        refine lv_iload_n hx hb dX6_number_17 rfl (lv_at hl 1 rfl) ?_
        refine lv_imul hx hb dX6_number_18 ?_
        refine lv_aload_n hx hb dX6_number_19 rfl (lv_at hl 0 rfl) ?_
        refine va_get (D := (dC, dI)) (ci := 6) (v := .ref xa0) (C := RX6) (T := TX6) (N := 5) hx hb hts (fun _ h => List.mem_cons_of_mem _ (List.mem_append_right _ h)) hown hK hP 0 rfl rfl 0 (by decide) (hts _ (List.mem_of_getElem? (i := 3) rfl)) (fun _ h9 => h9) rfl dX6_number_20 ?_
        refine lv_iload_n hx hb dX6_number_23 rfl (lv_at hl 2 rfl) ?_
        obtain ⟨z2, e3, hJ⟩ := bnd hJ
        refine roSNi (As := [.ref xa0, .int y2]) (rest := [.int ((10 : Int32) * y1)]) hx hb hml hown hts (c_X7_at l dC dI kI xa0 nx fx y2 z2 e3) gX6_number_X7_at_n28 qX7_at rfl ⟨Nat.le_of_ble_eq_true rfl, Nat.le_of_ble_eq_true rfl⟩ (hNW.use0 (i := 64) rfl) (hts _ (List.mem_of_getElem? (i := 5) rfl)) (hts _ (List.mem_of_getElem? (i := 4) rfl)) ⟨rfl, rfl⟩ hNW hK hP hS (hP.sub (ws' := AWc xa0 kI nx fx) [1] rfl) hK hl.1 rfl rfl (Nat.le_of_ble_eq_true rfl) dX6_number_24 z0 (fun H locs hP hS => ?_)
        refine lv_bipush (v := 48) hx hb dX6_number_27 (by decide) ?_
        refine lv_isub hx hb dX6_number_29 ?_
        refine lv_iadd hx hb dX6_number_30 ?_
        refine lv_istore_n (lv' := [(1, .int (((10 : Int32) * y1) + (z2 - (48 : Int32)))), (0, .ref h), (2, .int y2)]) hx hb dX6_number_31 rfl hl (by decide) rfl (fun ls hl => ?_)
        refine lv_iinc (v := y2 + 1) (lv' := [(2, .int (y2 + 1)), (1, .int (((10 : Int32) * y1) + (z2 - (48 : Int32)))), (0, .ref h)]) hx hb dX6_number_32 hl (k := 2) rfl rfl (by decide) rfl (fun ls hl => ?_)
        refine lv_goto (tgt := 7) hx hb dX6_number_35 (by decide) ?_
        exact ih (((10 : Int32) * y1) + (z2 - (48 : Int32))) (y2 + 1) H locs ls hP hS (lv_sub hl [2, 1, 0] rfl) hJ
  refine lv_iconst (v := 0) hx hb dX6_number_0 (by decide) ?_
  refine lv_istore_n (lv' := [(1, .int (0 : Int32)), (0, .ref h)]) hx hb dX6_number_1 rfl hl (by decide) rfl (fun ls hl => ?_)
  refine lv_aload_n hx hb dX6_number_2 rfl (lv_at hl 1 rfl) ?_
  refine va_get (D := (dC, dI)) (ci := 6) (v := .int (t_start t)) (C := RX6) (T := TX6) (N := 5) hx hb hts (fun _ h => List.mem_cons_of_mem _ (List.mem_append_right _ h)) hown hK hP 0 rfl rfl 3 (by decide) (hts _ (List.mem_of_getElem? (i := 1) rfl)) (fun _ h9 => h9) rfl dX6_number_3 ?_
  refine lv_istore_n (lv' := [(2, .int (t_start t)), (1, .int (0 : Int32)), (0, .ref h)]) hx hb dX6_number_6 rfl hl (by decide) rfl (fun ls hl => ?_)
  exact L7 fu (0 : Int32) (t_start t) H locs ls hP hS (lv_sub hl [2, 1, 0] rfl) hJ
theorem qX6_isNumber : (yX6_isNumber.cls = RX6) ∧ yX6_isNumber.cls ≠ "java/lang/invoke/MethodHandle" ∧ yX6_isNumber.cls ≠ "java/lang/invoke/VarHandle" ∧ (parseMethodDescriptor yX6_isNumber.desc).map (fun d => d.parameters.length) = some 2 := by decide +kernel
set_option maxHeartbeats 4000000 in
set_option maxRecDepth 100000 in
theorem c_X6_isNumber (fu : Nat) (l : Launch) (dC : Nat → ClassId) (dI : Nat → Nat → Nat) (kI : ClassId) (h : Nat) (t : TS) (p0 : Int32) (p1 : Int32) (xa0 : Nat) (nx : Nat) (fx : Nat → Int32) (z : Int32) (hJ : J_X6_isNumber fu t p0 p1 nx fx = some z) : Met l yX6_isNumber wsX6_isNumber ({ frames := 2, cells := 0, slots := 0, locals := 43 }) (va_Pc [.ref h, .int p0, .int p1] (ROp dC dI ((TWc h xa0 t) ++ (AWc xa0 kI nx fx)) [(kI, .int)])) (roQi z) 0 0 (fun _ => False) := by
  refine ro_start (cc := cX6_isNumber) (maxL := 3) (ret := (some .boolean)) (by decide) rfl (Nat.le_of_ble_eq_true rfl) ?_
  intro p e s m args below meth c hx hb hr hml hown hts hlocks hNW hK H locs ls hP hS hl
  have hown : s.vm.findClass RX6 = some m.cls := hown
  have hl : lv_has ls 3 [(0, .ref h), (1, .int p0), (2, .int p1)] := hl
  unfold J_X6_isNumber at hJ
  refine lv_aload_n hx hb dX6_isNumber_0 rfl (lv_at hl 0 rfl) ?_
  refine va_get (D := (dC, dI)) (ci := 6) (v := .int (t_kind t)) (C := RX6) (T := TX6) (N := 5) hx hb hts (fun _ h => List.mem_cons_of_mem _ (List.mem_append_right _ h)) hown hK hP 0 rfl rfl 2 (by decide) (hts _ (List.mem_of_getElem? (i := 1) rfl)) (fun _ h9 => h9) rfl dX6_isNumber_1 ?_
  refine lv_iconst (v := 2) hx hb dX6_isNumber_4 (by decide) ?_
  refine lv_icmp_ne (tgt := 28) hx hb dX6_isNumber_5 (by decide) (fun c1 => ?_) (fun c1 => ?_)
  · have hJ := ite_f c1 hJ
    refine lv_iconst (v := 0) hx hb dX6_isNumber_28 (by decide) ?_
    exact ro_zret hx hb hr hlocks rfl hS hJ dX6_isNumber_29
  · have hJ := ite_t c1 hJ
    refine lv_aload_n hx hb dX6_isNumber_8 rfl (lv_at hl 0 rfl) ?_
    obtain ⟨z2, e3, hJ⟩ := bnd hJ
    refine roVi (As := []) (rest := []) (ci := 6) (q0 := 0) hx hb hml hown hts (c_X6_number fu l dC dI kI h t xa0 nx fx z2 e3) gX6_isNumber_X6_number qX6_number rfl ⟨Nat.le_of_ble_eq_true rfl, Nat.le_of_ble_eq_true rfl⟩ ⟨rfl, rfl⟩ hNW hK hP hS hP hK rfl rfl rfl hl.1 rfl rfl (Nat.le_of_ble_eq_true rfl) dX6_isNumber_9 z0 (fun H locs hP hS => ?_)
    refine lv_iload_n hx hb dX6_isNumber_12 rfl (lv_at hl 1 rfl) ?_
    refine lv_icmp_lt (tgt := 28) hx hb dX6_isNumber_13 (by decide) (fun c4 => ?_) (fun c4 => ?_)
    · have hJ := ite_t c4 hJ
      refine lv_iconst (v := 0) hx hb dX6_isNumber_28 (by decide) ?_
      exact ro_zret hx hb hr hlocks rfl hS hJ dX6_isNumber_29
    · have hJ := ite_f c4 hJ
      refine lv_aload_n hx hb dX6_isNumber_16 rfl (lv_at hl 0 rfl) ?_
      obtain ⟨z5, e6, hJ⟩ := bnd hJ
      refine roVi (As := []) (rest := []) (ci := 6) (q0 := 0) hx hb hml hown hts (c_X6_number fu l dC dI kI h t xa0 nx fx z5 e6) gX6_isNumber_X6_number qX6_number rfl ⟨Nat.le_of_ble_eq_true rfl, Nat.le_of_ble_eq_true rfl⟩ ⟨rfl, rfl⟩ hNW hK hP hS hP hK rfl rfl rfl hl.1 rfl rfl (Nat.le_of_ble_eq_true rfl) dX6_isNumber_17 z0 (fun H locs hP hS => ?_)
      refine lv_iload_n hx hb dX6_isNumber_20 rfl (lv_at hl 2 rfl) ?_
      refine lv_icmp_gt (tgt := 28) hx hb dX6_isNumber_21 (by decide) (fun c7 => ?_) (fun c7 => ?_)
      · have hJ := ite_t c7 hJ
        refine lv_iconst (v := 0) hx hb dX6_isNumber_28 (by decide) ?_
        exact ro_zret hx hb hr hlocks rfl hS hJ dX6_isNumber_29
      · have hJ := ite_f c7 hJ
        refine lv_iconst (v := 1) hx hb dX6_isNumber_24 (by decide) ?_
        refine lv_goto (tgt := 29) hx hb dX6_isNumber_25 (by decide) ?_
        exact ro_zret hx hb hr hlocks rfl hS hJ dX6_isNumber_29
theorem qX4_readLetters : (yX4_readLetters.cls = RX4) ∧ yX4_readLetters.cls ≠ "java/lang/invoke/MethodHandle" ∧ yX4_readLetters.cls ≠ "java/lang/invoke/VarHandle" ∧ (parseMethodDescriptor yX4_readLetters.desc).map (fun d => d.parameters.length) = some 1 := by decide +kernel
set_option maxHeartbeats 4000000 in
set_option maxRecDepth 100000 in
theorem c_X4_readLetters (fu : Nat) (l : Launch) (dC : Nat → ClassId) (dI : Nat → Nat → Nat) (kI : ClassId) (a : Nat → Nat) (r : RS) (h0 : Nat) (t0 : TS) (xa0 : Nat) (nx : Nat) (fx : Nat → Int32) (sz : Nat) (z : Int32 × RS) (hJ : J_X4_readLetters fu r t0 nx fx = some z) : Met l yX4_readLetters wsX4_readLetters ({ frames := 1, cells := 0, slots := 0, locals := 22 }) (va_Pc [.ref (a 0), .ref h0] (RWp dC dI sz ((RWc a kI r) ++ (TWc h0 xa0 t0) ++ (AWc xa0 kI nx fx)) [(kI, .int)])) (rwQi dC dI (va_A ((RWc a kI r) ++ (TWc h0 xa0 t0) ++ (AWc xa0 kI nx fx)) sz) ((RWc a kI z.2) ++ (TWc h0 xa0 t0) ++ (AWc xa0 kI nx fx)) z.1) 0 0 (va_A ((RWc a kI r) ++ (TWc h0 xa0 t0) ++ (AWc xa0 kI nx fx)) sz) := by
  refine rw_start (Qc := fun A => rwQi dC dI A ((RWc a kI z.2) ++ (TWc h0 xa0 t0) ++ (AWc xa0 kI nx fx)) z.1) (cc := cX4_readLetters) (maxL := 4) (ret := (some .boolean)) (by decide) rfl (Nat.le_of_ble_eq_true rfl) ?_
  intro p e s m args below meth c hx hb hr hml hown hts hlocks hNW hK A hA H locs ls hP hD hS hl
  have hown : s.vm.findClass RX4 = some m.cls := hown
  have hl : lv_has ls 4 [(0, .ref (a 0)), (1, .ref h0)] := hl
  unfold J_X4_readLetters at hJ
  have L35 : ∀ (n : Nat) (r : RS) (y2 : Int32) (H : Heap) (locs : List Loc) (ls : Array Slot), va_P (dC, dI) vwCl ((RWc a kI r) ++ (TWc h0 xa0 t0) ++ (AWc xa0 kI nx fx)) H → va_D A ((RWc a kI r) ++ (TWc h0 xa0 t0) ++ (AWc xa0 kI nx fx)) → va_S A s.heap H locs → lv_has ls 4 [(0, .ref (a 0)), (1, .ref h0), (2, .int y2)] → J_X4_readLetters_b35 fu t0 nx fx n r y2 = some z → W p l e ({ frames := 1, cells := 0, slots := 0, locals := 22 }) s m args below meth c H locs 0 0 (MQ below (rwQi dC dI A ((RWc a kI z.2) ++ (TWc h0 xa0 t0) ++ (AWc xa0 kI nx fx)) z.1) args s 0 0 (A)) (F0 m 35 ls []) := by
    intro n
    induction n with
    | zero =>
      intro r y2 H locs ls hP hD hS hl hJ
      rw [J_X4_readLetters_b35] at hJ; cases hJ
    | succ n ih =>
      intro r y2 H locs ls hP hD hS hl hJ
      rw [J_X4_readLetters_b35] at hJ
      refine lv_iload_n hx hb dX4_readLetters_35 rfl (lv_at hl 2 rfl) ?_
      refine lv_aload_n hx hb dX4_readLetters_36 rfl (lv_at hl 1 rfl) ?_
      refine va_getN (D := (dC, dI)) (ci := 6) (v := .int (t_end t0)) (C := RX6) (T := TX6) (N := 5) hx hb hts (fun _ h => List.mem_cons_of_mem _ (List.mem_append_left _ (List.mem_append_right _ h))) hown hK hP 2 rfl rfl 4 (by decide) (hNW.use (i := 37) rfl) (fun _ h9 => h9) rfl dX4_readLetters_37 ?_
      refine lv_icmp_ge (tgt := 93) hx hb dX4_readLetters_40 (by decide) (fun c3 => ?_) (fun c3 => ?_)
      · have hJ := ite_t c3 hJ
        refine lv_iconst (v := 1) hx hb dX4_readLetters_93 (by decide) ?_
        obtain rfl := Option.some.inj hJ
        exact rw_zret hx hb hr hlocks rfl rfl hP hD hS dX4_readLetters_94
      · have hJ := ite_f c3 hJ
        refine lv_aload_n hx hb dX4_readLetters_43 rfl (lv_at hl 1 rfl) ?_
        refine va_getN (D := (dC, dI)) (ci := 6) (v := .ref xa0) (C := RX6) (T := TX6) (N := 5) hx hb hts (fun _ h => List.mem_cons_of_mem _ (List.mem_append_left _ (List.mem_append_right _ h))) hown hK hP 2 rfl rfl 0 (by decide) (hNW.use (i := 32) rfl) (fun _ h9 => h9) rfl dX4_readLetters_44 ?_
        refine lv_iload_n hx hb dX4_readLetters_47 rfl (lv_at hl 2 rfl) ?_
        obtain ⟨z4, e5, hJ⟩ := bnd hJ
        refine roSNi (As := [.ref xa0, .int y2]) (rest := []) hx hb hml hown hts (c_X7_at l dC dI kI xa0 nx fx y2 z4 e5) gX4_readLetters_X7_at_n87 qX7_at rfl ⟨Nat.le_of_ble_eq_true rfl, Nat.le_of_ble_eq_true rfl⟩ (hNW.use0 (i := 66) rfl) (hts _ (List.mem_of_getElem? (i := 5) rfl)) (hts _ (List.mem_of_getElem? (i := 4) rfl)) ⟨rfl, rfl⟩ hNW hK hP hS (hP.sub (ws' := AWc xa0 kI nx fx) [3] rfl) hK hl.1 rfl rfl (Nat.le_of_ble_eq_true rfl) dX4_readLetters_48 z0 (fun H locs hP hS => ?_)
        refine lv_bipush (v := 97) hx hb dX4_readLetters_51 (by decide) ?_
        refine lv_isub hx hb dX4_readLetters_53 ?_
        refine lv_istore_n (lv' := [(3, .int (z4 - (97 : Int32))), (0, .ref (a 0)), (1, .ref h0), (2, .int y2)]) hx hb dX4_readLetters_54 rfl hl (by decide) rfl (fun ls hl => ?_)
        refine lv_iload_n hx hb dX4_readLetters_55 rfl (lv_at hl 0 rfl) ?_
        refine lv_aload_n hx hb dX4_readLetters_56 rfl (lv_at hl 1 rfl) ?_
        refine va_get (D := (dC, dI)) (ci := 4) (v := .int (r_alphabet r)) (C := RX4) (T := TX4) (N := 6) hx hb hts (fun _ h => List.mem_cons_of_mem _ (List.mem_append_right _ h)) hown hK hP 0 rfl rfl 0 (by decide) (hts _ (List.mem_of_getElem? (i := 2) rfl)) (fun _ h9 => h9) rfl dX4_readLetters_57 ?_
        refine lv_icmp_lt (tgt := 65) hx hb dX4_readLetters_60 (by decide) (fun c6 => ?_) (fun c6 => ?_)
        · have hJ := ite_t c6 hJ
          refine lv_aload_n hx hb dX4_readLetters_65 rfl (lv_at hl 1 rfl) ?_
          refine va_get (D := (dC, dI)) (ci := 4) (v := .ref (a 1)) (C := RX4) (T := TX4) (N := 6) hx hb hts (fun _ h => List.mem_cons_of_mem _ (List.mem_append_right _ h)) hown hK hP 0 rfl rfl 4 (by decide) (hts _ (List.mem_of_getElem? (i := 3) rfl)) (fun _ h9 => h9) rfl dX4_readLetters_66 ?_
          refine lv_aload_n hx hb dX4_readLetters_69 rfl (lv_at hl 1 rfl) ?_
          refine va_get (D := (dC, dI)) (ci := 4) (v := .int (r_count r)) (C := RX4) (T := TX4) (N := 6) hx hb hts (fun _ h => List.mem_cons_of_mem _ (List.mem_append_right _ h)) hown hK hP 0 rfl rfl 5 (by decide) (hts _ (List.mem_of_getElem? (i := 1) rfl)) (fun _ h9 => h9) rfl dX4_readLetters_70 ?_
          refine lv_iload_n hx hb dX4_readLetters_73 rfl (lv_at hl 0 rfl) ?_
          obtain ⟨z7, e8, hJ⟩ := bnd hJ
          refine rwSNv (As := [.ref (a 1), .int (r_count r), .int (z4 - (97 : Int32))]) (rest := []) (wc := AWc (a 1) kI 400 (r_symbols r)) (wc' := AWc (a 1) kI 400 z7) (ws' := (RWc a kI (mkR (r_alphabet r) (r_width r) (r_policy r) (r_limit r) z7 (r_count r))) ++ (TWc h0 xa0 t0) ++ (AWc xa0 kI nx fx)) hx hb hml hown hts (c_X7_put l dC dI kI (a 1) 400 (r_symbols r) (r_count r) (z4 - (97 : Int32)) H.size z7 e8) gX4_readLetters_X7_put_n91 qX7_put rfl ⟨Nat.le_of_ble_eq_true rfl, Nat.le_of_ble_eq_true rfl⟩ (hNW.use0 (i := 67) rfl) (hts _ (List.mem_of_getElem? (i := 5) rfl)) (hts _ (List.mem_of_getElem? (i := 7) rfl)) ⟨rfl, rfl⟩ hNW hK hP hD hS hA [1] [0, 2, 3] rfl rfl (by decide) (by decide) (by decide) [0, 3, 1, 2] rfl (by decide) hK hl.1 rfl rfl (Nat.le_of_ble_eq_true rfl) dX4_readLetters_74 z0 (fun H locs hP hD hS => ?_)
          refine lv_aload_n hx hb dX4_readLetters_77 rfl (lv_at hl 1 rfl) ?_
          refine lv_dup hx hb dX4_readLetters_78 rfl ?_
          refine va_get (D := (dC, dI)) (ci := 4) (v := .int (r_count r)) (C := RX4) (T := TX4) (N := 6) hx hb hts (fun _ h => List.mem_cons_of_mem _ (List.mem_append_right _ h)) hown hK hP 0 rfl rfl 5 (by decide) (hts _ (List.mem_of_getElem? (i := 1) rfl)) (fun _ h9 => h9) rfl dX4_readLetters_79 ?_
          refine lv_iconst (v := 1) hx hb dX4_readLetters_82 (by decide) ?_
          refine lv_iadd hx hb dX4_readLetters_83 ?_
          refine va_put (D := (dC, dI)) (ci := 4) (v := .int ((r_count r) + (1 : Int32))) (ty := .int) (C := RX4) (T := TX4) (N := 6) hx hb hts (fun _ h => List.mem_cons_of_mem _ (List.mem_append_right _ h)) tyX4 tyX4_ok nmX4 hown hK hP hD hS 0 rfl rfl 5 (by decide) (hts _ (List.mem_of_getElem? (i := 1) rfl)) (fun _ h9 => h9) rfl (by decide +kernel) rfl rfl (Nat.le_of_ble_eq_true rfl) dX4_readLetters_84 (fun H locs hP hD hS => ?_)
          have hP : va_P (dC, dI) vwCl ((RWc a kI (mkR (r_alphabet r) (r_width r) (r_policy r) (r_limit r) z7 ((r_count r) + (1 : Int32)))) ++ (TWc h0 xa0 t0) ++ (AWc xa0 kI nx fx)) H := hP
          have hD : va_D A ((RWc a kI (mkR (r_alphabet r) (r_width r) (r_policy r) (r_limit r) z7 ((r_count r) + (1 : Int32)))) ++ (TWc h0 xa0 t0) ++ (AWc xa0 kI nx fx)) := hD
          refine lv_iinc (v := y2 + 1) (lv' := [(2, .int (y2 + 1)), (3, .int (z4 - (97 : Int32))), (0, .ref (a 0)), (1, .ref h0)]) hx hb dX4_readLetters_87 hl (k := 3) rfl rfl (by decide) rfl (fun ls hl => ?_)
          refine lv_goto (tgt := 35) hx hb dX4_readLetters_90 (by decide) ?_
          exact ih (mkR (r_alphabet r) (r_width r) (r_policy r) (r_limit r) z7 ((r_count r) + (1 : Int32))) (y2 + 1) H locs ls hP hD hS (lv_sub hl [2, 3, 0] rfl) hJ
        · have hJ := ite_f c6 hJ
          refine lv_iconst (v := 0) hx hb dX4_readLetters_63 (by decide) ?_
          obtain rfl := Option.some.inj hJ
          exact rw_zret hx hb hr hlocks rfl rfl hP hD hS dX4_readLetters_64
  refine lv_aload_n hx hb dX4_readLetters_0 rfl (lv_at hl 1 rfl) ?_
  refine va_getN (D := (dC, dI)) (ci := 6) (v := .int (t_kind t0)) (C := RX6) (T := TX6) (N := 5) hx hb hts (fun _ h => List.mem_cons_of_mem _ (List.mem_append_left _ (List.mem_append_right _ h))) hown hK hP 2 rfl rfl 2 (by decide) (hNW.use (i := 34) rfl) (fun _ h9 => h9) rfl dX4_readLetters_1 ?_
  refine lv_iconst (v := 1) hx hb dX4_readLetters_4 (by decide) ?_
  refine lv_icmp_ne (tgt := 28) hx hb dX4_readLetters_5 (by decide) (fun c1 => ?_) (fun c1 => ?_)
  · have hJ := ite_f c1 hJ
    refine lv_iconst (v := 0) hx hb dX4_readLetters_28 (by decide) ?_
    obtain rfl := Option.some.inj hJ
    exact rw_zret hx hb hr hlocks rfl rfl hP hD hS dX4_readLetters_29
  · have hJ := ite_t c1 hJ
    refine lv_aload_n hx hb dX4_readLetters_8 rfl (lv_at hl 0 rfl) ?_
    refine va_get (D := (dC, dI)) (ci := 4) (v := .int (r_count r)) (C := RX4) (T := TX4) (N := 6) hx hb hts (fun _ h => List.mem_cons_of_mem _ (List.mem_append_right _ h)) hown hK hP 0 rfl rfl 5 (by decide) (hts _ (List.mem_of_getElem? (i := 1) rfl)) (fun _ h9 => h9) rfl dX4_readLetters_9 ?_
    refine lv_aload_n hx hb dX4_readLetters_12 rfl (lv_at hl 1 rfl) ?_
    refine va_getN (D := (dC, dI)) (ci := 6) (v := .int (t_end t0)) (C := RX6) (T := TX6) (N := 5) hx hb hts (fun _ h => List.mem_cons_of_mem _ (List.mem_append_left _ (List.mem_append_right _ h))) hown hK hP 2 rfl rfl 4 (by decide) (hNW.use (i := 37) rfl) (fun _ h9 => h9) rfl dX4_readLetters_13 ?_
    refine lv_aload_n hx hb dX4_readLetters_16 rfl (lv_at hl 1 rfl) ?_
    refine va_getN (D := (dC, dI)) (ci := 6) (v := .int (t_start t0)) (C := RX6) (T := TX6) (N := 5) hx hb hts (fun _ h => List.mem_cons_of_mem _ (List.mem_append_left _ (List.mem_append_right _ h))) hown hK hP 2 rfl rfl 3 (by decide) (hNW.use (i := 36) rfl) (fun _ h9 => h9) rfl dX4_readLetters_17 ?_
    refine lv_isub hx hb dX4_readLetters_20 ?_
    refine lv_iadd hx hb dX4_readLetters_21 ?_
    refine lv_sipush (v := 400) hx hb dX4_readLetters_22 (by decide) ?_
    refine lv_icmp_le (tgt := 30) hx hb dX4_readLetters_25 (by decide) (fun c2 => ?_) (fun c2 => ?_)
    · have hJ := ite_t c2 hJ
      refine lv_aload_n hx hb dX4_readLetters_30 rfl (lv_at hl 1 rfl) ?_
      refine va_getN (D := (dC, dI)) (ci := 6) (v := .int (t_start t0)) (C := RX6) (T := TX6) (N := 5) hx hb hts (fun _ h => List.mem_cons_of_mem _ (List.mem_append_left _ (List.mem_append_right _ h))) hown hK hP 2 rfl rfl 3 (by decide) (hNW.use (i := 36) rfl) (fun _ h9 => h9) rfl dX4_readLetters_31 ?_
      refine lv_istore_n (lv' := [(2, .int (t_start t0)), (0, .ref (a 0)), (1, .ref h0)]) hx hb dX4_readLetters_34 rfl hl (by decide) rfl (fun ls hl => ?_)
      exact L35 fu r (t_start t0) H locs ls hP hD hS (lv_sub hl [1, 2, 0] rfl) hJ
    · have hJ := ite_f c2 hJ
      refine lv_iconst (v := 0) hx hb dX4_readLetters_28 (by decide) ?_
      obtain rfl := Option.some.inj hJ
      exact rw_zret hx hb hr hlocks rfl rfl hP hD hS dX4_readLetters_29
theorem qX1_longerBy : (yX1_longerBy.cls = RX1) ∧ yX1_longerBy.cls ≠ "java/lang/invoke/MethodHandle" ∧ yX1_longerBy.cls ≠ "java/lang/invoke/VarHandle" ∧ (parseMethodDescriptor yX1_longerBy.desc).map (fun d => d.parameters.length) = some 2 := by decide +kernel
set_option maxHeartbeats 4000000 in
set_option maxRecDepth 100000 in
theorem c_X1_longerBy (fu : Nat) (l : Launch) (dC : Nat → ClassId) (dI : Nat → Nat → Nat) (kI : ClassId) (b : Nat → Nat) (d : DS) (p0 : Int32) (p1 : Int32) (z : Int32) (hJ : J_X1_longerBy fu d p0 p1 = some z) : Met l yX1_longerBy wsX1_longerBy ({ frames := 1, cells := 0, slots := 0, locals := 21 }) (va_Pc [.ref (b 0), .int p0, .int p1] (ROp dC dI (DWc b kI d) [(kI, .int)])) (roQi z) 0 0 (fun _ => False) := by
  refine ro_start (cc := cX1_longerBy) (maxL := 5) (ret := (some .int)) (by decide) rfl (Nat.le_of_ble_eq_true rfl) ?_
  intro p e s m args below meth c hx hb hr hml hown hts hlocks hNW hK H locs ls hP hS hl
  have hown : s.vm.findClass RX1 = some m.cls := hown
  have hl : lv_has ls 5 [(0, .ref (b 0)), (1, .int p0), (2, .int p1)] := hl
  unfold J_X1_longerBy at hJ
  have L12 : ∀ (n : Nat) (y2 : Int32) (y3 : Int32) (y4 : Int32) (H : Heap) (locs : List Loc) (ls : Array Slot), va_P (dC, dI) vwCl (DWc b kI d) H → va_S (fun _ => False) s.heap H locs → lv_has ls 5 [(0, .ref (b 0)), (2, .int y2), (3, .int y3), (4, .int y4)] → J_X1_longerBy_b12 fu d n y2 y3 y4 = some z → W p l e ({ frames := 1, cells := 0, slots := 0, locals := 21 }) s m args below meth c H locs 0 0 (MQ below (roQi z) args s 0 0 (fun _ => False)) (F0 m 12 ls []) := by
    intro n
    induction n with
    | zero =>
      intro y2 y3 y4 H locs ls hP hS hl hJ
      rw [J_X1_longerBy_b12] at hJ; cases hJ
    | succ n ih =>
      intro y2 y3 y4 H locs ls hP hS hl hJ
      rw [J_X1_longerBy_b12] at hJ
      refine lv_iload hx hb dX1_longerBy_12 (lv_at hl 3 rfl) ?_
      refine lv_aload_n hx hb dX1_longerBy_14 rfl (lv_at hl 0 rfl) ?_
      refine va_get (D := (dC, dI)) (ci := 1) (v := .int (d_alphabet d)) (C := RX1) (T := TX1) (N := 8) hx hb hts (fun _ h => List.mem_cons_of_mem _ (List.mem_append_right _ h)) hown hK hP 0 rfl rfl 5 (by decide) (hts _ (List.mem_of_getElem? (i := 2) rfl)) (fun _ h9 => h9) rfl dX1_longerBy_15 ?_
      refine lv_icmp_ge (tgt := 55) hx hb dX1_longerBy_18 (by decide) (fun c3 => ?_) (fun c3 => ?_)
      · have hJ := ite_t c3 hJ
        refine lv_iconst (v := -1) hx hb dX1_longerBy_55 (by decide) ?_
        exact ro_iret hx hb hr hlocks hS hJ dX1_longerBy_56
      · have hJ := ite_f c3 hJ
        refine lv_iload_n hx hb dX1_longerBy_21 rfl (lv_at hl 2 rfl) ?_
        refine lv_iconst (v := -1) hx hb dX1_longerBy_22 (by decide) ?_
        refine lv_icmp_eq (tgt := 55) hx hb dX1_longerBy_23 (by decide) (fun c4 => ?_) (fun c4 => ?_)
        · have hJ := ite_t c4 hJ
          refine lv_iconst (v := -1) hx hb dX1_longerBy_55 (by decide) ?_
          exact ro_iret hx hb hr hlocks hS hJ dX1_longerBy_56
        · have hJ := ite_f c4 hJ
          refine lv_aload_n hx hb dX1_longerBy_26 rfl (lv_at hl 0 rfl) ?_
          refine va_get (D := (dC, dI)) (ci := 1) (v := .ref (b 2)) (C := RX1) (T := TX1) (N := 8) hx hb hts (fun _ h => List.mem_cons_of_mem _ (List.mem_append_right _ h)) hown hK hP 0 rfl rfl 1 (by decide) (hts _ (List.mem_of_getElem? (i := 3) rfl)) (fun _ h9 => h9) rfl dX1_longerBy_27 ?_
          refine lv_iload_n hx hb dX1_longerBy_30 rfl (lv_at hl 2 rfl) ?_
          obtain ⟨z5, e6, hJ⟩ := bnd hJ
          refine roSNi (As := [.ref (b 2), .int y3]) (rest := []) hx hb hml hown hts (c_X7_at l dC dI kI (b 2) 256 (d_lastSymbol d) y3 z5 e6) gX1_longerBy_X7_at_n48 qX7_at rfl ⟨Nat.le_of_ble_eq_true rfl, Nat.le_of_ble_eq_true rfl⟩ (hNW.use0 (i := 56) rfl) (hts _ (List.mem_of_getElem? (i := 6) rfl)) (hts _ (List.mem_of_getElem? (i := 5) rfl)) ⟨rfl, rfl⟩ hNW hK hP hS (hP.sub (ws' := AWc (b 2) kI 256 (d_lastSymbol d)) [2] rfl) hK hl.1 rfl rfl (Nat.le_of_ble_eq_true rfl) dX1_longerBy_31 z0 (fun H locs hP hS => ?_)
          refine lv_iload_n hx hb dX1_longerBy_34 rfl (lv_at hl 1 rfl) ?_
          refine lv_icmp_ne (tgt := 40) hx hb dX1_longerBy_35 (by decide) (fun c7 => ?_) (fun c7 => ?_)
          · have hJ := ite_f c7 hJ
            refine lv_aload_n hx hb dX1_longerBy_40 rfl (lv_at hl 0 rfl) ?_
            refine va_get (D := (dC, dI)) (ci := 1) (v := .ref (b 5)) (C := RX1) (T := TX1) (N := 8) hx hb hts (fun _ h => List.mem_cons_of_mem _ (List.mem_append_right _ h)) hown hK hP 0 rfl rfl 4 (by decide) (hts _ (List.mem_of_getElem? (i := 4) rfl)) (fun _ h9 => h9) rfl dX1_longerBy_41 ?_
            refine lv_iload_n hx hb dX1_longerBy_44 rfl (lv_at hl 2 rfl) ?_
            obtain ⟨z8, e9, hJ⟩ := bnd hJ
            refine roSNi (As := [.ref (b 5), .int y3]) (rest := []) hx hb hml hown hts (c_X7_at l dC dI kI (b 5) 256 (d_older d) y3 z8 e9) gX1_longerBy_X7_at_n48 qX7_at rfl ⟨Nat.le_of_ble_eq_true rfl, Nat.le_of_ble_eq_true rfl⟩ (hNW.use0 (i := 56) rfl) (hts _ (List.mem_of_getElem? (i := 6) rfl)) (hts _ (List.mem_of_getElem? (i := 5) rfl)) ⟨rfl, rfl⟩ hNW hK hP hS (hP.sub (ws' := AWc (b 5) kI 256 (d_older d)) [5] rfl) hK hl.1 rfl rfl (Nat.le_of_ble_eq_true rfl) dX1_longerBy_45 z0 (fun H locs hP hS => ?_)
            refine lv_istore_n (lv' := [(3, .int z8), (0, .ref (b 0)), (2, .int y2), (4, .int y4)]) hx hb dX1_longerBy_48 rfl hl (by decide) rfl (fun ls hl => ?_)
            refine lv_iinc (v := y4 + 1) (lv' := [(4, .int (y4 + 1)), (3, .int z8), (0, .ref (b 0)), (2, .int y2)]) hx hb dX1_longerBy_49 hl (k := 3) rfl rfl (by decide) rfl (fun ls hl => ?_)
            refine lv_goto (tgt := 12) hx hb dX1_longerBy_52 (by decide) ?_
            exact ih y2 z8 (y4 + 1) H locs ls hP hS (lv_sub hl [2, 3, 1, 0] rfl) hJ
          · have hJ := ite_t c7 hJ
            refine lv_iload_n hx hb dX1_longerBy_38 rfl (lv_at hl 2 rfl) ?_
            exact ro_iret hx hb hr hlocks hS hJ dX1_longerBy_39
  refine lv_aload_n hx hb dX1_longerBy_0 rfl (lv_at hl 0 rfl) ?_
  refine va_get (D := (dC, dI)) (ci := 1) (v := .ref (b 4)) (C := RX1) (T := TX1) (N := 8) hx hb hts (fun _ h => List.mem_cons_of_mem _ (List.mem_append_right _ h)) hown hK hP 0 rfl rfl 3 (by decide) (hts _ (List.mem_of_getElem? (i := 1) rfl)) (fun _ h9 => h9) rfl dX1_longerBy_1 ?_
  refine lv_iload_n hx hb dX1_longerBy_4 rfl (lv_at hl 1 rfl) ?_
  obtain ⟨z1, e2, hJ⟩ := bnd hJ
  refine roSNi (As := [.ref (b 4), .int p0]) (rest := []) hx hb hml hown hts (c_X7_at l dC dI kI (b 4) 256 (d_newest d) p0 z1 e2) gX1_longerBy_X7_at_n48 qX7_at rfl ⟨Nat.le_of_ble_eq_true rfl, Nat.le_of_ble_eq_true rfl⟩ (hNW.use0 (i := 56) rfl) (hts _ (List.mem_of_getElem? (i := 6) rfl)) (hts _ (List.mem_of_getElem? (i := 5) rfl)) ⟨rfl, rfl⟩ hNW hK hP hS (hP.sub (ws' := AWc (b 4) kI 256 (d_newest d)) [4] rfl) hK hl.1 rfl rfl (Nat.le_of_ble_eq_true rfl) dX1_longerBy_5 z0 (fun H locs hP hS => ?_)
  refine lv_istore_n (lv' := [(3, .int z1), (0, .ref (b 0)), (1, .int p0), (2, .int p1)]) hx hb dX1_longerBy_8 rfl hl (by decide) rfl (fun ls hl => ?_)
  refine lv_iconst (v := 0) hx hb dX1_longerBy_9 (by decide) ?_
  refine lv_istore (lv' := [(4, .int (0 : Int32)), (3, .int z1), (0, .ref (b 0)), (1, .int p0), (2, .int p1)]) hx hb dX1_longerBy_10 hl (by decide) rfl (fun ls hl => ?_)
  exact L12 fu p1 z1 (0 : Int32) H locs ls hP hS (lv_sub hl [2, 4, 1, 0] rfl) hJ
theorem qX1_room : (yX1_room.cls = RX1) ∧ yX1_room.cls ≠ "java/lang/invoke/MethodHandle" ∧ yX1_room.cls ≠ "java/lang/invoke/VarHandle" ∧ (parseMethodDescriptor yX1_room.desc).map (fun d => d.parameters.length) = some 0 := by decide +kernel
set_option maxHeartbeats 4000000 in
set_option maxRecDepth 100000 in
theorem c_X1_room (l : Launch) (dC : Nat → ClassId) (dI : Nat → Nat → Nat) (kI : ClassId) (b : Nat → Nat) (d : DS) (z : Int32) (hJ : J_X1_room d = some z) : Met l yX1_room wsX1_room ({ frames := 0, cells := 0, slots := 0, locals := 0 }) (va_Pc [.ref (b 0)] (ROp dC dI (DWc b kI d) [(kI, .int)])) (roQi z) 0 0 (fun _ => False) := by
  refine ro_start (cc := cX1_room) (maxL := 1) (ret := (some .int)) (by decide) rfl (Nat.le_of_ble_eq_true rfl) ?_
  intro p e s m args below meth c hx hb hr hml hown hts hlocks hNW hK H locs ls hP hS hl
  have hown : s.vm.findClass RX1 = some m.cls := hown
  have hl : lv_has ls 1 [(0, .ref (b 0))] := hl
  unfold J_X1_room at hJ
  refine lv_iconst (v := 1) hx hb dX1_room_0 (by decide) ?_
  refine lv_aload_n hx hb dX1_room_1 rfl (lv_at hl 0 rfl) ?_
  refine va_get (D := (dC, dI)) (ci := 1) (v := .int (d_widest d)) (C := RX1) (T := TX1) (N := 8) hx hb hts (fun _ h => List.mem_cons_of_mem _ (List.mem_append_right _ h)) hown hK hP 0 rfl rfl 6 (by decide) (hts _ (List.mem_of_getElem? (i := 1) rfl)) (fun _ h9 => h9) rfl dX1_room_2 ?_
  refine lv_ishl hx hb dX1_room_5 ?_
  exact ro_iret hx hb hr hlocks hS hJ dX1_room_6
theorem qX1_hasNoRoom : (yX1_hasNoRoom.cls = RX1) ∧ yX1_hasNoRoom.cls ≠ "java/lang/invoke/MethodHandle" ∧ yX1_hasNoRoom.cls ≠ "java/lang/invoke/VarHandle" ∧ (parseMethodDescriptor yX1_hasNoRoom.desc).map (fun d => d.parameters.length) = some 0 := by decide +kernel
set_option maxHeartbeats 4000000 in
set_option maxRecDepth 100000 in
theorem c_X1_hasNoRoom (l : Launch) (dC : Nat → ClassId) (dI : Nat → Nat → Nat) (kI : ClassId) (b : Nat → Nat) (d : DS) (z : Int32) (hJ : J_X1_hasNoRoom d = some z) : Met l yX1_hasNoRoom wsX1_hasNoRoom ({ frames := 1, cells := 0, slots := 0, locals := 20 }) (va_Pc [.ref (b 0)] (ROp dC dI (DWc b kI d) [(kI, .int)])) (roQi z) 0 0 (fun _ => False) := by
  refine ro_start (cc := cX1_hasNoRoom) (maxL := 1) (ret := (some .boolean)) (by decide) rfl (Nat.le_of_ble_eq_true rfl) ?_
  intro p e s m args below meth c hx hb hr hml hown hts hlocks hNW hK H locs ls hP hS hl
  have hown : s.vm.findClass RX1 = some m.cls := hown
  have hl : lv_has ls 1 [(0, .ref (b 0))] := hl
  unfold J_X1_hasNoRoom at hJ
  refine lv_aload_n hx hb dX1_hasNoRoom_0 rfl (lv_at hl 0 rfl) ?_
  refine va_get (D := (dC, dI)) (ci := 1) (v := .int (d_count d)) (C := RX1) (T := TX1) (N := 8) hx hb hts (fun _ h => List.mem_cons_of_mem _ (List.mem_append_right _ h)) hown hK hP 0 rfl rfl 7 (by decide) (hts _ (List.mem_of_getElem? (i := 1) rfl)) (fun _ h9 => h9) rfl dX1_hasNoRoom_1 ?_
  refine lv_aload_n hx hb dX1_hasNoRoom_4 rfl (lv_at hl 0 rfl) ?_
  obtain ⟨z1, e2, hJ⟩ := bnd hJ
  refine roVi (As := []) (rest := [.int (d_count d)]) (ci := 1) (q0 := 0) hx hb hml hown hts (c_X1_room l dC dI kI b d z1 e2) gX1_hasNoRoom_X1_room qX1_room rfl ⟨Nat.le_of_ble_eq_true rfl, Nat.le_of_ble_eq_true rfl⟩ ⟨rfl, rfl⟩ hNW hK hP hS hP hK rfl rfl rfl hl.1 rfl rfl (Nat.le_of_ble_eq_true rfl) dX1_hasNoRoom_5 z0 (fun H locs hP hS => ?_)
  refine lv_icmp_lt (tgt := 15) hx hb dX1_hasNoRoom_8 (by decide) (fun c3 => ?_) (fun c3 => ?_)
  · have hJ := ite_t c3 hJ
    refine lv_iconst (v := 0) hx hb dX1_hasNoRoom_15 (by decide) ?_
    exact ro_zret hx hb hr hlocks rfl hS hJ dX1_hasNoRoom_16
  · have hJ := ite_f c3 hJ
    refine lv_iconst (v := 1) hx hb dX1_hasNoRoom_11 (by decide) ?_
    refine lv_goto (tgt := 16) hx hb dX1_hasNoRoom_12 (by decide) ?_
    exact ro_zret hx hb hr hlocks rfl hS hJ dX1_hasNoRoom_16
theorem qX7_widthFor : (yX7_widthFor.cls = RX7) ∧ yX7_widthFor.cls ≠ "java/lang/invoke/MethodHandle" ∧ yX7_widthFor.cls ≠ "java/lang/invoke/VarHandle" ∧ (parseMethodDescriptor yX7_widthFor.desc).map (fun d => d.parameters.length) = some 1 := by decide +kernel
set_option maxHeartbeats 4000000 in
set_option maxRecDepth 100000 in
theorem c_X7_widthFor (fu : Nat) (l : Launch) (dC : Nat → ClassId) (dI : Nat → Nat → Nat) (p0 : Int32) (z : Int32) (hJ : J_X7_widthFor fu p0 = some z) : Met l yX7_widthFor wsX7_widthFor ({ frames := 0, cells := 0, slots := 0, locals := 0 }) (va_Pc [.int p0] (ROp dC dI ([]) [])) (roQi z) 0 0 (fun _ => False) := by
  refine ro_start (cc := cX7_widthFor) (maxL := 2) (ret := (some .int)) (by decide) rfl (Nat.le_of_ble_eq_true rfl) ?_
  intro p e s m args below meth c hx hb hr hml hown hts hlocks hNW hK H locs ls hP hS hl
  have hown : s.vm.findClass RX7 = some m.cls := hown
  have hl : lv_has ls 2 [(0, .int p0)] := hl
  unfold J_X7_widthFor at hJ
  have L2 : ∀ (n : Nat) (y0 : Int32) (y1 : Int32) (H : Heap) (locs : List Loc) (ls : Array Slot), va_P (dC, dI) vwCl ([]) H → va_S (fun _ => False) s.heap H locs → lv_has ls 2 [(0, .int y0), (1, .int y1)] → J_X7_widthFor_b2 fu n y0 y1 = some z → W p l e ({ frames := 0, cells := 0, slots := 0, locals := 0 }) s m args below meth c H locs 0 0 (MQ below (roQi z) args s 0 0 (fun _ => False)) (F0 m 2 ls []) := by
    intro n
    induction n with
    | zero =>
      intro y0 y1 H locs ls hP hS hl hJ
      rw [J_X7_widthFor_b2] at hJ; cases hJ
    | succ n ih =>
      intro y0 y1 H locs ls hP hS hl hJ
      rw [J_X7_widthFor_b2] at hJ
      refine lv_iload_n hx hb dX7_widthFor_2 rfl (lv_at hl 1 rfl) ?_
      refine lv_bipush (v := 30) hx hb dX7_widthFor_3 (by decide) ?_
      refine lv_icmp_ge (tgt := 21) hx hb dX7_widthFor_5 (by decide) (fun c1 => ?_) (fun c1 => ?_)
      · have hJ := ite_t c1 hJ
        refine lv_iload_n hx hb dX7_widthFor_21 rfl (lv_at hl 1 rfl) ?_
        exact ro_iret hx hb hr hlocks hS hJ dX7_widthFor_22
      · have hJ := ite_f c1 hJ
        refine lv_iconst (v := 1) hx hb dX7_widthFor_8 (by decide) ?_
        refine lv_iload_n hx hb dX7_widthFor_9 rfl (lv_at hl 1 rfl) ?_
        refine lv_ishl hx hb dX7_widthFor_10 ?_
        refine lv_iload_n hx hb dX7_widthFor_11 rfl (lv_at hl 0 rfl) ?_
        refine lv_icmp_ge (tgt := 21) hx hb dX7_widthFor_12 (by decide) (fun c2 => ?_) (fun c2 => ?_)
        · have hJ := ite_t c2 hJ
          refine lv_iload_n hx hb dX7_widthFor_21 rfl (lv_at hl 1 rfl) ?_
          exact ro_iret hx hb hr hlocks hS hJ dX7_widthFor_22
        · have hJ := ite_f c2 hJ
          refine lv_iinc (v := y1 + 1) (lv' := [(1, .int (y1 + 1)), (0, .int y0)]) hx hb dX7_widthFor_15 hl (k := 1) rfl rfl (by decide) rfl (fun ls hl => ?_)
          refine lv_goto (tgt := 2) hx hb dX7_widthFor_18 (by decide) ?_
          exact ih y0 (y1 + 1) H locs ls hP hS (lv_sub hl [1, 0] rfl) hJ
  refine lv_iconst (v := 1) hx hb dX7_widthFor_0 (by decide) ?_
  refine lv_istore_n (lv' := [(1, .int (1 : Int32)), (0, .int p0)]) hx hb dX7_widthFor_1 rfl hl (by decide) rfl (fun ls hl => ?_)
  exact L2 fu p0 (1 : Int32) H locs ls hP hS (lv_sub hl [1, 0] rfl) hJ
theorem qX1_widthOfCodes : (yX1_widthOfCodes.cls = RX1) ∧ yX1_widthOfCodes.cls ≠ "java/lang/invoke/MethodHandle" ∧ yX1_widthOfCodes.cls ≠ "java/lang/invoke/VarHandle" ∧ (parseMethodDescriptor yX1_widthOfCodes.desc).map (fun d => d.parameters.length) = some 0 := by decide +kernel
set_option maxHeartbeats 4000000 in
set_option maxRecDepth 100000 in
theorem c_X1_widthOfCodes (fu : Nat) (l : Launch) (dC : Nat → ClassId) (dI : Nat → Nat → Nat) (kI : ClassId) (b : Nat → Nat) (d : DS) (z : Int32) (hJ : J_X1_widthOfCodes fu d = some z) : Met l yX1_widthOfCodes wsX1_widthOfCodes ({ frames := 1, cells := 0, slots := 0, locals := 21 }) (va_Pc [.ref (b 0)] (ROp dC dI (DWc b kI d) [(kI, .int)])) (roQi z) 0 0 (fun _ => False) := by
  refine ro_start (cc := cX1_widthOfCodes) (maxL := 1) (ret := (some .int)) (by decide) rfl (Nat.le_of_ble_eq_true rfl) ?_
  intro p e s m args below meth c hx hb hr hml hown hts hlocks hNW hK H locs ls hP hS hl
  have hown : s.vm.findClass RX1 = some m.cls := hown
  have hl : lv_has ls 1 [(0, .ref (b 0))] := hl
  unfold J_X1_widthOfCodes at hJ
  refine lv_aload_n hx hb dX1_widthOfCodes_0 rfl (lv_at hl 0 rfl) ?_
  refine va_get (D := (dC, dI)) (ci := 1) (v := .int (d_count d)) (C := RX1) (T := TX1) (N := 8) hx hb hts (fun _ h => List.mem_cons_of_mem _ (List.mem_append_right _ h)) hown hK hP 0 rfl rfl 7 (by decide) (hts _ (List.mem_of_getElem? (i := 1) rfl)) (fun _ h9 => h9) rfl dX1_widthOfCodes_1 ?_
  obtain ⟨z1, e2, hJ⟩ := bnd hJ
  refine roSNi (As := [.int (d_count d)]) (rest := []) hx hb hml hown hts (c_X7_widthFor fu l dC dI (d_count d) z1 e2) gX1_widthOfCodes_X7_widthFor_n60 qX7_widthFor rfl ⟨Nat.le_of_ble_eq_true rfl, Nat.le_of_ble_eq_true rfl⟩ (hNW.use0 (i := 57) rfl) (hts _ (List.mem_of_getElem? (i := 3) rfl)) (hts _ (List.mem_of_getElem? (i := 2) rfl)) ⟨rfl, rfl⟩ hNW hK hP hS (hP.sub (ws' := []) [] rfl) (hK.sub (tys' := []) [] rfl) hl.1 rfl rfl (Nat.le_of_ble_eq_true rfl) dX1_widthOfCodes_4 z0 (fun H locs hP hS => ?_)
  exact ro_iret hx hb hr hlocks hS hJ dX1_widthOfCodes_7
theorem qX1_lengthOf : (yX1_lengthOf.cls = RX1) ∧ yX1_lengthOf.cls ≠ "java/lang/invoke/MethodHandle" ∧ yX1_lengthOf.cls ≠ "java/lang/invoke/VarHandle" ∧ (parseMethodDescriptor yX1_lengthOf.desc).map (fun d => d.parameters.length) = some 1 := by decide +kernel
set_option maxHeartbeats 4000000 in
set_option maxRecDepth 100000 in
theorem c_X1_lengthOf (l : Launch) (dC : Nat → ClassId) (dI : Nat → Nat → Nat) (kI : ClassId) (b : Nat → Nat) (d : DS) (p0 : Int32) (z : Int32) (hJ : J_X1_lengthOf d p0 = some z) : Met l yX1_lengthOf wsX1_lengthOf ({ frames := 1, cells := 0, slots := 0, locals := 21 }) (va_Pc [.ref (b 0), .int p0] (ROp dC dI (DWc b kI d) [(kI, .int)])) (roQi z) 0 0 (fun _ => False) := by
  refine ro_start (cc := cX1_lengthOf) (maxL := 2) (ret := (some .int)) (by decide) rfl (Nat.le_of_ble_eq_true rfl) ?_
  intro p e s m args below meth c hx hb hr hml hown hts hlocks hNW hK H locs ls hP hS hl
  have hown : s.vm.findClass RX1 = some m.cls := hown
  have hl : lv_has ls 2 [(0, .ref (b 0)), (1, .int p0)] := hl
  unfold J_X1_lengthOf at hJ
  refine lv_aload_n hx hb dX1_lengthOf_0 rfl (lv_at hl 0 rfl) ?_
  refine va_get (D := (dC, dI)) (ci := 1) (v := .ref (b 3)) (C := RX1) (T := TX1) (N := 8) hx hb hts (fun _ h => List.mem_cons_of_mem _ (List.mem_append_right _ h)) hown hK hP 0 rfl rfl 2 (by decide) (hts _ (List.mem_of_getElem? (i := 1) rfl)) (fun _ h9 => h9) rfl dX1_lengthOf_1 ?_
  refine lv_iload_n hx hb dX1_lengthOf_4 rfl (lv_at hl 1 rfl) ?_
  obtain ⟨z1, e2, hJ⟩ := bnd hJ
  refine roSNi (As := [.ref (b 3), .int p0]) (rest := []) hx hb hml hown hts (c_X7_at l dC dI kI (b 3) 256 (d_lengths d) p0 z1 e2) gX1_lengthOf_X7_at_n48 qX7_at rfl ⟨Nat.le_of_ble_eq_true rfl, Nat.le_of_ble_eq_true rfl⟩ (hNW.use0 (i := 56) rfl) (hts _ (List.mem_of_getElem? (i := 3) rfl)) (hts _ (List.mem_of_getElem? (i := 2) rfl)) ⟨rfl, rfl⟩ hNW hK hP hS (hP.sub (ws' := AWc (b 3) kI 256 (d_lengths d)) [3] rfl) hK hl.1 rfl rfl (Nat.le_of_ble_eq_true rfl) dX1_lengthOf_5 z0 (fun H locs hP hS => ?_)
  exact ro_iret hx hb hr hlocks hS hJ dX1_lengthOf_8
theorem qX1_widthOfSymbols : (yX1_widthOfSymbols.cls = RX1) ∧ yX1_widthOfSymbols.cls ≠ "java/lang/invoke/MethodHandle" ∧ yX1_widthOfSymbols.cls ≠ "java/lang/invoke/VarHandle" ∧ (parseMethodDescriptor yX1_widthOfSymbols.desc).map (fun d => d.parameters.length) = some 0 := by decide +kernel
set_option maxHeartbeats 4000000 in
set_option maxRecDepth 100000 in
theorem c_X1_widthOfSymbols (fu : Nat) (l : Launch) (dC : Nat → ClassId) (dI : Nat → Nat → Nat) (kI : ClassId) (b : Nat → Nat) (d : DS) (z : Int32) (hJ : J_X1_widthOfSymbols fu d = some z) : Met l yX1_widthOfSymbols wsX1_widthOfSymbols ({ frames := 1, cells := 0, slots := 0, locals := 21 }) (va_Pc [.ref (b 0)] (ROp dC dI (DWc b kI d) [(kI, .int)])) (roQi z) 0 0 (fun _ => False) := by
  refine ro_start (cc := cX1_widthOfSymbols) (maxL := 1) (ret := (some .int)) (by decide) rfl (Nat.le_of_ble_eq_true rfl) ?_
  intro p e s m args below meth c hx hb hr hml hown hts hlocks hNW hK H locs ls hP hS hl
  have hown : s.vm.findClass RX1 = some m.cls := hown
  have hl : lv_has ls 1 [(0, .ref (b 0))] := hl
  unfold J_X1_widthOfSymbols at hJ
  refine lv_aload_n hx hb dX1_widthOfSymbols_0 rfl (lv_at hl 0 rfl) ?_
  refine va_get (D := (dC, dI)) (ci := 1) (v := .int (d_alphabet d)) (C := RX1) (T := TX1) (N := 8) hx hb hts (fun _ h => List.mem_cons_of_mem _ (List.mem_append_right _ h)) hown hK hP 0 rfl rfl 5 (by decide) (hts _ (List.mem_of_getElem? (i := 1) rfl)) (fun _ h9 => h9) rfl dX1_widthOfSymbols_1 ?_
  obtain ⟨z1, e2, hJ⟩ := bnd hJ
  refine roSNi (As := [.int (d_alphabet d)]) (rest := []) hx hb hml hown hts (c_X7_widthFor fu l dC dI (d_alphabet d) z1 e2) gX1_widthOfSymbols_X7_widthFor_n60 qX7_widthFor rfl ⟨Nat.le_of_ble_eq_true rfl, Nat.le_of_ble_eq_true rfl⟩ (hNW.use0 (i := 57) rfl) (hts _ (List.mem_of_getElem? (i := 3) rfl)) (hts _ (List.mem_of_getElem? (i := 2) rfl)) ⟨rfl, rfl⟩ hNW hK hP hS (hP.sub (ws' := []) [] rfl) (hK.sub (tys' := []) [] rfl) hl.1 rfl rfl (Nat.le_of_ble_eq_true rfl) dX1_widthOfSymbols_4 z0 (fun H locs hP hS => ?_)
  exact ro_iret hx hb hr hlocks hS hJ dX1_widthOfSymbols_7
theorem qX2_percent : (yX2_percent.cls = RX2) ∧ yX2_percent.cls ≠ "java/lang/invoke/MethodHandle" ∧ yX2_percent.cls ≠ "java/lang/invoke/VarHandle" ∧ (parseMethodDescriptor yX2_percent.desc).map (fun d => d.parameters.length) = some 2 := by decide +kernel
set_option maxHeartbeats 4000000 in
set_option maxRecDepth 100000 in
theorem c_X2_percent (fu : Nat) (l : Launch) (dC : Nat → ClassId) (dI : Nat → Nat → Nat) (kI : ClassId) (a : Nat → Nat) (b : Nat → Nat) (ee : ES) (p0 : Int32) (p1 : Int32) (z : Int32) (hJ : J_X2_percent fu ee p0 p1 = some z) : Met l yX2_percent wsX2_percent ({ frames := 2, cells := 0, slots := 0, locals := 41 }) (va_Pc [.ref (a 0), .int p0, .int p1] (ROp dC dI (EWc a b kI ee) [(kI, .int)])) (roQi z) 0 0 (fun _ => False) := by
  refine ro_start (cc := cX2_percent) (maxL := 4) (ret := (some .int)) (by decide) rfl (Nat.le_of_ble_eq_true rfl) ?_
  intro p e s m args below meth c hx hb hr hml hown hts hlocks hNW hK H locs ls hP hS hl
  have hown : s.vm.findClass RX2 = some m.cls := hown
  have hl : lv_has ls 4 [(0, .ref (a 0)), (1, .int p0), (2, .int p1)] := hl
  unfold J_X2_percent at hJ
  refine lv_iload_n hx hb dX2_percent_0 rfl (lv_at hl 2 rfl) ?_
  refine lv_aload_n hx hb dX2_percent_1 rfl (lv_at hl 0 rfl) ?_
  refine va_get (D := (dC, dI)) (ci := 2) (v := .ref (b 0)) (C := RX2) (T := TX2) (N := 14) hx hb hts (fun _ h => List.mem_cons_of_mem _ (List.mem_append_left _ (List.mem_append_right _ h))) hown hK hP 0 rfl rfl 0 (by decide) (hts _ (List.mem_of_getElem? (i := 1) rfl)) (fun _ h9 => h9) rfl dX2_percent_2 ?_
  obtain ⟨z1, e2, hJ⟩ := bnd hJ
  refine roVi (As := []) (rest := [.int p1]) (ci := 1) (q0 := 0) hx hb hml hown hts (c_X1_widthOfSymbols fu l dC dI kI b (e_d ee) z1 e2) gX2_percent_X1_widthOfSymbols qX1_widthOfSymbols rfl ⟨Nat.le_of_ble_eq_true rfl, Nat.le_of_ble_eq_true rfl⟩ ⟨rfl, rfl⟩ hNW hK hP hS (hP.sub (ws' := DWc b kI (e_d ee)) [4, 5, 6, 7, 8, 9] rfl) hK rfl rfl rfl hl.1 rfl rfl (Nat.le_of_ble_eq_true rfl) dX2_percent_5 z0 (fun H locs hP hS => ?_)
  refine lv_imul hx hb dX2_percent_8 ?_
  refine lv_istore_n (lv' := [(3, .int (p1 * z1)), (0, .ref (a 0)), (1, .int p0), (2, .int p1)]) hx hb dX2_percent_9 rfl hl (by decide) rfl (fun ls hl => ?_)
  refine lv_iload_n hx hb dX2_percent_10 rfl (lv_at hl 0 rfl) ?_
  refine lv_if_gt (tgt := 18) hx hb dX2_percent_11 (by decide) (fun c3 => ?_) (fun c3 => ?_)
  · have hJ := ite_t c3 hJ
    refine lv_bipush (v := 100) hx hb dX2_percent_18 (by decide) ?_
    refine lv_iload_n hx hb dX2_percent_20 rfl (lv_at hl 2 rfl) ?_
    refine lv_imul hx hb dX2_percent_21 ?_
    refine lv_iload_n hx hb dX2_percent_22 rfl (lv_at hl 0 rfl) ?_
    obtain ⟨h4, hJ⟩ := ite_none hJ
    refine lv_idiv hx hb dX2_percent_23 h4 ?_
    exact ro_iret hx hb hr hlocks hS hJ dX2_percent_24
  · have hJ := ite_f c3 hJ
    refine lv_iconst (v := 0) hx hb dX2_percent_14 (by decide) ?_
    refine lv_goto (tgt := 24) hx hb dX2_percent_15 (by decide) ?_
    exact ro_iret hx hb hr hlocks hS hJ dX2_percent_24
theorem qX2_asksForClearing : (yX2_asksForClearing.cls = RX2) ∧ yX2_asksForClearing.cls ≠ "java/lang/invoke/MethodHandle" ∧ yX2_asksForClearing.cls ≠ "java/lang/invoke/VarHandle" ∧ (parseMethodDescriptor yX2_asksForClearing.desc).map (fun d => d.parameters.length) = some 0 := by decide +kernel
set_option maxHeartbeats 4000000 in
set_option maxRecDepth 100000 in
theorem c_X2_asksForClearing (fu : Nat) (l : Launch) (dC : Nat → ClassId) (dI : Nat → Nat → Nat) (kI : ClassId) (a : Nat → Nat) (b : Nat → Nat) (ee : ES) (z : Int32) (hJ : J_X2_asksForClearing fu ee = some z) : Met l yX2_asksForClearing wsX2_asksForClearing ({ frames := 3, cells := 0, slots := 0, locals := 64 }) (va_Pc [.ref (a 0)] (ROp dC dI (EWc a b kI ee) [(kI, .int)])) (roQi z) 0 0 (fun _ => False) := by
  refine ro_start (cc := cX2_asksForClearing) (maxL := 3) (ret := (some .boolean)) (by decide) rfl (Nat.le_of_ble_eq_true rfl) ?_
  intro p e s m args below meth c hx hb hr hml hown hts hlocks hNW hK H locs ls hP hS hl
  have hown : s.vm.findClass RX2 = some m.cls := hown
  have hl : lv_has ls 3 [(0, .ref (a 0))] := hl
  unfold J_X2_asksForClearing at hJ
  refine lv_aload_n hx hb dX2_asksForClearing_0 rfl (lv_at hl 0 rfl) ?_
  refine va_get (D := (dC, dI)) (ci := 2) (v := .ref (b 0)) (C := RX2) (T := TX2) (N := 14) hx hb hts (fun _ h => List.mem_cons_of_mem _ (List.mem_append_left _ (List.mem_append_right _ h))) hown hK hP 0 rfl rfl 0 (by decide) (hts _ (List.mem_of_getElem? (i := 1) rfl)) (fun _ h9 => h9) rfl dX2_asksForClearing_1 ?_
  obtain ⟨z1, e2, hJ⟩ := bnd hJ
  refine roVi (As := []) (rest := []) (ci := 1) (q0 := 0) hx hb hml hown hts (c_X1_hasNoRoom l dC dI kI b (e_d ee) z1 e2) gX2_asksForClearing_X1_hasNoRoom qX1_hasNoRoom rfl ⟨Nat.le_of_ble_eq_true rfl, Nat.le_of_ble_eq_true rfl⟩ ⟨rfl, rfl⟩ hNW hK hP hS (hP.sub (ws' := DWc b kI (e_d ee)) [4, 5, 6, 7, 8, 9] rfl) hK rfl rfl rfl hl.1 rfl rfl (Nat.le_of_ble_eq_true rfl) dX2_asksForClearing_4 z0 (fun H locs hP hS => ?_)
  refine lv_if_eq (tgt := 17) hx hb dX2_asksForClearing_7 (by decide) (fun c3 => ?_) (fun c3 => ?_)
  · have hJ := ite_t c3 hJ
    refine lv_iconst (v := 0) hx hb dX2_asksForClearing_17 (by decide) ?_
    exact ro_zret hx hb hr hlocks rfl hS hJ dX2_asksForClearing_18
  · have hJ := ite_f c3 hJ
    refine lv_aload_n hx hb dX2_asksForClearing_10 rfl (lv_at hl 0 rfl) ?_
    refine va_get (D := (dC, dI)) (ci := 2) (v := .int (e_policy ee)) (C := RX2) (T := TX2) (N := 14) hx hb hts (fun _ h => List.mem_cons_of_mem _ (List.mem_append_left _ (List.mem_append_right _ h))) hown hK hP 0 rfl rfl 1 (by decide) (hts _ (List.mem_of_getElem? (i := 2) rfl)) (fun _ h9 => h9) rfl dX2_asksForClearing_11 ?_
    refine lv_if_ne (tgt := 19) hx hb dX2_asksForClearing_14 (by decide) (fun c4 => ?_) (fun c4 => ?_)
    · have hJ := ite_f c4 hJ
      refine lv_aload_n hx hb dX2_asksForClearing_19 rfl (lv_at hl 0 rfl) ?_
      refine va_get (D := (dC, dI)) (ci := 2) (v := .int (e_recentBits ee)) (C := RX2) (T := TX2) (N := 14) hx hb hts (fun _ h => List.mem_cons_of_mem _ (List.mem_append_left _ (List.mem_append_right _ h))) hown hK hP 0 rfl rfl 13 (by decide) (hts _ (List.mem_of_getElem? (i := 3) rfl)) (fun _ h9 => h9) rfl dX2_asksForClearing_20 ?_
      refine lv_aload_n hx hb dX2_asksForClearing_23 rfl (lv_at hl 0 rfl) ?_
      refine va_get (D := (dC, dI)) (ci := 2) (v := .ref (b 0)) (C := RX2) (T := TX2) (N := 14) hx hb hts (fun _ h => List.mem_cons_of_mem _ (List.mem_append_left _ (List.mem_append_right _ h))) hown hK hP 0 rfl rfl 0 (by decide) (hts _ (List.mem_of_getElem? (i := 1) rfl)) (fun _ h9 => h9) rfl dX2_asksForClearing_24 ?_
      obtain ⟨z5, e6, hJ⟩ := bnd hJ
      refine roVi (As := []) (rest := [.int (e_recentBits ee)]) (ci := 1) (q0 := 0) hx hb hml hown hts (c_X1_widthOfCodes fu l dC dI kI b (e_d ee) z5 e6) gX2_asksForClearing_X1_widthOfCodes qX1_widthOfCodes rfl ⟨Nat.le_of_ble_eq_true rfl, Nat.le_of_ble_eq_true rfl⟩ ⟨rfl, rfl⟩ hNW hK hP hS (hP.sub (ws' := DWc b kI (e_d ee)) [4, 5, 6, 7, 8, 9] rfl) hK rfl rfl rfl hl.1 rfl rfl (Nat.le_of_ble_eq_true rfl) dX2_asksForClearing_27 z0 (fun H locs hP hS => ?_)
      refine lv_iadd hx hb dX2_asksForClearing_30 ?_
      refine lv_istore_n (lv' := [(1, .int ((e_recentBits ee) + z5)), (0, .ref (a 0))]) hx hb dX2_asksForClearing_31 rfl hl (by decide) rfl (fun ls hl => ?_)
      refine lv_aload_n hx hb dX2_asksForClearing_32 rfl (lv_at hl 1 rfl) ?_
      refine va_get (D := (dC, dI)) (ci := 2) (v := .int (e_recentSymbols ee)) (C := RX2) (T := TX2) (N := 14) hx hb hts (fun _ h => List.mem_cons_of_mem _ (List.mem_append_left _ (List.mem_append_right _ h))) hown hK hP 0 rfl rfl 12 (by decide) (hts _ (List.mem_of_getElem? (i := 4) rfl)) (fun _ h9 => h9) rfl dX2_asksForClearing_33 ?_
      refine lv_aload_n hx hb dX2_asksForClearing_36 rfl (lv_at hl 1 rfl) ?_
      refine va_get (D := (dC, dI)) (ci := 2) (v := .ref (b 0)) (C := RX2) (T := TX2) (N := 14) hx hb hts (fun _ h => List.mem_cons_of_mem _ (List.mem_append_left _ (List.mem_append_right _ h))) hown hK hP 0 rfl rfl 0 (by decide) (hts _ (List.mem_of_getElem? (i := 1) rfl)) (fun _ h9 => h9) rfl dX2_asksForClearing_37 ?_
      refine lv_aload_n hx hb dX2_asksForClearing_40 rfl (lv_at hl 1 rfl) ?_
      refine va_get (D := (dC, dI)) (ci := 2) (v := .int (e_phrase ee)) (C := RX2) (T := TX2) (N := 14) hx hb hts (fun _ h => List.mem_cons_of_mem _ (List.mem_append_left _ (List.mem_append_right _ h))) hown hK hP 0 rfl rfl 3 (by decide) (hts _ (List.mem_of_getElem? (i := 5) rfl)) (fun _ h9 => h9) rfl dX2_asksForClearing_41 ?_
      obtain ⟨z7, e8, hJ⟩ := bnd hJ
      refine roVi (As := [.int (e_phrase ee)]) (rest := [.int (e_recentSymbols ee)]) (ci := 1) (q0 := 0) hx hb hml hown hts (c_X1_lengthOf l dC dI kI b (e_d ee) (e_phrase ee) z7 e8) gX2_asksForClearing_X1_lengthOf qX1_lengthOf rfl ⟨Nat.le_of_ble_eq_true rfl, Nat.le_of_ble_eq_true rfl⟩ ⟨rfl, rfl⟩ hNW hK hP hS (hP.sub (ws' := DWc b kI (e_d ee)) [4, 5, 6, 7, 8, 9] rfl) hK rfl rfl rfl hl.1 rfl rfl (Nat.le_of_ble_eq_true rfl) dX2_asksForClearing_44 z0 (fun H locs hP hS => ?_)
      refine lv_iadd hx hb dX2_asksForClearing_47 ?_
      refine lv_istore_n (lv' := [(2, .int ((e_recentSymbols ee) + z7)), (1, .int ((e_recentBits ee) + z5)), (0, .ref (a 0))]) hx hb dX2_asksForClearing_48 rfl hl (by decide) rfl (fun ls hl => ?_)
      refine lv_aload_n hx hb dX2_asksForClearing_49 rfl (lv_at hl 2 rfl) ?_
      refine va_get (D := (dC, dI)) (ci := 2) (v := .int (e_policy ee)) (C := RX2) (T := TX2) (N := 14) hx hb hts (fun _ h => List.mem_cons_of_mem _ (List.mem_append_left _ (List.mem_append_right _ h))) hown hK hP 0 rfl rfl 1 (by decide) (hts _ (List.mem_of_getElem? (i := 2) rfl)) (fun _ h9 => h9) rfl dX2_asksForClearing_50 ?_
      refine lv_iconst (v := 1) hx hb dX2_asksForClearing_53 (by decide) ?_
      refine lv_icmp_eq (tgt := 70) hx hb dX2_asksForClearing_54 (by decide) (fun c9 => ?_) (fun c9 => ?_)
      · have hJ := ite_t c9 hJ
        refine lv_iconst (v := 1) hx hb dX2_asksForClearing_70 (by decide) ?_
        refine lv_goto (tgt := 75) hx hb dX2_asksForClearing_71 (by decide) ?_
        exact ro_zret hx hb hr hlocks rfl hS hJ dX2_asksForClearing_75
      · have hJ := ite_f c9 hJ
        refine lv_aload_n hx hb dX2_asksForClearing_57 rfl (lv_at hl 2 rfl) ?_
        refine lv_iload_n hx hb dX2_asksForClearing_58 rfl (lv_at hl 1 rfl) ?_
        refine lv_iload_n hx hb dX2_asksForClearing_59 rfl (lv_at hl 0 rfl) ?_
        obtain ⟨z10, e11, hJ⟩ := bnd hJ
        refine roVi (As := [.int ((e_recentBits ee) + z5), .int ((e_recentSymbols ee) + z7)]) (rest := []) (ci := 2) (q0 := 0) hx hb hml hown hts (c_X2_percent fu l dC dI kI a b ee ((e_recentBits ee) + z5) ((e_recentSymbols ee) + z7) z10 e11) gX2_asksForClearing_X2_percent qX2_percent rfl ⟨Nat.le_of_ble_eq_true rfl, Nat.le_of_ble_eq_true rfl⟩ ⟨rfl, rfl⟩ hNW hK hP hS hP hK rfl rfl rfl hl.1 rfl rfl (Nat.le_of_ble_eq_true rfl) dX2_asksForClearing_60 z0 (fun H locs hP hS => ?_)
        refine lv_aload_n hx hb dX2_asksForClearing_63 rfl (lv_at hl 2 rfl) ?_
        refine va_get (D := (dC, dI)) (ci := 2) (v := .int (e_limit ee)) (C := RX2) (T := TX2) (N := 14) hx hb hts (fun _ h => List.mem_cons_of_mem _ (List.mem_append_left _ (List.mem_append_right _ h))) hown hK hP 0 rfl rfl 2 (by decide) (hts _ (List.mem_of_getElem? (i := 6) rfl)) (fun _ h9 => h9) rfl dX2_asksForClearing_64 ?_
        refine lv_icmp_le (tgt := 74) hx hb dX2_asksForClearing_67 (by decide) (fun c12 => ?_) (fun c12 => ?_)
        · have hJ := ite_t c12 hJ
          refine lv_iconst (v := 0) hx hb dX2_asksForClearing_74 (by decide) ?_
          exact ro_zret hx hb hr hlocks rfl hS hJ dX2_asksForClearing_75
        · have hJ := ite_f c12 hJ
          refine lv_iconst (v := 1) hx hb dX2_asksForClearing_70 (by decide) ?_
          refine lv_goto (tgt := 75) hx hb dX2_asksForClearing_71 (by decide) ?_
          exact ro_zret hx hb hr hlocks rfl hS hJ dX2_asksForClearing_75
    · have hJ := ite_t c4 hJ
      refine lv_iconst (v := 0) hx hb dX2_asksForClearing_17 (by decide) ?_
      exact ro_zret hx hb hr hlocks rfl hS hJ dX2_asksForClearing_18
theorem qX2_codesFor : (yX2_codesFor.cls = RX2) ∧ yX2_codesFor.cls ≠ "java/lang/invoke/MethodHandle" ∧ yX2_codesFor.cls ≠ "java/lang/invoke/VarHandle" ∧ (parseMethodDescriptor yX2_codesFor.desc).map (fun d => d.parameters.length) = some 1 := by decide +kernel
set_option maxHeartbeats 4000000 in
set_option maxRecDepth 100000 in
theorem c_X2_codesFor (fu : Nat) (l : Launch) (dC : Nat → ClassId) (dI : Nat → Nat → Nat) (kI : ClassId) (a : Nat → Nat) (b : Nat → Nat) (ee : ES) (p0 : Int32) (z : Int32) (hJ : J_X2_codesFor fu ee p0 = some z) : Met l yX2_codesFor wsX2_codesFor ({ frames := 4, cells := 0, slots := 0, locals := 86 }) (va_Pc [.ref (a 0), .int p0] (ROp dC dI (EWc a b kI ee) [(kI, .int)])) (roQi z) 0 0 (fun _ => False) := by
  refine ro_start (cc := cX2_codesFor) (maxL := 2) (ret := (some .int)) (by decide) rfl (Nat.le_of_ble_eq_true rfl) ?_
  intro p e s m args below meth c hx hb hr hml hown hts hlocks hNW hK H locs ls hP hS hl
  have hown : s.vm.findClass RX2 = some m.cls := hown
  have hl : lv_has ls 2 [(0, .ref (a 0)), (1, .int p0)] := hl
  unfold J_X2_codesFor at hJ
  refine lv_aload_n hx hb dX2_codesFor_0 rfl (lv_at hl 0 rfl) ?_
  refine va_get (D := (dC, dI)) (ci := 2) (v := .int (e_phrase ee)) (C := RX2) (T := TX2) (N := 14) hx hb hts (fun _ h => List.mem_cons_of_mem _ (List.mem_append_left _ (List.mem_append_right _ h))) hown hK hP 0 rfl rfl 3 (by decide) (hts _ (List.mem_of_getElem? (i := 1) rfl)) (fun _ h9 => h9) rfl dX2_codesFor_1 ?_
  refine lv_iconst (v := -1) hx hb dX2_codesFor_4 (by decide) ?_
  refine lv_icmp_eq (tgt := 24) hx hb dX2_codesFor_5 (by decide) (fun c1 => ?_) (fun c1 => ?_)
  · have hJ := ite_t c1 hJ
    refine lv_iconst (v := 0) hx hb dX2_codesFor_24 (by decide) ?_
    exact ro_iret hx hb hr hlocks hS hJ dX2_codesFor_25
  · have hJ := ite_f c1 hJ
    refine lv_aload_n hx hb dX2_codesFor_8 rfl (lv_at hl 0 rfl) ?_
    refine va_get (D := (dC, dI)) (ci := 2) (v := .ref (b 0)) (C := RX2) (T := TX2) (N := 14) hx hb hts (fun _ h => List.mem_cons_of_mem _ (List.mem_append_left _ (List.mem_append_right _ h))) hown hK hP 0 rfl rfl 0 (by decide) (hts _ (List.mem_of_getElem? (i := 2) rfl)) (fun _ h9 => h9) rfl dX2_codesFor_9 ?_
    refine lv_aload_n hx hb dX2_codesFor_12 rfl (lv_at hl 0 rfl) ?_
    refine va_get (D := (dC, dI)) (ci := 2) (v := .int (e_phrase ee)) (C := RX2) (T := TX2) (N := 14) hx hb hts (fun _ h => List.mem_cons_of_mem _ (List.mem_append_left _ (List.mem_append_right _ h))) hown hK hP 0 rfl rfl 3 (by decide) (hts _ (List.mem_of_getElem? (i := 1) rfl)) (fun _ h9 => h9) rfl dX2_codesFor_13 ?_
    refine lv_iload_n hx hb dX2_codesFor_16 rfl (lv_at hl 1 rfl) ?_
    obtain ⟨z2, e3, hJ⟩ := bnd hJ
    refine roVi (As := [.int (e_phrase ee), .int p0]) (rest := []) (ci := 1) (q0 := 0) hx hb hml hown hts (c_X1_longerBy fu l dC dI kI b (e_d ee) (e_phrase ee) p0 z2 e3) gX2_codesFor_X1_longerBy qX1_longerBy rfl ⟨Nat.le_of_ble_eq_true rfl, Nat.le_of_ble_eq_true rfl⟩ ⟨rfl, rfl⟩ hNW hK hP hS (hP.sub (ws' := DWc b kI (e_d ee)) [4, 5, 6, 7, 8, 9] rfl) hK rfl rfl rfl hl.1 rfl rfl (Nat.le_of_ble_eq_true rfl) dX2_codesFor_17 z0 (fun H locs hP hS => ?_)
    refine lv_iconst (v := -1) hx hb dX2_codesFor_20 (by decide) ?_
    refine lv_icmp_eq (tgt := 26) hx hb dX2_codesFor_21 (by decide) (fun c4 => ?_) (fun c4 => ?_)
    · have hJ := ite_t c4 hJ
      refine lv_aload_n hx hb dX2_codesFor_26 rfl (lv_at hl 0 rfl) ?_
      obtain ⟨z5, e6, hJ⟩ := bnd hJ
      refine roVi (As := []) (rest := []) (ci := 2) (q0 := 0) hx hb hml hown hts (c_X2_asksForClearing fu l dC dI kI a b ee z5 e6) gX2_codesFor_X2_asksForClearing qX2_asksForClearing rfl ⟨Nat.le_of_ble_eq_true rfl, Nat.le_of_ble_eq_true rfl⟩ ⟨rfl, rfl⟩ hNW hK hP hS hP hK rfl rfl rfl hl.1 rfl rfl (Nat.le_of_ble_eq_true rfl) dX2_codesFor_27 z0 (fun H locs hP hS => ?_)
      refine lv_if_eq (tgt := 37) hx hb dX2_codesFor_30 (by decide) (fun c7 => ?_) (fun c7 => ?_)
      · have hJ := ite_t c7 hJ
        refine lv_iconst (v := 1) hx hb dX2_codesFor_37 (by decide) ?_
        exact ro_iret hx hb hr hlocks hS hJ dX2_codesFor_38
      · have hJ := ite_f c7 hJ
        refine lv_iconst (v := 2) hx hb dX2_codesFor_33 (by decide) ?_
        refine lv_goto (tgt := 38) hx hb dX2_codesFor_34 (by decide) ?_
        exact ro_iret hx hb hr hlocks hS hJ dX2_codesFor_38
    · have hJ := ite_f c4 hJ
      refine lv_iconst (v := 0) hx hb dX2_codesFor_24 (by decide) ?_
      exact ro_iret hx hb hr hlocks hS hJ dX2_codesFor_25
theorem qX2_write : (yX2_write.cls = RX2) ∧ yX2_write.cls ≠ "java/lang/invoke/MethodHandle" ∧ yX2_write.cls ≠ "java/lang/invoke/VarHandle" ∧ (parseMethodDescriptor yX2_write.desc).map (fun d => d.parameters.length) = some 1 := by decide +kernel
set_option maxHeartbeats 4000000 in
set_option maxRecDepth 100000 in
theorem c_X2_write (fu : Nat) (l : Launch) (dC : Nat → ClassId) (dI : Nat → Nat → Nat) (kI : ClassId) (a : Nat → Nat) (b : Nat → Nat) (ee : ES) (p0 : Int32) (sz : Nat) (z : ES) (hJ : J_X2_write fu ee p0 = some z) : Met l yX2_write wsX2_write ({ frames := 2, cells := 0, slots := 0, locals := 41 }) (va_Pc [.ref (a 0), .int p0] (RWp dC dI sz (EWc a b kI ee) [(kI, .int)])) (rwQv dC dI (va_A (EWc a b kI ee) sz) (EWc a b kI z)) 0 0 (va_A (EWc a b kI ee) sz) := by
  refine rw_start (Qc := fun A => rwQv dC dI A (EWc a b kI z)) (cc := cX2_write) (maxL := 3) (ret := none) (by decide) rfl (Nat.le_of_ble_eq_true rfl) ?_
  intro p e s m args below meth c hx hb hr hml hown hts hlocks hNW hK A hA H locs ls hP hD hS hl
  have hown : s.vm.findClass RX2 = some m.cls := hown
  have hl : lv_has ls 3 [(0, .ref (a 0)), (1, .int p0)] := hl
  unfold J_X2_write at hJ
  refine lv_aload_n hx hb dX2_write_0 rfl (lv_at hl 0 rfl) ?_
  refine va_get (D := (dC, dI)) (ci := 2) (v := .ref (b 0)) (C := RX2) (T := TX2) (N := 14) hx hb hts (fun _ h => List.mem_cons_of_mem _ (List.mem_append_left _ (List.mem_append_right _ h))) hown hK hP 0 rfl rfl 0 (by decide) (hts _ (List.mem_of_getElem? (i := 1) rfl)) (fun _ h9 => h9) rfl dX2_write_1 ?_
  obtain ⟨z1, e2, hJ⟩ := bnd hJ
  refine roVi (As := []) (rest := []) (ci := 1) (q0 := 0) hx hb hml hown hts (c_X1_widthOfCodes fu l dC dI kI b (e_d ee) z1 e2) gX2_write_X1_widthOfCodes qX1_widthOfCodes rfl ⟨Nat.le_of_ble_eq_true rfl, Nat.le_of_ble_eq_true rfl⟩ ⟨rfl, rfl⟩ hNW hK hP hS (hP.sub (ws' := DWc b kI (e_d ee)) [4, 5, 6, 7, 8, 9] rfl) hK rfl rfl rfl hl.1 rfl rfl (Nat.le_of_ble_eq_true rfl) dX2_write_4 z0 (fun H locs hP hS => ?_)
  refine lv_istore_n (lv' := [(2, .int z1), (0, .ref (a 0)), (1, .int p0)]) hx hb dX2_write_7 rfl hl (by decide) rfl (fun ls hl => ?_)
  refine lv_aload_n hx hb dX2_write_8 rfl (lv_at hl 1 rfl) ?_
  refine va_get (D := (dC, dI)) (ci := 2) (v := .ref (a 2)) (C := RX2) (T := TX2) (N := 14) hx hb hts (fun _ h => List.mem_cons_of_mem _ (List.mem_append_left _ (List.mem_append_right _ h))) hown hK hP 0 rfl rfl 6 (by decide) (hts _ (List.mem_of_getElem? (i := 2) rfl)) (fun _ h9 => h9) rfl dX2_write_9 ?_
  refine lv_aload_n hx hb dX2_write_12 rfl (lv_at hl 1 rfl) ?_
  refine va_get (D := (dC, dI)) (ci := 2) (v := .int (e_writtenLength ee)) (C := RX2) (T := TX2) (N := 14) hx hb hts (fun _ h => List.mem_cons_of_mem _ (List.mem_append_left _ (List.mem_append_right _ h))) hown hK hP 0 rfl rfl 8 (by decide) (hts _ (List.mem_of_getElem? (i := 3) rfl)) (fun _ h9 => h9) rfl dX2_write_13 ?_
  refine lv_iload_n hx hb dX2_write_16 rfl (lv_at hl 2 rfl) ?_
  obtain ⟨z3, e4, hJ⟩ := bnd hJ
  refine rwSNv (As := [.ref (a 2), .int (e_writtenLength ee), .int p0]) (rest := []) (wc := AWc (a 2) kI 800 (e_written ee)) (wc' := AWc (a 2) kI 800 z3) (ws' := EWc a b kI (mkE (e_d ee) (e_policy ee) (e_limit ee) (e_phrase ee) (e_encoded ee) (e_encodedLength ee) z3 (e_widths ee) (e_writtenLength ee) (e_bits ee) (e_clears ee) (e_recentCodes ee) (e_recentSymbols ee) (e_recentBits ee))) hx hb hml hown hts (c_X7_put l dC dI kI (a 2) 800 (e_written ee) (e_writtenLength ee) p0 H.size z3 e4) gX2_write_X7_put_n84 qX7_put rfl ⟨Nat.le_of_ble_eq_true rfl, Nat.le_of_ble_eq_true rfl⟩ (hNW.use0 (i := 58) rfl) (hts _ (List.mem_of_getElem? (i := 13) rfl)) (hts _ (List.mem_of_getElem? (i := 15) rfl)) ⟨rfl, rfl⟩ hNW hK hP hD hS hA [2] [0, 1, 3, 4, 5, 6, 7, 8, 9] rfl rfl (by decide) (by decide) (by decide) [0, 1, 9, 2, 3, 4, 5, 6, 7, 8] rfl (by decide) hK hl.1 rfl rfl (Nat.le_of_ble_eq_true rfl) dX2_write_17 z0 (fun H locs hP hD hS => ?_)
  refine lv_aload_n hx hb dX2_write_20 rfl (lv_at hl 1 rfl) ?_
  refine va_get (D := (dC, dI)) (ci := 2) (v := .ref (a 3)) (C := RX2) (T := TX2) (N := 14) hx hb hts (fun _ h => List.mem_cons_of_mem _ (List.mem_append_left _ (List.mem_append_right _ h))) hown hK hP 0 rfl rfl 7 (by decide) (hts _ (List.mem_of_getElem? (i := 4) rfl)) (fun _ h9 => h9) rfl dX2_write_21 ?_
  refine lv_aload_n hx hb dX2_write_24 rfl (lv_at hl 1 rfl) ?_
  refine va_get (D := (dC, dI)) (ci := 2) (v := .int (e_writtenLength ee)) (C := RX2) (T := TX2) (N := 14) hx hb hts (fun _ h => List.mem_cons_of_mem _ (List.mem_append_left _ (List.mem_append_right _ h))) hown hK hP 0 rfl rfl 8 (by decide) (hts _ (List.mem_of_getElem? (i := 3) rfl)) (fun _ h9 => h9) rfl dX2_write_25 ?_
  refine lv_iload_n hx hb dX2_write_28 rfl (lv_at hl 0 rfl) ?_
  obtain ⟨z5, e6, hJ⟩ := bnd hJ
  refine rwSNv (As := [.ref (a 3), .int (e_writtenLength ee), .int z1]) (rest := []) (wc := AWc (a 3) kI 800 (e_widths ee)) (wc' := AWc (a 3) kI 800 z5) (ws' := EWc a b kI (mkE (e_d ee) (e_policy ee) (e_limit ee) (e_phrase ee) (e_encoded ee) (e_encodedLength ee) z3 z5 (e_writtenLength ee) (e_bits ee) (e_clears ee) (e_recentCodes ee) (e_recentSymbols ee) (e_recentBits ee))) hx hb hml hown hts (c_X7_put l dC dI kI (a 3) 800 (e_widths ee) (e_writtenLength ee) z1 H.size z5 e6) gX2_write_X7_put_n84 qX7_put rfl ⟨Nat.le_of_ble_eq_true rfl, Nat.le_of_ble_eq_true rfl⟩ (hNW.use0 (i := 58) rfl) (hts _ (List.mem_of_getElem? (i := 13) rfl)) (hts _ (List.mem_of_getElem? (i := 15) rfl)) ⟨rfl, rfl⟩ hNW hK hP hD hS hA [3] [0, 1, 2, 4, 5, 6, 7, 8, 9] rfl rfl (by decide) (by decide) (by decide) [0, 1, 2, 9, 3, 4, 5, 6, 7, 8] rfl (by decide) hK hl.1 rfl rfl (Nat.le_of_ble_eq_true rfl) dX2_write_29 z0 (fun H locs hP hD hS => ?_)
  refine lv_aload_n hx hb dX2_write_32 rfl (lv_at hl 1 rfl) ?_
  refine lv_dup hx hb dX2_write_33 rfl ?_
  refine va_get (D := (dC, dI)) (ci := 2) (v := .int (e_writtenLength ee)) (C := RX2) (T := TX2) (N := 14) hx hb hts (fun _ h => List.mem_cons_of_mem _ (List.mem_append_left _ (List.mem_append_right _ h))) hown hK hP 0 rfl rfl 8 (by decide) (hts _ (List.mem_of_getElem? (i := 3) rfl)) (fun _ h9 => h9) rfl dX2_write_34 ?_
  refine lv_iconst (v := 1) hx hb dX2_write_37 (by decide) ?_
  refine lv_iadd hx hb dX2_write_38 ?_
  refine va_put (D := (dC, dI)) (ci := 2) (v := .int ((e_writtenLength ee) + (1 : Int32))) (ty := .int) (C := RX2) (T := TX2) (N := 14) hx hb hts (fun _ h => List.mem_cons_of_mem _ (List.mem_append_left _ (List.mem_append_right _ h))) tyX2 tyX2_ok nmX2 hown hK hP hD hS 0 rfl rfl 8 (by decide) (hts _ (List.mem_of_getElem? (i := 3) rfl)) (fun _ h9 => h9) rfl (by decide +kernel) rfl rfl (Nat.le_of_ble_eq_true rfl) dX2_write_39 (fun H locs hP hD hS => ?_)
  have hP : va_P (dC, dI) vwCl (EWc a b kI (mkE (e_d ee) (e_policy ee) (e_limit ee) (e_phrase ee) (e_encoded ee) (e_encodedLength ee) z3 z5 ((e_writtenLength ee) + (1 : Int32)) (e_bits ee) (e_clears ee) (e_recentCodes ee) (e_recentSymbols ee) (e_recentBits ee))) H := hP
  have hD : va_D A (EWc a b kI (mkE (e_d ee) (e_policy ee) (e_limit ee) (e_phrase ee) (e_encoded ee) (e_encodedLength ee) z3 z5 ((e_writtenLength ee) + (1 : Int32)) (e_bits ee) (e_clears ee) (e_recentCodes ee) (e_recentSymbols ee) (e_recentBits ee))) := hD
  refine lv_aload_n hx hb dX2_write_42 rfl (lv_at hl 1 rfl) ?_
  refine lv_dup hx hb dX2_write_43 rfl ?_
  refine va_get (D := (dC, dI)) (ci := 2) (v := .int (e_bits ee)) (C := RX2) (T := TX2) (N := 14) hx hb hts (fun _ h => List.mem_cons_of_mem _ (List.mem_append_left _ (List.mem_append_right _ h))) hown hK hP 0 rfl rfl 9 (by decide) (hts _ (List.mem_of_getElem? (i := 5) rfl)) (fun _ h9 => h9) rfl dX2_write_44 ?_
  refine lv_iload_n hx hb dX2_write_47 rfl (lv_at hl 0 rfl) ?_
  refine lv_iadd hx hb dX2_write_48 ?_
  refine va_put (D := (dC, dI)) (ci := 2) (v := .int ((e_bits ee) + z1)) (ty := .int) (C := RX2) (T := TX2) (N := 14) hx hb hts (fun _ h => List.mem_cons_of_mem _ (List.mem_append_left _ (List.mem_append_right _ h))) tyX2 tyX2_ok nmX2 hown hK hP hD hS 0 rfl rfl 9 (by decide) (hts _ (List.mem_of_getElem? (i := 5) rfl)) (fun _ h9 => h9) rfl (by decide +kernel) rfl rfl (Nat.le_of_ble_eq_true rfl) dX2_write_49 (fun H locs hP hD hS => ?_)
  have hP : va_P (dC, dI) vwCl (EWc a b kI (mkE (e_d ee) (e_policy ee) (e_limit ee) (e_phrase ee) (e_encoded ee) (e_encodedLength ee) z3 z5 ((e_writtenLength ee) + (1 : Int32)) ((e_bits ee) + z1) (e_clears ee) (e_recentCodes ee) (e_recentSymbols ee) (e_recentBits ee))) H := hP
  have hD : va_D A (EWc a b kI (mkE (e_d ee) (e_policy ee) (e_limit ee) (e_phrase ee) (e_encoded ee) (e_encodedLength ee) z3 z5 ((e_writtenLength ee) + (1 : Int32)) ((e_bits ee) + z1) (e_clears ee) (e_recentCodes ee) (e_recentSymbols ee) (e_recentBits ee))) := hD
  obtain rfl := Option.some.inj hJ
  exact rw_vret hx hb hr hlocks hP hD hS dX2_write_52
theorem qX2_writePhrase : (yX2_writePhrase.cls = RX2) ∧ yX2_writePhrase.cls ≠ "java/lang/invoke/MethodHandle" ∧ yX2_writePhrase.cls ≠ "java/lang/invoke/VarHandle" ∧ (parseMethodDescriptor yX2_writePhrase.desc).map (fun d => d.parameters.length) = some 0 := by decide +kernel
set_option maxHeartbeats 4000000 in
set_option maxRecDepth 100000 in
theorem c_X2_writePhrase (fu : Nat) (l : Launch) (dC : Nat → ClassId) (dI : Nat → Nat → Nat) (kI : ClassId) (a : Nat → Nat) (b : Nat → Nat) (ee : ES) (sz : Nat) (z : ES) (hJ : J_X2_writePhrase fu ee = some z) : Met l yX2_writePhrase wsX2_writePhrase ({ frames := 3, cells := 0, slots := 0, locals := 63 }) (va_Pc [.ref (a 0)] (RWp dC dI sz (EWc a b kI ee) [(kI, .int)])) (rwQv dC dI (va_A (EWc a b kI ee) sz) (EWc a b kI z)) 0 0 (va_A (EWc a b kI ee) sz) := by
  refine rw_start (Qc := fun A => rwQv dC dI A (EWc a b kI z)) (cc := cX2_writePhrase) (maxL := 1) (ret := none) (by decide) rfl (Nat.le_of_ble_eq_true rfl) ?_
  intro p e s m args below meth c hx hb hr hml hown hts hlocks hNW hK A hA H locs ls hP hD hS hl
  have hown : s.vm.findClass RX2 = some m.cls := hown
  have hl : lv_has ls 1 [(0, .ref (a 0))] := hl
  unfold J_X2_writePhrase at hJ
  refine lv_aload_n hx hb dX2_writePhrase_0 rfl (lv_at hl 0 rfl) ?_
  refine lv_dup hx hb dX2_writePhrase_1 rfl ?_
  refine va_get (D := (dC, dI)) (ci := 2) (v := .int (e_recentCodes ee)) (C := RX2) (T := TX2) (N := 14) hx hb hts (fun _ h => List.mem_cons_of_mem _ (List.mem_append_left _ (List.mem_append_right _ h))) hown hK hP 0 rfl rfl 11 (by decide) (hts _ (List.mem_of_getElem? (i := 1) rfl)) (fun _ h9 => h9) rfl dX2_writePhrase_2 ?_
  refine lv_iconst (v := 1) hx hb dX2_writePhrase_5 (by decide) ?_
  refine lv_iadd hx hb dX2_writePhrase_6 ?_
  refine va_put (D := (dC, dI)) (ci := 2) (v := .int ((e_recentCodes ee) + (1 : Int32))) (ty := .int) (C := RX2) (T := TX2) (N := 14) hx hb hts (fun _ h => List.mem_cons_of_mem _ (List.mem_append_left _ (List.mem_append_right _ h))) tyX2 tyX2_ok nmX2 hown hK hP hD hS 0 rfl rfl 11 (by decide) (hts _ (List.mem_of_getElem? (i := 1) rfl)) (fun _ h9 => h9) rfl (by decide +kernel) rfl rfl (Nat.le_of_ble_eq_true rfl) dX2_writePhrase_7 (fun H locs hP hD hS => ?_)
  have hP : va_P (dC, dI) vwCl (EWc a b kI (mkE (e_d ee) (e_policy ee) (e_limit ee) (e_phrase ee) (e_encoded ee) (e_encodedLength ee) (e_written ee) (e_widths ee) (e_writtenLength ee) (e_bits ee) (e_clears ee) ((e_recentCodes ee) + (1 : Int32)) (e_recentSymbols ee) (e_recentBits ee))) H := hP
  have hD : va_D A (EWc a b kI (mkE (e_d ee) (e_policy ee) (e_limit ee) (e_phrase ee) (e_encoded ee) (e_encodedLength ee) (e_written ee) (e_widths ee) (e_writtenLength ee) (e_bits ee) (e_clears ee) ((e_recentCodes ee) + (1 : Int32)) (e_recentSymbols ee) (e_recentBits ee))) := hD
  refine lv_aload_n hx hb dX2_writePhrase_10 rfl (lv_at hl 0 rfl) ?_
  refine lv_dup hx hb dX2_writePhrase_11 rfl ?_
  refine va_get (D := (dC, dI)) (ci := 2) (v := .int (e_recentSymbols ee)) (C := RX2) (T := TX2) (N := 14) hx hb hts (fun _ h => List.mem_cons_of_mem _ (List.mem_append_left _ (List.mem_append_right _ h))) hown hK hP 0 rfl rfl 12 (by decide) (hts _ (List.mem_of_getElem? (i := 2) rfl)) (fun _ h9 => h9) rfl dX2_writePhrase_12 ?_
  refine lv_aload_n hx hb dX2_writePhrase_15 rfl (lv_at hl 0 rfl) ?_
  refine va_get (D := (dC, dI)) (ci := 2) (v := .ref (b 0)) (C := RX2) (T := TX2) (N := 14) hx hb hts (fun _ h => List.mem_cons_of_mem _ (List.mem_append_left _ (List.mem_append_right _ h))) hown hK hP 0 rfl rfl 0 (by decide) (hts _ (List.mem_of_getElem? (i := 3) rfl)) (fun _ h9 => h9) rfl dX2_writePhrase_16 ?_
  refine lv_aload_n hx hb dX2_writePhrase_19 rfl (lv_at hl 0 rfl) ?_
  refine va_get (D := (dC, dI)) (ci := 2) (v := .int (e_phrase ee)) (C := RX2) (T := TX2) (N := 14) hx hb hts (fun _ h => List.mem_cons_of_mem _ (List.mem_append_left _ (List.mem_append_right _ h))) hown hK hP 0 rfl rfl 3 (by decide) (hts _ (List.mem_of_getElem? (i := 4) rfl)) (fun _ h9 => h9) rfl dX2_writePhrase_20 ?_
  obtain ⟨z1, e2, hJ⟩ := bnd hJ
  refine roVi (As := [.int (e_phrase ee)]) (rest := [.int (e_recentSymbols ee), .ref (a 0)]) (ci := 1) (q0 := 0) hx hb hml hown hts (c_X1_lengthOf l dC dI kI b (e_d ee) (e_phrase ee) z1 e2) gX2_writePhrase_X1_lengthOf qX1_lengthOf rfl ⟨Nat.le_of_ble_eq_true rfl, Nat.le_of_ble_eq_true rfl⟩ ⟨rfl, rfl⟩ hNW hK hP hS (hP.sub (ws' := DWc b kI (e_d ee)) [4, 5, 6, 7, 8, 9] rfl) hK rfl rfl rfl hl.1 rfl rfl (Nat.le_of_ble_eq_true rfl) dX2_writePhrase_23 z0 (fun H locs hP hS => ?_)
  refine lv_iadd hx hb dX2_writePhrase_26 ?_
  refine va_put (D := (dC, dI)) (ci := 2) (v := .int ((e_recentSymbols ee) + z1)) (ty := .int) (C := RX2) (T := TX2) (N := 14) hx hb hts (fun _ h => List.mem_cons_of_mem _ (List.mem_append_left _ (List.mem_append_right _ h))) tyX2 tyX2_ok nmX2 hown hK hP hD hS 0 rfl rfl 12 (by decide) (hts _ (List.mem_of_getElem? (i := 2) rfl)) (fun _ h9 => h9) rfl (by decide +kernel) rfl rfl (Nat.le_of_ble_eq_true rfl) dX2_writePhrase_27 (fun H locs hP hD hS => ?_)
  have hP : va_P (dC, dI) vwCl (EWc a b kI (mkE (e_d ee) (e_policy ee) (e_limit ee) (e_phrase ee) (e_encoded ee) (e_encodedLength ee) (e_written ee) (e_widths ee) (e_writtenLength ee) (e_bits ee) (e_clears ee) ((e_recentCodes ee) + (1 : Int32)) ((e_recentSymbols ee) + z1) (e_recentBits ee))) H := hP
  have hD : va_D A (EWc a b kI (mkE (e_d ee) (e_policy ee) (e_limit ee) (e_phrase ee) (e_encoded ee) (e_encodedLength ee) (e_written ee) (e_widths ee) (e_writtenLength ee) (e_bits ee) (e_clears ee) ((e_recentCodes ee) + (1 : Int32)) ((e_recentSymbols ee) + z1) (e_recentBits ee))) := hD
  refine lv_aload_n hx hb dX2_writePhrase_30 rfl (lv_at hl 0 rfl) ?_
  refine lv_dup hx hb dX2_writePhrase_31 rfl ?_
  refine va_get (D := (dC, dI)) (ci := 2) (v := .int (e_recentBits ee)) (C := RX2) (T := TX2) (N := 14) hx hb hts (fun _ h => List.mem_cons_of_mem _ (List.mem_append_left _ (List.mem_append_right _ h))) hown hK hP 0 rfl rfl 13 (by decide) (hts _ (List.mem_of_getElem? (i := 5) rfl)) (fun _ h9 => h9) rfl dX2_writePhrase_32 ?_
  refine lv_aload_n hx hb dX2_writePhrase_35 rfl (lv_at hl 0 rfl) ?_
  refine va_get (D := (dC, dI)) (ci := 2) (v := .ref (b 0)) (C := RX2) (T := TX2) (N := 14) hx hb hts (fun _ h => List.mem_cons_of_mem _ (List.mem_append_left _ (List.mem_append_right _ h))) hown hK hP 0 rfl rfl 0 (by decide) (hts _ (List.mem_of_getElem? (i := 3) rfl)) (fun _ h9 => h9) rfl dX2_writePhrase_36 ?_
  obtain ⟨z3, e4, hJ⟩ := bnd hJ
  refine roVi (As := []) (rest := [.int (e_recentBits ee), .ref (a 0)]) (ci := 1) (q0 := 0) hx hb hml hown hts (c_X1_widthOfCodes fu l dC dI kI b (e_d ee) z3 e4) gX2_writePhrase_X1_widthOfCodes qX1_widthOfCodes rfl ⟨Nat.le_of_ble_eq_true rfl, Nat.le_of_ble_eq_true rfl⟩ ⟨rfl, rfl⟩ hNW hK hP hS (hP.sub (ws' := DWc b kI (e_d ee)) [4, 5, 6, 7, 8, 9] rfl) hK rfl rfl rfl hl.1 rfl rfl (Nat.le_of_ble_eq_true rfl) dX2_writePhrase_39 z0 (fun H locs hP hS => ?_)
  refine lv_iadd hx hb dX2_writePhrase_42 ?_
  refine va_put (D := (dC, dI)) (ci := 2) (v := .int ((e_recentBits ee) + z3)) (ty := .int) (C := RX2) (T := TX2) (N := 14) hx hb hts (fun _ h => List.mem_cons_of_mem _ (List.mem_append_left _ (List.mem_append_right _ h))) tyX2 tyX2_ok nmX2 hown hK hP hD hS 0 rfl rfl 13 (by decide) (hts _ (List.mem_of_getElem? (i := 5) rfl)) (fun _ h9 => h9) rfl (by decide +kernel) rfl rfl (Nat.le_of_ble_eq_true rfl) dX2_writePhrase_43 (fun H locs hP hD hS => ?_)
  have hP : va_P (dC, dI) vwCl (EWc a b kI (mkE (e_d ee) (e_policy ee) (e_limit ee) (e_phrase ee) (e_encoded ee) (e_encodedLength ee) (e_written ee) (e_widths ee) (e_writtenLength ee) (e_bits ee) (e_clears ee) ((e_recentCodes ee) + (1 : Int32)) ((e_recentSymbols ee) + z1) ((e_recentBits ee) + z3))) H := hP
  have hD : va_D A (EWc a b kI (mkE (e_d ee) (e_policy ee) (e_limit ee) (e_phrase ee) (e_encoded ee) (e_encodedLength ee) (e_written ee) (e_widths ee) (e_writtenLength ee) (e_bits ee) (e_clears ee) ((e_recentCodes ee) + (1 : Int32)) ((e_recentSymbols ee) + z1) ((e_recentBits ee) + z3))) := hD
  refine lv_aload_n hx hb dX2_writePhrase_46 rfl (lv_at hl 0 rfl) ?_
  refine lv_aload_n hx hb dX2_writePhrase_47 rfl (lv_at hl 0 rfl) ?_
  refine va_get (D := (dC, dI)) (ci := 2) (v := .int (e_phrase ee)) (C := RX2) (T := TX2) (N := 14) hx hb hts (fun _ h => List.mem_cons_of_mem _ (List.mem_append_left _ (List.mem_append_right _ h))) hown hK hP 0 rfl rfl 3 (by decide) (hts _ (List.mem_of_getElem? (i := 4) rfl)) (fun _ h9 => h9) rfl dX2_writePhrase_48 ?_
  obtain ⟨z5, e6, hJ⟩ := bnd hJ
  refine rwVvW (As := [.int (e_phrase ee)]) (rest := []) (ci := 2) (q0 := 0) hx hb hml hown hts (c_X2_write fu l dC dI kI a b (mkE (e_d ee) (e_policy ee) (e_limit ee) (e_phrase ee) (e_encoded ee) (e_encodedLength ee) (e_written ee) (e_widths ee) (e_writtenLength ee) (e_bits ee) (e_clears ee) ((e_recentCodes ee) + (1 : Int32)) ((e_recentSymbols ee) + z1) ((e_recentBits ee) + z3)) (e_phrase ee) H.size z5 e6) gX2_writePhrase_X2_write qX2_write rfl ⟨Nat.le_of_ble_eq_true rfl, Nat.le_of_ble_eq_true rfl⟩ ⟨rfl, rfl⟩ hNW hK hP hD hS hA hK rfl rfl rfl hl.1 rfl rfl (Nat.le_of_ble_eq_true rfl) dX2_writePhrase_51 z0 (fun H locs hP hD hS => ?_)
  obtain rfl := Option.some.inj hJ
  exact rw_vret hx hb hr hlocks hP hD hS dX2_writePhrase_54
theorem qX2_writeClear : (yX2_writeClear.cls = RX2) ∧ yX2_writeClear.cls ≠ "java/lang/invoke/MethodHandle" ∧ yX2_writeClear.cls ≠ "java/lang/invoke/VarHandle" ∧ (parseMethodDescriptor yX2_writeClear.desc).map (fun d => d.parameters.length) = some 0 := by decide +kernel
set_option maxHeartbeats 4000000 in
set_option maxRecDepth 100000 in
theorem c_X2_writeClear (fu : Nat) (l : Launch) (dC : Nat → ClassId) (dI : Nat → Nat → Nat) (kI : ClassId) (a : Nat → Nat) (b : Nat → Nat) (ee : ES) (sz : Nat) (z : ES) (hJ : J_X2_writeClear fu ee = some z) : Met l yX2_writeClear wsX2_writeClear ({ frames := 3, cells := 0, slots := 0, locals := 63 }) (va_Pc [.ref (a 0)] (RWp dC dI sz (EWc a b kI ee) [(kI, .int)])) (rwQv dC dI (va_A (EWc a b kI ee) sz) (EWc a b kI z)) 0 0 (va_A (EWc a b kI ee) sz) := by
  refine rw_start (Qc := fun A => rwQv dC dI A (EWc a b kI z)) (cc := cX2_writeClear) (maxL := 1) (ret := none) (by decide) rfl (Nat.le_of_ble_eq_true rfl) ?_
  intro p e s m args below meth c hx hb hr hml hown hts hlocks hNW hK A hA H locs ls hP hD hS hl
  have hown : s.vm.findClass RX2 = some m.cls := hown
  have hl : lv_has ls 1 [(0, .ref (a 0))] := hl
  unfold J_X2_writeClear at hJ
  refine lv_aload_n hx hb dX2_writeClear_0 rfl (lv_at hl 0 rfl) ?_
  refine lv_aload_n hx hb dX2_writeClear_1 rfl (lv_at hl 0 rfl) ?_
  refine va_get (D := (dC, dI)) (ci := 2) (v := .ref (b 0)) (C := RX2) (T := TX2) (N := 14) hx hb hts (fun _ h => List.mem_cons_of_mem _ (List.mem_append_left _ (List.mem_append_right _ h))) hown hK hP 0 rfl rfl 0 (by decide) (hts _ (List.mem_of_getElem? (i := 1) rfl)) (fun _ h9 => h9) rfl dX2_writeClear_2 ?_
  refine va_getN (D := (dC, dI)) (ci := 1) (v := .int (d_alphabet (e_d ee))) (C := RX1) (T := TX1) (N := 8) hx hb hts (fun _ h => List.mem_cons_of_mem _ (List.mem_append_right _ h)) hown hK hP 4 rfl rfl 5 (by decide) (hNW.use (i := 3) rfl) (fun _ h9 => h9) rfl dX2_writeClear_5 ?_
  obtain ⟨z1, e2, hJ⟩ := bnd hJ
  refine rwVvW (As := [.int (d_alphabet (e_d ee))]) (rest := []) (ci := 2) (q0 := 0) hx hb hml hown hts (c_X2_write fu l dC dI kI a b ee (d_alphabet (e_d ee)) H.size z1 e2) gX2_writeClear_X2_write qX2_write rfl ⟨Nat.le_of_ble_eq_true rfl, Nat.le_of_ble_eq_true rfl⟩ ⟨rfl, rfl⟩ hNW hK hP hD hS hA hK rfl rfl rfl hl.1 rfl rfl (Nat.le_of_ble_eq_true rfl) dX2_writeClear_8 z0 (fun H locs hP hD hS => ?_)
  refine lv_aload_n hx hb dX2_writeClear_11 rfl (lv_at hl 0 rfl) ?_
  refine lv_dup hx hb dX2_writeClear_12 rfl ?_
  refine va_get (D := (dC, dI)) (ci := 2) (v := .int (e_clears z1)) (C := RX2) (T := TX2) (N := 14) hx hb hts (fun _ h => List.mem_cons_of_mem _ (List.mem_append_left _ (List.mem_append_right _ h))) hown hK hP 0 rfl rfl 10 (by decide) (hts _ (List.mem_of_getElem? (i := 2) rfl)) (fun _ h9 => h9) rfl dX2_writeClear_13 ?_
  refine lv_iconst (v := 1) hx hb dX2_writeClear_16 (by decide) ?_
  refine lv_iadd hx hb dX2_writeClear_17 ?_
  refine va_put (D := (dC, dI)) (ci := 2) (v := .int ((e_clears z1) + (1 : Int32))) (ty := .int) (C := RX2) (T := TX2) (N := 14) hx hb hts (fun _ h => List.mem_cons_of_mem _ (List.mem_append_left _ (List.mem_append_right _ h))) tyX2 tyX2_ok nmX2 hown hK hP hD hS 0 rfl rfl 10 (by decide) (hts _ (List.mem_of_getElem? (i := 2) rfl)) (fun _ h9 => h9) rfl (by decide +kernel) rfl rfl (Nat.le_of_ble_eq_true rfl) dX2_writeClear_18 (fun H locs hP hD hS => ?_)
  have hP : va_P (dC, dI) vwCl (EWc a b kI (mkE (e_d z1) (e_policy z1) (e_limit z1) (e_phrase z1) (e_encoded z1) (e_encodedLength z1) (e_written z1) (e_widths z1) (e_writtenLength z1) (e_bits z1) ((e_clears z1) + (1 : Int32)) (e_recentCodes z1) (e_recentSymbols z1) (e_recentBits z1))) H := hP
  have hD : va_D A (EWc a b kI (mkE (e_d z1) (e_policy z1) (e_limit z1) (e_phrase z1) (e_encoded z1) (e_encodedLength z1) (e_written z1) (e_widths z1) (e_writtenLength z1) (e_bits z1) ((e_clears z1) + (1 : Int32)) (e_recentCodes z1) (e_recentSymbols z1) (e_recentBits z1))) := hD
  refine lv_aload_n hx hb dX2_writeClear_21 rfl (lv_at hl 0 rfl) ?_
  obtain ⟨z3, e4, hJ⟩ := bnd hJ
  refine rwVvW (As := []) (rest := []) (ci := 2) (q0 := 0) hx hb hml hown hts (c_X2_forgetRecent l dC dI kI a b (mkE (e_d z1) (e_policy z1) (e_limit z1) (e_phrase z1) (e_encoded z1) (e_encodedLength z1) (e_written z1) (e_widths z1) (e_writtenLength z1) (e_bits z1) ((e_clears z1) + (1 : Int32)) (e_recentCodes z1) (e_recentSymbols z1) (e_recentBits z1)) H.size z3 e4) gX2_writeClear_X2_forgetRecent qX2_forgetRecent rfl ⟨Nat.le_of_ble_eq_true rfl, Nat.le_of_ble_eq_true rfl⟩ ⟨rfl, rfl⟩ hNW hK hP hD hS hA hK rfl rfl rfl hl.1 rfl rfl (Nat.le_of_ble_eq_true rfl) dX2_writeClear_22 z0 (fun H locs hP hD hS => ?_)
  refine lv_aload_n hx hb dX2_writeClear_25 rfl (lv_at hl 0 rfl) ?_
  refine va_get (D := (dC, dI)) (ci := 2) (v := .ref (b 0)) (C := RX2) (T := TX2) (N := 14) hx hb hts (fun _ h => List.mem_cons_of_mem _ (List.mem_append_left _ (List.mem_append_right _ h))) hown hK hP 0 rfl rfl 0 (by decide) (hts _ (List.mem_of_getElem? (i := 1) rfl)) (fun _ h9 => h9) rfl dX2_writeClear_26 ?_
  obtain ⟨z5, e6, hJ⟩ := bnd hJ
  refine rwVv (As := []) (rest := []) (wc := DWc b kI (e_d z3)) (wc' := DWc b kI z5) (ws' := EWc a b kI (mkE z5 (e_policy z3) (e_limit z3) (e_phrase z3) (e_encoded z3) (e_encodedLength z3) (e_written z3) (e_widths z3) (e_writtenLength z3) (e_bits z3) (e_clears z3) (e_recentCodes z3) (e_recentSymbols z3) (e_recentBits z3))) (ci := 1) (q0 := 0) hx hb hml hown hts (c_X1_keepFirstCodes fu l dC dI kI b (e_d z3) H.size z5 e6) gX2_writeClear_X1_keepFirstCodes qX1_keepFirstCodes rfl ⟨Nat.le_of_ble_eq_true rfl, Nat.le_of_ble_eq_true rfl⟩ ⟨rfl, rfl⟩ hNW hK hP hD hS hA [4, 5, 6, 7, 8, 9] [0, 1, 2, 3] rfl rfl (by decide) (by decide) (by decide) [0, 1, 2, 3, 4, 5, 6, 7, 8, 9] rfl (by decide) hK rfl rfl rfl hl.1 rfl rfl (Nat.le_of_ble_eq_true rfl) dX2_writeClear_29 z0 (fun H locs hP hD hS => ?_)
  obtain rfl := Option.some.inj hJ
  exact rw_vret hx hb hr hlocks hP hD hS dX2_writeClear_32
theorem qX1_addLonger : (yX1_addLonger.cls = RX1) ∧ yX1_addLonger.cls ≠ "java/lang/invoke/MethodHandle" ∧ yX1_addLonger.cls ≠ "java/lang/invoke/VarHandle" ∧ (parseMethodDescriptor yX1_addLonger.desc).map (fun d => d.parameters.length) = some 2 := by decide +kernel
set_option maxHeartbeats 4000000 in
set_option maxRecDepth 100000 in
theorem c_X1_addLonger (l : Launch) (dC : Nat → ClassId) (dI : Nat → Nat → Nat) (kI : ClassId) (b : Nat → Nat) (d : DS) (p0 : Int32) (p1 : Int32) (sz : Nat) (z : Int32 × DS) (hJ : J_X1_addLonger d p0 p1 = some z) : Met l yX1_addLonger wsX1_addLonger ({ frames := 2, cells := 0, slots := 0, locals := 42 }) (va_Pc [.ref (b 0), .int p0, .int p1] (RWp dC dI sz (DWc b kI d) [(kI, .int)])) (rwQi dC dI (va_A (DWc b kI d) sz) (DWc b kI z.2) z.1) 0 0 (va_A (DWc b kI d) sz) := by
  refine rw_start (Qc := fun A => rwQi dC dI A (DWc b kI z.2) z.1) (cc := cX1_addLonger) (maxL := 4) (ret := (some .int)) (by decide) rfl (Nat.le_of_ble_eq_true rfl) ?_
  intro p e s m args below meth c hx hb hr hml hown hts hlocks hNW hK A hA H locs ls hP hD hS hl
  have hown : s.vm.findClass RX1 = some m.cls := hown
  have hl : lv_has ls 4 [(0, .ref (b 0)), (1, .int p0), (2, .int p1)] := hl
  unfold J_X1_addLonger at hJ
  refine lv_aload_n hx hb dX1_addLonger_0 rfl (lv_at hl 0 rfl) ?_
  refine va_get (D := (dC, dI)) (ci := 1) (v := .int (d_count d)) (C := RX1) (T := TX1) (N := 8) hx hb hts (fun _ h => List.mem_cons_of_mem _ (List.mem_append_right _ h)) hown hK hP 0 rfl rfl 7 (by decide) (hts _ (List.mem_of_getElem? (i := 1) rfl)) (fun _ h9 => h9) rfl dX1_addLonger_1 ?_
  refine lv_istore_n (lv' := [(3, .int (d_count d)), (0, .ref (b 0)), (1, .int p0), (2, .int p1)]) hx hb dX1_addLonger_4 rfl hl (by decide) rfl (fun ls hl => ?_)
  refine lv_aload_n hx hb dX1_addLonger_5 rfl (lv_at hl 1 rfl) ?_
  refine lv_iload_n hx hb dX1_addLonger_6 rfl (lv_at hl 0 rfl) ?_
  refine lv_iload_n hx hb dX1_addLonger_7 rfl (lv_at hl 2 rfl) ?_
  refine lv_iload_n hx hb dX1_addLonger_8 rfl (lv_at hl 3 rfl) ?_
  refine lv_aload_n hx hb dX1_addLonger_9 rfl (lv_at hl 1 rfl) ?_
  refine lv_iload_n hx hb dX1_addLonger_10 rfl (lv_at hl 2 rfl) ?_
  obtain ⟨z1, e2, hJ⟩ := bnd hJ
  refine roVi (As := [.int p0]) (rest := [.int p1, .int p0, .int (d_count d), .ref (b 0)]) (ci := 1) (q0 := 0) hx hb hml hown hts (c_X1_lengthOf l dC dI kI b d p0 z1 e2) gX1_addLonger_X1_lengthOf qX1_lengthOf rfl ⟨Nat.le_of_ble_eq_true rfl, Nat.le_of_ble_eq_true rfl⟩ ⟨rfl, rfl⟩ hNW hK hP hS hP hK rfl rfl rfl hl.1 rfl rfl (Nat.le_of_ble_eq_true rfl) dX1_addLonger_11 z0 (fun H locs hP hS => ?_)
  refine lv_iconst (v := 1) hx hb dX1_addLonger_14 (by decide) ?_
  refine lv_iadd hx hb dX1_addLonger_15 ?_
  obtain ⟨z3, e4, hJ⟩ := bnd hJ
  refine rwVvW (As := [.int (d_count d), .int p0, .int p1, .int (z1 + (1 : Int32))]) (rest := []) (ci := 1) (q0 := 0) hx hb hml hown hts (c_X1_define l dC dI kI b d (d_count d) p0 p1 (z1 + (1 : Int32)) H.size z3 e4) gX1_addLonger_X1_define qX1_define rfl ⟨Nat.le_of_ble_eq_true rfl, Nat.le_of_ble_eq_true rfl⟩ ⟨rfl, rfl⟩ hNW hK hP hD hS hA hK rfl rfl rfl hl.1 rfl rfl (Nat.le_of_ble_eq_true rfl) dX1_addLonger_16 z0 (fun H locs hP hD hS => ?_)
  refine lv_aload_n hx hb dX1_addLonger_19 rfl (lv_at hl 1 rfl) ?_
  refine va_get (D := (dC, dI)) (ci := 1) (v := .ref (b 5)) (C := RX1) (T := TX1) (N := 8) hx hb hts (fun _ h => List.mem_cons_of_mem _ (List.mem_append_right _ h)) hown hK hP 0 rfl rfl 4 (by decide) (hts _ (List.mem_of_getElem? (i := 2) rfl)) (fun _ h9 => h9) rfl dX1_addLonger_20 ?_
  refine lv_iload_n hx hb dX1_addLonger_23 rfl (lv_at hl 0 rfl) ?_
  refine lv_aload_n hx hb dX1_addLonger_24 rfl (lv_at hl 1 rfl) ?_
  refine va_get (D := (dC, dI)) (ci := 1) (v := .ref (b 4)) (C := RX1) (T := TX1) (N := 8) hx hb hts (fun _ h => List.mem_cons_of_mem _ (List.mem_append_right _ h)) hown hK hP 0 rfl rfl 3 (by decide) (hts _ (List.mem_of_getElem? (i := 3) rfl)) (fun _ h9 => h9) rfl dX1_addLonger_25 ?_
  refine lv_iload_n hx hb dX1_addLonger_28 rfl (lv_at hl 2 rfl) ?_
  obtain ⟨z5, e6, hJ⟩ := bnd hJ
  refine roSNi (As := [.ref (b 4), .int p0]) (rest := [.int (d_count d), .ref (b 5)]) hx hb hml hown hts (c_X7_at l dC dI kI (b 4) 256 (d_newest z3) p0 z5 e6) gX1_addLonger_X7_at_n48 qX7_at rfl ⟨Nat.le_of_ble_eq_true rfl, Nat.le_of_ble_eq_true rfl⟩ (hNW.use0 (i := 56) rfl) (hts _ (List.mem_of_getElem? (i := 11) rfl)) (hts _ (List.mem_of_getElem? (i := 10) rfl)) ⟨rfl, rfl⟩ hNW hK hP hS (hP.sub (ws' := AWc (b 4) kI 256 (d_newest z3)) [4] rfl) hK hl.1 rfl rfl (Nat.le_of_ble_eq_true rfl) dX1_addLonger_29 z0 (fun H locs hP hS => ?_)
  obtain ⟨z7, e8, hJ⟩ := bnd hJ
  refine rwSNv (As := [.ref (b 5), .int (d_count d), .int z5]) (rest := []) (wc := AWc (b 5) kI 256 (d_older z3)) (wc' := AWc (b 5) kI 256 z7) (ws' := DWc b kI (mkD (d_prefix z3) (d_lastSymbol z3) (d_lengths z3) (d_newest z3) z7 (d_alphabet z3) (d_widest z3) (d_count z3))) hx hb hml hown hts (c_X7_put l dC dI kI (b 5) 256 (d_older z3) (d_count d) z5 H.size z7 e8) gX1_addLonger_X7_put_n52 qX7_put rfl ⟨Nat.le_of_ble_eq_true rfl, Nat.le_of_ble_eq_true rfl⟩ (hNW.use0 (i := 60) rfl) (hts _ (List.mem_of_getElem? (i := 11) rfl)) (hts _ (List.mem_of_getElem? (i := 19) rfl)) ⟨rfl, rfl⟩ hNW hK hP hD hS hA [5] [0, 1, 2, 3, 4] rfl rfl (by decide) (by decide) (by decide) [0, 1, 2, 3, 4, 5] rfl (by decide) hK hl.1 rfl rfl (Nat.le_of_ble_eq_true rfl) dX1_addLonger_32 z0 (fun H locs hP hD hS => ?_)
  refine lv_aload_n hx hb dX1_addLonger_35 rfl (lv_at hl 1 rfl) ?_
  refine va_get (D := (dC, dI)) (ci := 1) (v := .ref (b 4)) (C := RX1) (T := TX1) (N := 8) hx hb hts (fun _ h => List.mem_cons_of_mem _ (List.mem_append_right _ h)) hown hK hP 0 rfl rfl 3 (by decide) (hts _ (List.mem_of_getElem? (i := 3) rfl)) (fun _ h9 => h9) rfl dX1_addLonger_36 ?_
  refine lv_iload_n hx hb dX1_addLonger_39 rfl (lv_at hl 2 rfl) ?_
  refine lv_iload_n hx hb dX1_addLonger_40 rfl (lv_at hl 0 rfl) ?_
  obtain ⟨z9, e10, hJ⟩ := bnd hJ
  refine rwSNv (As := [.ref (b 4), .int p0, .int (d_count d)]) (rest := []) (wc := AWc (b 4) kI 256 (d_newest z3)) (wc' := AWc (b 4) kI 256 z9) (ws' := DWc b kI (mkD (d_prefix z3) (d_lastSymbol z3) (d_lengths z3) z9 z7 (d_alphabet z3) (d_widest z3) (d_count z3))) hx hb hml hown hts (c_X7_put l dC dI kI (b 4) 256 (d_newest z3) p0 (d_count d) H.size z9 e10) gX1_addLonger_X7_put_n52 qX7_put rfl ⟨Nat.le_of_ble_eq_true rfl, Nat.le_of_ble_eq_true rfl⟩ (hNW.use0 (i := 60) rfl) (hts _ (List.mem_of_getElem? (i := 11) rfl)) (hts _ (List.mem_of_getElem? (i := 19) rfl)) ⟨rfl, rfl⟩ hNW hK hP hD hS hA [4] [0, 1, 2, 3, 5] rfl rfl (by decide) (by decide) (by decide) [0, 1, 2, 3, 5, 4] rfl (by decide) hK hl.1 rfl rfl (Nat.le_of_ble_eq_true rfl) dX1_addLonger_41 z0 (fun H locs hP hD hS => ?_)
  refine lv_aload_n hx hb dX1_addLonger_44 rfl (lv_at hl 1 rfl) ?_
  refine lv_dup hx hb dX1_addLonger_45 rfl ?_
  refine va_get (D := (dC, dI)) (ci := 1) (v := .int (d_count z3)) (C := RX1) (T := TX1) (N := 8) hx hb hts (fun _ h => List.mem_cons_of_mem _ (List.mem_append_right _ h)) hown hK hP 0 rfl rfl 7 (by decide) (hts _ (List.mem_of_getElem? (i := 1) rfl)) (fun _ h9 => h9) rfl dX1_addLonger_46 ?_
  refine lv_iconst (v := 1) hx hb dX1_addLonger_49 (by decide) ?_
  refine lv_iadd hx hb dX1_addLonger_50 ?_
  refine va_put (D := (dC, dI)) (ci := 1) (v := .int ((d_count z3) + (1 : Int32))) (ty := .int) (C := RX1) (T := TX1) (N := 8) hx hb hts (fun _ h => List.mem_cons_of_mem _ (List.mem_append_right _ h)) tyX1 tyX1_ok nmX1 hown hK hP hD hS 0 rfl rfl 7 (by decide) (hts _ (List.mem_of_getElem? (i := 1) rfl)) (fun _ h9 => h9) rfl (by decide +kernel) rfl rfl (Nat.le_of_ble_eq_true rfl) dX1_addLonger_51 (fun H locs hP hD hS => ?_)
  have hP : va_P (dC, dI) vwCl (DWc b kI (mkD (d_prefix z3) (d_lastSymbol z3) (d_lengths z3) z9 z7 (d_alphabet z3) (d_widest z3) ((d_count z3) + (1 : Int32)))) H := hP
  have hD : va_D A (DWc b kI (mkD (d_prefix z3) (d_lastSymbol z3) (d_lengths z3) z9 z7 (d_alphabet z3) (d_widest z3) ((d_count z3) + (1 : Int32)))) := hD
  refine lv_iload_n hx hb dX1_addLonger_54 rfl (lv_at hl 0 rfl) ?_
  obtain rfl := Option.some.inj hJ
  exact rw_iret hx hb hr hlocks rfl hP hD hS dX1_addLonger_55
theorem qX2_replacePhrase : (yX2_replacePhrase.cls = RX2) ∧ yX2_replacePhrase.cls ≠ "java/lang/invoke/MethodHandle" ∧ yX2_replacePhrase.cls ≠ "java/lang/invoke/VarHandle" ∧ (parseMethodDescriptor yX2_replacePhrase.desc).map (fun d => d.parameters.length) = some 2 := by decide +kernel
set_option maxHeartbeats 4000000 in
set_option maxRecDepth 100000 in
theorem c_X2_replacePhrase (fu : Nat) (l : Launch) (dC : Nat → ClassId) (dI : Nat → Nat → Nat) (kI : ClassId) (a : Nat → Nat) (b : Nat → Nat) (ee : ES) (p0 : Int32) (p1 : Int32) (sz : Nat) (z : ES) (hJ : J_X2_replacePhrase fu ee p0 p1 = some z) : Met l yX2_replacePhrase wsX2_replacePhrase ({ frames := 4, cells := 0, slots := 0, locals := 83 }) (va_Pc [.ref (a 0), .int p0, .int p1] (RWp dC dI sz (EWc a b kI ee) [(kI, .int)])) (rwQv dC dI (va_A (EWc a b kI ee) sz) (EWc a b kI z)) 0 0 (va_A (EWc a b kI ee) sz) := by
  refine rw_start (Qc := fun A => rwQv dC dI A (EWc a b kI z)) (cc := cX2_replacePhrase) (maxL := 3) (ret := none) (by decide) rfl (Nat.le_of_ble_eq_true rfl) ?_
  intro p e s m args below meth c hx hb hr hml hown hts hlocks hNW hK A hA H locs ls hP hD hS hl
  have hown : s.vm.findClass RX2 = some m.cls := hown
  have hl : lv_has ls 3 [(0, .ref (a 0)), (1, .int p0), (2, .int p1)] := hl
  unfold J_X2_replacePhrase at hJ
  have L38 : ∀ (ee : ES) (y1 : Int32) (H : Heap) (locs : List Loc) (ls : Array Slot), va_P (dC, dI) vwCl (EWc a b kI ee) H → va_D A (EWc a b kI ee) → va_S A s.heap H locs → lv_has ls 3 [(0, .ref (a 0)), (1, .int y1)] → J_X2_replacePhrase_b38 fu ee y1 = some z → W p l e ({ frames := 4, cells := 0, slots := 0, locals := 83 }) s m args below meth c H locs 0 0 (MQ below (rwQv dC dI A (EWc a b kI z)) args s 0 0 (A)) (F0 m 38 ls []) := by
    intro ee y1 H locs ls hP hD hS hl hJ
    unfold J_X2_replacePhrase_b38 at hJ
    refine lv_aload_n hx hb dX2_replacePhrase_38 rfl (lv_at hl 0 rfl) ?_
    refine lv_iload_n hx hb dX2_replacePhrase_39 rfl (lv_at hl 1 rfl) ?_
    refine va_put (D := (dC, dI)) (ci := 2) (v := .int y1) (ty := .int) (C := RX2) (T := TX2) (N := 14) hx hb hts (fun _ h => List.mem_cons_of_mem _ (List.mem_append_left _ (List.mem_append_right _ h))) tyX2 tyX2_ok nmX2 hown hK hP hD hS 0 rfl rfl 3 (by decide) (hts _ (List.mem_of_getElem? (i := 2) rfl)) (fun _ h9 => h9) rfl (by decide +kernel) rfl rfl (Nat.le_of_ble_eq_true rfl) dX2_replacePhrase_40 (fun H locs hP hD hS => ?_)
    have hP : va_P (dC, dI) vwCl (EWc a b kI (mkE (e_d ee) (e_policy ee) (e_limit ee) y1 (e_encoded ee) (e_encodedLength ee) (e_written ee) (e_widths ee) (e_writtenLength ee) (e_bits ee) (e_clears ee) (e_recentCodes ee) (e_recentSymbols ee) (e_recentBits ee))) H := hP
    have hD : va_D A (EWc a b kI (mkE (e_d ee) (e_policy ee) (e_limit ee) y1 (e_encoded ee) (e_encodedLength ee) (e_written ee) (e_widths ee) (e_writtenLength ee) (e_bits ee) (e_clears ee) (e_recentCodes ee) (e_recentSymbols ee) (e_recentBits ee))) := hD
    obtain rfl := Option.some.inj hJ
    exact rw_vret hx hb hr hlocks hP hD hS dX2_replacePhrase_43
  refine lv_aload_n hx hb dX2_replacePhrase_0 rfl (lv_at hl 0 rfl) ?_
  obtain ⟨z1, e2, hJ⟩ := bnd hJ
  refine rwVvW (As := []) (rest := []) (ci := 2) (q0 := 0) hx hb hml hown hts (c_X2_writePhrase fu l dC dI kI a b ee H.size z1 e2) gX2_replacePhrase_X2_writePhrase qX2_writePhrase rfl ⟨Nat.le_of_ble_eq_true rfl, Nat.le_of_ble_eq_true rfl⟩ ⟨rfl, rfl⟩ hNW hK hP hD hS hA hK rfl rfl rfl hl.1 rfl rfl (Nat.le_of_ble_eq_true rfl) dX2_replacePhrase_1 z0 (fun H locs hP hD hS => ?_)
  refine lv_iload_n hx hb dX2_replacePhrase_4 rfl (lv_at hl 2 rfl) ?_
  refine lv_if_eq (tgt := 15) hx hb dX2_replacePhrase_5 (by decide) (fun c3 => ?_) (fun c3 => ?_)
  · have hJ := ite_t c3 hJ
    refine lv_aload_n hx hb dX2_replacePhrase_15 rfl (lv_at hl 0 rfl) ?_
    refine va_get (D := (dC, dI)) (ci := 2) (v := .ref (b 0)) (C := RX2) (T := TX2) (N := 14) hx hb hts (fun _ h => List.mem_cons_of_mem _ (List.mem_append_left _ (List.mem_append_right _ h))) hown hK hP 0 rfl rfl 0 (by decide) (hts _ (List.mem_of_getElem? (i := 1) rfl)) (fun _ h9 => h9) rfl dX2_replacePhrase_16 ?_
    obtain ⟨z4, e5, hJ⟩ := bnd hJ
    refine roVi (As := []) (rest := []) (ci := 1) (q0 := 0) hx hb hml hown hts (c_X1_hasNoRoom l dC dI kI b (e_d z1) z4 e5) gX2_replacePhrase_X1_hasNoRoom qX1_hasNoRoom rfl ⟨Nat.le_of_ble_eq_true rfl, Nat.le_of_ble_eq_true rfl⟩ ⟨rfl, rfl⟩ hNW hK hP hS (hP.sub (ws' := DWc b kI (e_d z1)) [4, 5, 6, 7, 8, 9] rfl) hK rfl rfl rfl hl.1 rfl rfl (Nat.le_of_ble_eq_true rfl) dX2_replacePhrase_19 z0 (fun H locs hP hS => ?_)
    refine lv_if_ne (tgt := 38) hx hb dX2_replacePhrase_22 (by decide) (fun c6 => ?_) (fun c6 => ?_)
    · have hJ := ite_f c6 hJ
      exact L38 z1 p0 H locs ls hP hD hS (lv_sub hl [0, 1] rfl) hJ
    · have hJ := ite_t c6 hJ
      refine lv_aload_n hx hb dX2_replacePhrase_25 rfl (lv_at hl 0 rfl) ?_
      refine va_get (D := (dC, dI)) (ci := 2) (v := .ref (b 0)) (C := RX2) (T := TX2) (N := 14) hx hb hts (fun _ h => List.mem_cons_of_mem _ (List.mem_append_left _ (List.mem_append_right _ h))) hown hK hP 0 rfl rfl 0 (by decide) (hts _ (List.mem_of_getElem? (i := 1) rfl)) (fun _ h9 => h9) rfl dX2_replacePhrase_26 ?_
      refine lv_aload_n hx hb dX2_replacePhrase_29 rfl (lv_at hl 0 rfl) ?_
      refine va_get (D := (dC, dI)) (ci := 2) (v := .int (e_phrase z1)) (C := RX2) (T := TX2) (N := 14) hx hb hts (fun _ h => List.mem_cons_of_mem _ (List.mem_append_left _ (List.mem_append_right _ h))) hown hK hP 0 rfl rfl 3 (by decide) (hts _ (List.mem_of_getElem? (i := 2) rfl)) (fun _ h9 => h9) rfl dX2_replacePhrase_30 ?_
      refine lv_iload_n hx hb dX2_replacePhrase_33 rfl (lv_at hl 1 rfl) ?_
      obtain ⟨z7, e8, hJ⟩ := bnd hJ
      refine rwVi (As := [.int (e_phrase z1), .int p0]) (rest := []) (wc := DWc b kI (e_d z1)) (wc' := DWc b kI z7.2) (ws' := EWc a b kI (mkE z7.2 (e_policy z1) (e_limit z1) (e_phrase z1) (e_encoded z1) (e_encodedLength z1) (e_written z1) (e_widths z1) (e_writtenLength z1) (e_bits z1) (e_clears z1) (e_recentCodes z1) (e_recentSymbols z1) (e_recentBits z1))) (ci := 1) (q0 := 0) hx hb hml hown hts (c_X1_addLonger l dC dI kI b (e_d z1) (e_phrase z1) p0 H.size z7 e8) gX2_replacePhrase_X1_addLonger qX1_addLonger rfl ⟨Nat.le_of_ble_eq_true rfl, Nat.le_of_ble_eq_true rfl⟩ ⟨rfl, rfl⟩ hNW hK hP hD hS hA [4, 5, 6, 7, 8, 9] [0, 1, 2, 3] rfl rfl (by decide) (by decide) (by decide) [0, 1, 2, 3, 4, 5, 6, 7, 8, 9] rfl (by decide) hK rfl rfl rfl hl.1 rfl rfl (Nat.le_of_ble_eq_true rfl) dX2_replacePhrase_34 z0 (fun H locs hP hD hS => ?_)
      refine lv_pop hx hb dX2_replacePhrase_37 rfl ?_
      exact L38 (mkE z7.2 (e_policy z1) (e_limit z1) (e_phrase z1) (e_encoded z1) (e_encodedLength z1) (e_written z1) (e_widths z1) (e_writtenLength z1) (e_bits z1) (e_clears z1) (e_recentCodes z1) (e_recentSymbols z1) (e_recentBits z1)) p0 H locs ls hP hD hS (lv_sub hl [0, 1] rfl) hJ
  · have hJ := ite_f c3 hJ
    refine lv_aload_n hx hb dX2_replacePhrase_8 rfl (lv_at hl 0 rfl) ?_
    obtain ⟨z9, e10, hJ⟩ := bnd hJ
    refine rwVvW (As := []) (rest := []) (ci := 2) (q0 := 0) hx hb hml hown hts (c_X2_writeClear fu l dC dI kI a b z1 H.size z9 e10) gX2_replacePhrase_X2_writeClear qX2_writeClear rfl ⟨Nat.le_of_ble_eq_true rfl, Nat.le_of_ble_eq_true rfl⟩ ⟨rfl, rfl⟩ hNW hK hP hD hS hA hK rfl rfl rfl hl.1 rfl rfl (Nat.le_of_ble_eq_true rfl) dX2_replacePhrase_9 z0 (fun H locs hP hD hS => ?_)
    refine lv_goto (tgt := 38) hx hb dX2_replacePhrase_12 (by decide) ?_
    exact L38 z9 p0 H locs ls hP hD hS (lv_sub hl [0, 1] rfl) hJ
theorem qX2_takeSymbol : (yX2_takeSymbol.cls = RX2) ∧ yX2_takeSymbol.cls ≠ "java/lang/invoke/MethodHandle" ∧ yX2_takeSymbol.cls ≠ "java/lang/invoke/VarHandle" ∧ (parseMethodDescriptor yX2_takeSymbol.desc).map (fun d => d.parameters.length) = some 1 := by decide +kernel
set_option maxHeartbeats 4000000 in
set_option maxRecDepth 100000 in
theorem c_X2_takeSymbol (fu : Nat) (l : Launch) (dC : Nat → ClassId) (dI : Nat → Nat → Nat) (kI : ClassId) (a : Nat → Nat) (b : Nat → Nat) (ee : ES) (p0 : Int32) (sz : Nat) (z : Int32 × ES) (hJ : J_X2_takeSymbol fu ee p0 = some z) : Met l yX2_takeSymbol wsX2_takeSymbol ({ frames := 5, cells := 0, slots := 0, locals := 107 }) (va_Pc [.ref (a 0), .int p0] (RWp dC dI sz (EWc a b kI ee) [(kI, .int)])) (rwQi dC dI (va_A (EWc a b kI ee) sz) (EWc a b kI z.2) z.1) 0 0 (va_A (EWc a b kI ee) sz) := by
  refine rw_start (Qc := fun A => rwQi dC dI A (EWc a b kI z.2) z.1) (cc := cX2_takeSymbol) (maxL := 3) (ret := (some .int)) (by decide) rfl (Nat.le_of_ble_eq_true rfl) ?_
  intro p e s m args below meth c hx hb hr hml hown hts hlocks hNW hK A hA H locs ls hP hD hS hl
  have hown : s.vm.findClass RX2 = some m.cls := hown
  have hl : lv_has ls 3 [(0, .ref (a 0)), (1, .int p0)] := hl
  unfold J_X2_takeSymbol at hJ
  have L56 : ∀ (ee : ES) (y1 : Int32) (y2 : Int32) (H : Heap) (locs : List Loc) (ls : Array Slot), va_P (dC, dI) vwCl (EWc a b kI ee) H → va_D A (EWc a b kI ee) → va_S A s.heap H locs → lv_has ls 3 [(0, .ref (a 0)), (1, .int y1), (2, .int y2)] → J_X2_takeSymbol_b56 fu ee y1 y2 = some z → W p l e ({ frames := 5, cells := 0, slots := 0, locals := 107 }) s m args below meth c H locs 0 0 (MQ below (rwQi dC dI A (EWc a b kI z.2) z.1) args s 0 0 (A)) (F0 m 56 ls []) := by
    intro ee y1 y2 H locs ls hP hD hS hl hJ
    unfold J_X2_takeSymbol_b56 at hJ
    refine lv_aload_n hx hb dX2_takeSymbol_56 rfl (lv_at hl 0 rfl) ?_
    refine va_get (D := (dC, dI)) (ci := 2) (v := .ref (a 1)) (C := RX2) (T := TX2) (N := 14) hx hb hts (fun _ h => List.mem_cons_of_mem _ (List.mem_append_left _ (List.mem_append_right _ h))) hown hK hP 0 rfl rfl 4 (by decide) (hts _ (List.mem_of_getElem? (i := 3) rfl)) (fun _ h9 => h9) rfl dX2_takeSymbol_57 ?_
    refine lv_aload_n hx hb dX2_takeSymbol_60 rfl (lv_at hl 0 rfl) ?_
    refine va_get (D := (dC, dI)) (ci := 2) (v := .int (e_encodedLength ee)) (C := RX2) (T := TX2) (N := 14) hx hb hts (fun _ h => List.mem_cons_of_mem _ (List.mem_append_left _ (List.mem_append_right _ h))) hown hK hP 0 rfl rfl 5 (by decide) (hts _ (List.mem_of_getElem? (i := 4) rfl)) (fun _ h9 => h9) rfl dX2_takeSymbol_61 ?_
    refine lv_iload_n hx hb dX2_takeSymbol_64 rfl (lv_at hl 1 rfl) ?_
    obtain ⟨z10, e11, hJ⟩ := bnd hJ
    refine rwSNv (As := [.ref (a 1), .int (e_encodedLength ee), .int y1]) (rest := []) (wc := AWc (a 1) kI 400 (e_encoded ee)) (wc' := AWc (a 1) kI 400 z10) (ws' := EWc a b kI (mkE (e_d ee) (e_policy ee) (e_limit ee) (e_phrase ee) z10 (e_encodedLength ee) (e_written ee) (e_widths ee) (e_writtenLength ee) (e_bits ee) (e_clears ee) (e_recentCodes ee) (e_recentSymbols ee) (e_recentBits ee))) hx hb hml hown hts (c_X7_put l dC dI kI (a 1) 400 (e_encoded ee) (e_encodedLength ee) y1 H.size z10 e11) gX2_takeSymbol_X7_put_n84 qX7_put rfl ⟨Nat.le_of_ble_eq_true rfl, Nat.le_of_ble_eq_true rfl⟩ (hNW.use0 (i := 58) rfl) (hts _ (List.mem_of_getElem? (i := 20) rfl)) (hts _ (List.mem_of_getElem? (i := 76) rfl)) ⟨rfl, rfl⟩ hNW hK hP hD hS hA [1] [0, 2, 3, 4, 5, 6, 7, 8, 9] rfl rfl (by decide) (by decide) (by decide) [0, 9, 1, 2, 3, 4, 5, 6, 7, 8] rfl (by decide) hK hl.1 rfl rfl (Nat.le_of_ble_eq_true rfl) dX2_takeSymbol_65 z0 (fun H locs hP hD hS => ?_)
    refine lv_aload_n hx hb dX2_takeSymbol_68 rfl (lv_at hl 0 rfl) ?_
    refine lv_dup hx hb dX2_takeSymbol_69 rfl ?_
    refine va_get (D := (dC, dI)) (ci := 2) (v := .int (e_encodedLength ee)) (C := RX2) (T := TX2) (N := 14) hx hb hts (fun _ h => List.mem_cons_of_mem _ (List.mem_append_left _ (List.mem_append_right _ h))) hown hK hP 0 rfl rfl 5 (by decide) (hts _ (List.mem_of_getElem? (i := 4) rfl)) (fun _ h9 => h9) rfl dX2_takeSymbol_70 ?_
    refine lv_iconst (v := 1) hx hb dX2_takeSymbol_73 (by decide) ?_
    refine lv_iadd hx hb dX2_takeSymbol_74 ?_
    refine va_put (D := (dC, dI)) (ci := 2) (v := .int ((e_encodedLength ee) + (1 : Int32))) (ty := .int) (C := RX2) (T := TX2) (N := 14) hx hb hts (fun _ h => List.mem_cons_of_mem _ (List.mem_append_left _ (List.mem_append_right _ h))) tyX2 tyX2_ok nmX2 hown hK hP hD hS 0 rfl rfl 5 (by decide) (hts _ (List.mem_of_getElem? (i := 4) rfl)) (fun _ h9 => h9) rfl (by decide +kernel) rfl rfl (Nat.le_of_ble_eq_true rfl) dX2_takeSymbol_75 (fun H locs hP hD hS => ?_)
    have hP : va_P (dC, dI) vwCl (EWc a b kI (mkE (e_d ee) (e_policy ee) (e_limit ee) (e_phrase ee) z10 ((e_encodedLength ee) + (1 : Int32)) (e_written ee) (e_widths ee) (e_writtenLength ee) (e_bits ee) (e_clears ee) (e_recentCodes ee) (e_recentSymbols ee) (e_recentBits ee))) H := hP
    have hD : va_D A (EWc a b kI (mkE (e_d ee) (e_policy ee) (e_limit ee) (e_phrase ee) z10 ((e_encodedLength ee) + (1 : Int32)) (e_written ee) (e_widths ee) (e_writtenLength ee) (e_bits ee) (e_clears ee) (e_recentCodes ee) (e_recentSymbols ee) (e_recentBits ee))) := hD
    refine lv_iload_n hx hb dX2_takeSymbol_78 rfl (lv_at hl 2 rfl) ?_
    obtain rfl := Option.some.inj hJ
    exact rw_iret hx hb hr hlocks rfl hP hD hS dX2_takeSymbol_79
  have L53 : ∀ (ee : ES) (y1 : Int32) (y2 : Int32) (k1 : Int32) (k2 : Int32) (H : Heap) (locs : List Loc) (ls : Array Slot), va_P (dC, dI) vwCl (EWc a b kI ee) H → va_D A (EWc a b kI ee) → va_S A s.heap H locs → lv_has ls 3 [(0, .ref (a 0)), (1, .int y1), (2, .int y2)] → J_X2_takeSymbol_b53 fu ee y1 y2 k1 k2 = some z → W p l e ({ frames := 5, cells := 0, slots := 0, locals := 107 }) s m args below meth c H locs 0 0 (MQ below (rwQi dC dI A (EWc a b kI z.2) z.1) args s 0 0 (A)) (F0 m 53 ls [.int k2, .int k1, .ref (a 0)]) := by
    intro ee y1 y2 k1 k2 H locs ls hP hD hS hl hJ
    unfold J_X2_takeSymbol_b53 at hJ
    obtain ⟨z8, e9, hJ⟩ := bnd hJ
    refine rwVvW (As := [.int k1, .int k2]) (rest := []) (ci := 2) (q0 := 0) hx hb hml hown hts (c_X2_replacePhrase fu l dC dI kI a b ee k1 k2 H.size z8 e9) gX2_takeSymbol_X2_replacePhrase qX2_replacePhrase rfl ⟨Nat.le_of_ble_eq_true rfl, Nat.le_of_ble_eq_true rfl⟩ ⟨rfl, rfl⟩ hNW hK hP hD hS hA hK rfl rfl rfl hl.1 rfl rfl (Nat.le_of_ble_eq_true rfl) dX2_takeSymbol_53 z0 (fun H locs hP hD hS => ?_)
    exact L56 z8 y1 y2 H locs ls hP hD hS (lv_sub hl [0, 1, 2] rfl) hJ
  have L35 : ∀ (ee : ES) (y1 : Int32) (y2 : Int32) (k1 : Int32) (H : Heap) (locs : List Loc) (ls : Array Slot), va_P (dC, dI) vwCl (EWc a b kI ee) H → va_D A (EWc a b kI ee) → va_S A s.heap H locs → lv_has ls 3 [(0, .ref (a 0)), (1, .int y1), (2, .int y2)] → J_X2_takeSymbol_b35 fu ee y1 y2 k1 = some z → W p l e ({ frames := 5, cells := 0, slots := 0, locals := 107 }) s m args below meth c H locs 0 0 (MQ below (rwQi dC dI A (EWc a b kI z.2) z.1) args s 0 0 (A)) (F0 m 35 ls [.int k1, .ref (a 0)]) := by
    intro ee y1 y2 k1 H locs ls hP hD hS hl hJ
    unfold J_X2_takeSymbol_b35 at hJ
    refine va_put (D := (dC, dI)) (ci := 2) (v := .int k1) (ty := .int) (C := RX2) (T := TX2) (N := 14) hx hb hts (fun _ h => List.mem_cons_of_mem _ (List.mem_append_left _ (List.mem_append_right _ h))) tyX2 tyX2_ok nmX2 hown hK hP hD hS 0 rfl rfl 3 (by decide) (hts _ (List.mem_of_getElem? (i := 1) rfl)) (fun _ h9 => h9) rfl (by decide +kernel) rfl rfl (Nat.le_of_ble_eq_true rfl) dX2_takeSymbol_35 (fun H locs hP hD hS => ?_)
    have hP : va_P (dC, dI) vwCl (EWc a b kI (mkE (e_d ee) (e_policy ee) (e_limit ee) k1 (e_encoded ee) (e_encodedLength ee) (e_written ee) (e_widths ee) (e_writtenLength ee) (e_bits ee) (e_clears ee) (e_recentCodes ee) (e_recentSymbols ee) (e_recentBits ee))) H := hP
    have hD : va_D A (EWc a b kI (mkE (e_d ee) (e_policy ee) (e_limit ee) k1 (e_encoded ee) (e_encodedLength ee) (e_written ee) (e_widths ee) (e_writtenLength ee) (e_bits ee) (e_clears ee) (e_recentCodes ee) (e_recentSymbols ee) (e_recentBits ee))) := hD
    refine lv_goto (tgt := 56) hx hb dX2_takeSymbol_38 (by decide) ?_
    exact L56 (mkE (e_d ee) (e_policy ee) (e_limit ee) k1 (e_encoded ee) (e_encodedLength ee) (e_written ee) (e_widths ee) (e_writtenLength ee) (e_bits ee) (e_clears ee) (e_recentCodes ee) (e_recentSymbols ee) (e_recentBits ee)) y1 y2 H locs ls hP hD hS (lv_sub hl [0, 1, 2] rfl) hJ
  refine lv_aload_n hx hb dX2_takeSymbol_0 rfl (lv_at hl 0 rfl) ?_
  refine lv_iload_n hx hb dX2_takeSymbol_1 rfl (lv_at hl 1 rfl) ?_
  obtain ⟨z1, e2, hJ⟩ := bnd hJ
  refine roVi (As := [.int p0]) (rest := []) (ci := 2) (q0 := 0) hx hb hml hown hts (c_X2_codesFor fu l dC dI kI a b ee p0 z1 e2) gX2_takeSymbol_X2_codesFor qX2_codesFor rfl ⟨Nat.le_of_ble_eq_true rfl, Nat.le_of_ble_eq_true rfl⟩ ⟨rfl, rfl⟩ hNW hK hP hS hP hK rfl rfl rfl hl.1 rfl rfl (Nat.le_of_ble_eq_true rfl) dX2_takeSymbol_2 z0 (fun H locs hP hS => ?_)
  refine lv_istore_n (lv' := [(2, .int z1), (0, .ref (a 0)), (1, .int p0)]) hx hb dX2_takeSymbol_5 rfl hl (by decide) rfl (fun ls hl => ?_)
  refine lv_iload_n hx hb dX2_takeSymbol_6 rfl (lv_at hl 0 rfl) ?_
  refine lv_if_ne (tgt := 41) hx hb dX2_takeSymbol_7 (by decide) (fun c3 => ?_) (fun c3 => ?_)
  · have hJ := ite_f c3 hJ
    refine lv_aload_n hx hb dX2_takeSymbol_41 rfl (lv_at hl 1 rfl) ?_
    refine lv_iload_n hx hb dX2_takeSymbol_42 rfl (lv_at hl 2 rfl) ?_
    refine lv_iload_n hx hb dX2_takeSymbol_43 rfl (lv_at hl 0 rfl) ?_
    refine lv_iconst (v := 2) hx hb dX2_takeSymbol_44 (by decide) ?_
    refine lv_icmp_ne (tgt := 52) hx hb dX2_takeSymbol_45 (by decide) (fun c4 => ?_) (fun c4 => ?_)
    · have hJ := ite_f c4 hJ
      refine lv_iconst (v := 0) hx hb dX2_takeSymbol_52 (by decide) ?_
      exact L53 ee p0 z1 p0 (0 : Int32) H locs ls hP hD hS (lv_sub hl [1, 2, 0] rfl) hJ
    · have hJ := ite_t c4 hJ
      refine lv_iconst (v := 1) hx hb dX2_takeSymbol_48 (by decide) ?_
      refine lv_goto (tgt := 53) hx hb dX2_takeSymbol_49 (by decide) ?_
      exact L53 ee p0 z1 p0 (1 : Int32) H locs ls hP hD hS (lv_sub hl [1, 2, 0] rfl) hJ
  · have hJ := ite_t c3 hJ
    refine lv_aload_n hx hb dX2_takeSymbol_10 rfl (lv_at hl 1 rfl) ?_
    refine lv_aload_n hx hb dX2_takeSymbol_11 rfl (lv_at hl 1 rfl) ?_
    refine va_get (D := (dC, dI)) (ci := 2) (v := .int (e_phrase ee)) (C := RX2) (T := TX2) (N := 14) hx hb hts (fun _ h => List.mem_cons_of_mem _ (List.mem_append_left _ (List.mem_append_right _ h))) hown hK hP 0 rfl rfl 3 (by decide) (hts _ (List.mem_of_getElem? (i := 1) rfl)) (fun _ h9 => h9) rfl dX2_takeSymbol_12 ?_
    refine lv_iconst (v := -1) hx hb dX2_takeSymbol_15 (by decide) ?_
    refine lv_icmp_ne (tgt := 23) hx hb dX2_takeSymbol_16 (by decide) (fun c5 => ?_) (fun c5 => ?_)
    · have hJ := ite_f c5 hJ
      refine lv_aload_n hx hb dX2_takeSymbol_23 rfl (lv_at hl 1 rfl) ?_
      refine va_get (D := (dC, dI)) (ci := 2) (v := .ref (b 0)) (C := RX2) (T := TX2) (N := 14) hx hb hts (fun _ h => List.mem_cons_of_mem _ (List.mem_append_left _ (List.mem_append_right _ h))) hown hK hP 0 rfl rfl 0 (by decide) (hts _ (List.mem_of_getElem? (i := 2) rfl)) (fun _ h9 => h9) rfl dX2_takeSymbol_24 ?_
      refine lv_aload_n hx hb dX2_takeSymbol_27 rfl (lv_at hl 1 rfl) ?_
      refine va_get (D := (dC, dI)) (ci := 2) (v := .int (e_phrase ee)) (C := RX2) (T := TX2) (N := 14) hx hb hts (fun _ h => List.mem_cons_of_mem _ (List.mem_append_left _ (List.mem_append_right _ h))) hown hK hP 0 rfl rfl 3 (by decide) (hts _ (List.mem_of_getElem? (i := 1) rfl)) (fun _ h9 => h9) rfl dX2_takeSymbol_28 ?_
      refine lv_iload_n hx hb dX2_takeSymbol_31 rfl (lv_at hl 2 rfl) ?_
      obtain ⟨z6, e7, hJ⟩ := bnd hJ
      refine roVi (As := [.int (e_phrase ee), .int p0]) (rest := [.ref (a 0)]) (ci := 1) (q0 := 0) hx hb hml hown hts (c_X1_longerBy fu l dC dI kI b (e_d ee) (e_phrase ee) p0 z6 e7) gX2_takeSymbol_X1_longerBy qX1_longerBy rfl ⟨Nat.le_of_ble_eq_true rfl, Nat.le_of_ble_eq_true rfl⟩ ⟨rfl, rfl⟩ hNW hK hP hS (hP.sub (ws' := DWc b kI (e_d ee)) [4, 5, 6, 7, 8, 9] rfl) hK rfl rfl rfl hl.1 rfl rfl (Nat.le_of_ble_eq_true rfl) dX2_takeSymbol_32 z0 (fun H locs hP hS => ?_)
      exact L35 ee p0 z1 z6 H locs ls hP hD hS (lv_sub hl [1, 2, 0] rfl) hJ
    · have hJ := ite_t c5 hJ
      refine lv_iload_n hx hb dX2_takeSymbol_19 rfl (lv_at hl 2 rfl) ?_
      refine lv_goto (tgt := 35) hx hb dX2_takeSymbol_20 (by decide) ?_
      exact L35 ee p0 z1 p0 H locs ls hP hD hS (lv_sub hl [1, 2, 0] rfl) hJ
theorem qX0_begin : (yX0_begin.cls = RX0) ∧ yX0_begin.cls ≠ "java/lang/invoke/MethodHandle" ∧ yX0_begin.cls ≠ "java/lang/invoke/VarHandle" ∧ (parseMethodDescriptor yX0_begin.desc).map (fun d => d.parameters.length) = some 1 := by decide +kernel
set_option maxHeartbeats 4000000 in
set_option maxRecDepth 100000 in
theorem c_X0_begin (fu : Nat) (l : Launch) (dC : Nat → ClassId) (dI : Nat → Nat → Nat) (kI : ClassId) (a : Nat → Nat) (b : Nat → Nat) (o : OS) (b0 : Nat → Nat) (d0 : DS) (sz : Nat) (z : OS) (hJ : J_X0_begin fu o d0 = some z) : Met l yX0_begin wsX0_begin ({ frames := 3, cells := 0, slots := 0, locals := 67 }) (va_Pc [.ref (a 0), .ref (b0 0)] (RWp dC dI sz ((OWc a b kI o) ++ (DWc b0 kI d0)) [(kI, .int)])) (rwQv dC dI (va_A ((OWc a b kI o) ++ (DWc b0 kI d0)) sz) ((OWc a b kI z) ++ (DWc b0 kI d0))) 0 0 (va_A ((OWc a b kI o) ++ (DWc b0 kI d0)) sz) := by
  refine rw_start (Qc := fun A => rwQv dC dI A ((OWc a b kI z) ++ (DWc b0 kI d0))) (cc := cX0_begin) (maxL := 2) (ret := none) (by decide) rfl (Nat.le_of_ble_eq_true rfl) ?_
  intro p e s m args below meth c hx hb hr hml hown hts hlocks hNW hK A hA H locs ls hP hD hS hl
  have hown : s.vm.findClass RX0 = some m.cls := hown
  have hl : lv_has ls 2 [(0, .ref (a 0)), (1, .ref (b0 0))] := hl
  unfold J_X0_begin at hJ
  refine lv_aload_n hx hb dX0_begin_0 rfl (lv_at hl 0 rfl) ?_
  refine va_get (D := (dC, dI)) (ci := 0) (v := .ref (b 0)) (C := RX0) (T := TX0) (N := 4) hx hb hts (fun _ h => List.mem_cons_of_mem _ (List.mem_append_left _ (List.mem_append_right _ h))) hown hK hP 0 rfl rfl 0 (by decide) (hts _ (List.mem_of_getElem? (i := 1) rfl)) (fun _ h9 => h9) rfl dX0_begin_1 ?_
  refine lv_aload_n hx hb dX0_begin_4 rfl (lv_at hl 1 rfl) ?_
  refine va_getN (D := (dC, dI)) (ci := 1) (v := .int (d_alphabet d0)) (C := RX1) (T := TX1) (N := 8) hx hb hts (fun _ h => List.mem_cons_of_mem _ (List.mem_append_right _ h)) hown hK hP 8 rfl rfl 5 (by decide) (hNW.use (i := 1) rfl) (fun _ h9 => h9) rfl dX0_begin_5 ?_
  refine lv_aload_n hx hb dX0_begin_8 rfl (lv_at hl 1 rfl) ?_
  refine va_getN (D := (dC, dI)) (ci := 1) (v := .int (d_widest d0)) (C := RX1) (T := TX1) (N := 8) hx hb hts (fun _ h => List.mem_cons_of_mem _ (List.mem_append_right _ h)) hown hK hP 8 rfl rfl 6 (by decide) (hNW.use (i := 5) rfl) (fun _ h9 => h9) rfl dX0_begin_9 ?_
  obtain ⟨z1, e2, hJ⟩ := bnd hJ
  refine rwVv (As := [.int (d_alphabet d0), .int (d_widest d0)]) (rest := []) (wc := DWc b kI (o_d o)) (wc' := DWc b kI z1) (ws' := (OWc a b kI (mkO z1 (o_previous o) (o_symbols o) (o_count o))) ++ (DWc b0 kI d0)) (ci := 1) (q0 := 0) hx hb hml hown hts (c_X1_begin fu l dC dI kI b (o_d o) (d_alphabet d0) (d_widest d0) H.size z1 e2) gX0_begin_X1_begin qX1_begin rfl ⟨Nat.le_of_ble_eq_true rfl, Nat.le_of_ble_eq_true rfl⟩ ⟨rfl, rfl⟩ hNW hK hP hD hS hA [2, 3, 4, 5, 6, 7] [0, 1, 8, 9, 10, 11, 12, 13] rfl rfl (by decide) (by decide) (by decide) [0, 1, 8, 9, 10, 11, 12, 13, 2, 3, 4, 5, 6, 7] rfl (by decide) hK rfl rfl rfl hl.1 rfl rfl (Nat.le_of_ble_eq_true rfl) dX0_begin_12 z0 (fun H locs hP hD hS => ?_)
  refine lv_aload_n hx hb dX0_begin_15 rfl (lv_at hl 0 rfl) ?_
  refine lv_iconst (v := -1) hx hb dX0_begin_16 (by decide) ?_
  refine va_put (D := (dC, dI)) (ci := 0) (v := .int (-1 : Int32)) (ty := .int) (C := RX0) (T := TX0) (N := 4) hx hb hts (fun _ h => List.mem_cons_of_mem _ (List.mem_append_left _ (List.mem_append_right _ h))) tyX0 tyX0_ok nmX0 hown hK hP hD hS 0 rfl rfl 1 (by decide) (hts _ (List.mem_of_getElem? (i := 2) rfl)) (fun _ h9 => h9) rfl (by decide +kernel) rfl rfl (Nat.le_of_ble_eq_true rfl) dX0_begin_17 (fun H locs hP hD hS => ?_)
  have hP : va_P (dC, dI) vwCl ((OWc a b kI (mkO z1 (-1 : Int32) (o_symbols o) (o_count o))) ++ (DWc b0 kI d0)) H := hP
  have hD : va_D A ((OWc a b kI (mkO z1 (-1 : Int32) (o_symbols o) (o_count o))) ++ (DWc b0 kI d0)) := hD
  refine lv_aload_n hx hb dX0_begin_20 rfl (lv_at hl 0 rfl) ?_
  refine lv_iconst (v := 0) hx hb dX0_begin_21 (by decide) ?_
  refine va_put (D := (dC, dI)) (ci := 0) (v := .int (0 : Int32)) (ty := .int) (C := RX0) (T := TX0) (N := 4) hx hb hts (fun _ h => List.mem_cons_of_mem _ (List.mem_append_left _ (List.mem_append_right _ h))) tyX0 tyX0_ok nmX0 hown hK hP hD hS 0 rfl rfl 3 (by decide) (hts _ (List.mem_of_getElem? (i := 3) rfl)) (fun _ h9 => h9) rfl (by decide +kernel) rfl rfl (Nat.le_of_ble_eq_true rfl) dX0_begin_22 (fun H locs hP hD hS => ?_)
  have hP : va_P (dC, dI) vwCl ((OWc a b kI (mkO z1 (-1 : Int32) (o_symbols o) (0 : Int32))) ++ (DWc b0 kI d0)) H := hP
  have hD : va_D A ((OWc a b kI (mkO z1 (-1 : Int32) (o_symbols o) (0 : Int32))) ++ (DWc b0 kI d0)) := hD
  obtain rfl := Option.some.inj hJ
  exact rw_vret hx hb hr hlocks hP hD hS dX0_begin_25
theorem qX1_hasCode : (yX1_hasCode.cls = RX1) ∧ yX1_hasCode.cls ≠ "java/lang/invoke/MethodHandle" ∧ yX1_hasCode.cls ≠ "java/lang/invoke/VarHandle" ∧ (parseMethodDescriptor yX1_hasCode.desc).map (fun d => d.parameters.length) = some 1 := by decide +kernel
set_option maxHeartbeats 4000000 in
set_option maxRecDepth 100000 in
theorem c_X1_hasCode (l : Launch) (dC : Nat → ClassId) (dI : Nat → Nat → Nat) (kI : ClassId) (b : Nat → Nat) (d : DS) (p0 : Int32) (z : Int32) (hJ : J_X1_hasCode d p0 = some z) : Met l yX1_hasCode wsX1_hasCode ({ frames := 0, cells := 0, slots := 0, locals := 0 }) (va_Pc [.ref (b 0), .int p0] (ROp dC dI (DWc b kI d) [(kI, .int)])) (roQi z) 0 0 (fun _ => False) := by
  refine ro_start (cc := cX1_hasCode) (maxL := 2) (ret := (some .boolean)) (by decide) rfl (Nat.le_of_ble_eq_true rfl) ?_
  intro p e s m args below meth c hx hb hr hml hown hts hlocks hNW hK H locs ls hP hS hl
  have hown : s.vm.findClass RX1 = some m.cls := hown
  have hl : lv_has ls 2 [(0, .ref (b 0)), (1, .int p0)] := hl
  unfold J_X1_hasCode at hJ
  refine lv_iload_n hx hb dX1_hasCode_0 rfl (lv_at hl 1 rfl) ?_
  refine lv_if_lt (tgt := 16) hx hb dX1_hasCode_1 (by decide) (fun c1 => ?_) (fun c1 => ?_)
  · have hJ := ite_t c1 hJ
    refine lv_iconst (v := 0) hx hb dX1_hasCode_16 (by decide) ?_
    exact ro_zret hx hb hr hlocks rfl hS hJ dX1_hasCode_17
  · have hJ := ite_f c1 hJ
    refine lv_iload_n hx hb dX1_hasCode_4 rfl (lv_at hl 1 rfl) ?_
    refine lv_aload_n hx hb dX1_hasCode_5 rfl (lv_at hl 0 rfl) ?_
    refine va_get (D := (dC, dI)) (ci := 1) (v := .int (d_count d)) (C := RX1) (T := TX1) (N := 8) hx hb hts (fun _ h => List.mem_cons_of_mem _ (List.mem_append_right _ h)) hown hK hP 0 rfl rfl 7 (by decide) (hts _ (List.mem_of_getElem? (i := 1) rfl)) (fun _ h9 => h9) rfl dX1_hasCode_6 ?_
    refine lv_icmp_ge (tgt := 16) hx hb dX1_hasCode_9 (by decide) (fun c2 => ?_) (fun c2 => ?_)
    · have hJ := ite_t c2 hJ
      refine lv_iconst (v := 0) hx hb dX1_hasCode_16 (by decide) ?_
      exact ro_zret hx hb hr hlocks rfl hS hJ dX1_hasCode_17
    · have hJ := ite_f c2 hJ
      refine lv_iconst (v := 1) hx hb dX1_hasCode_12 (by decide) ?_
      refine lv_goto (tgt := 17) hx hb dX1_hasCode_13 (by decide) ?_
      exact ro_zret hx hb hr hlocks rfl hS hJ dX1_hasCode_17
theorem qX1_symbolOf : (yX1_symbolOf.cls = RX1) ∧ yX1_symbolOf.cls ≠ "java/lang/invoke/MethodHandle" ∧ yX1_symbolOf.cls ≠ "java/lang/invoke/VarHandle" ∧ (parseMethodDescriptor yX1_symbolOf.desc).map (fun d => d.parameters.length) = some 2 := by decide +kernel
set_option maxHeartbeats 4000000 in
set_option maxRecDepth 100000 in
theorem c_X1_symbolOf (fu : Nat) (l : Launch) (dC : Nat → ClassId) (dI : Nat → Nat → Nat) (kI : ClassId) (b : Nat → Nat) (d : DS) (p0 : Int32) (p1 : Int32) (z : Int32) (hJ : J_X1_symbolOf fu d p0 p1 = some z) : Met l yX1_symbolOf wsX1_symbolOf ({ frames := 2, cells := 0, slots := 0, locals := 42 }) (va_Pc [.ref (b 0), .int p0, .int p1] (ROp dC dI (DWc b kI d) [(kI, .int)])) (roQi z) 0 0 (fun _ => False) := by
  refine ro_start (cc := cX1_symbolOf) (maxL := 5) (ret := (some .int)) (by decide) rfl (Nat.le_of_ble_eq_true rfl) ?_
  intro p e s m args below meth c hx hb hr hml hown hts hlocks hNW hK H locs ls hP hS hl
  have hown : s.vm.findClass RX1 = some m.cls := hown
  have hl : lv_has ls 5 [(0, .ref (b 0)), (1, .int p0), (2, .int p1)] := hl
  unfold J_X1_symbolOf at hJ
  have L11 : ∀ (n : Nat) (y2 : Int32) (y3 : Int32) (y4 : Int32) (H : Heap) (locs : List Loc) (ls : Array Slot), va_P (dC, dI) vwCl (DWc b kI d) H → va_S (fun _ => False) s.heap H locs → lv_has ls 5 [(0, .ref (b 0)), (2, .int y2), (3, .int y3), (4, .int y4)] → J_X1_symbolOf_b11 fu d n y2 y3 y4 = some z → W p l e ({ frames := 2, cells := 0, slots := 0, locals := 42 }) s m args below meth c H locs 0 0 (MQ below (roQi z) args s 0 0 (fun _ => False)) (F0 m 11 ls []) := by
    intro n
    induction n with
    | zero =>
      intro y2 y3 y4 H locs ls hP hS hl hJ
      rw [J_X1_symbolOf_b11] at hJ; cases hJ
    | succ n ih =>
      intro y2 y3 y4 H locs ls hP hS hl hJ
      rw [J_X1_symbolOf_b11] at hJ
      refine lv_iload hx hb dX1_symbolOf_11 (lv_at hl 3 rfl) ?_
      refine lv_iload_n hx hb dX1_symbolOf_13 rfl (lv_at hl 1 rfl) ?_
      refine lv_icmp_le (tgt := 32) hx hb dX1_symbolOf_14 (by decide) (fun c3 => ?_) (fun c3 => ?_)
      · have hJ := ite_t c3 hJ
        refine lv_aload_n hx hb dX1_symbolOf_32 rfl (lv_at hl 0 rfl) ?_
        refine va_get (D := (dC, dI)) (ci := 1) (v := .ref (b 2)) (C := RX1) (T := TX1) (N := 8) hx hb hts (fun _ h => List.mem_cons_of_mem _ (List.mem_append_right _ h)) hown hK hP 0 rfl rfl 1 (by decide) (hts _ (List.mem_of_getElem? (i := 2) rfl)) (fun _ h9 => h9) rfl dX1_symbolOf_33 ?_
        refine lv_iload_n hx hb dX1_symbolOf_36 rfl (lv_at hl 2 rfl) ?_
        obtain ⟨z4, e5, hJ⟩ := bnd hJ
        refine roSNi (As := [.ref (b 2), .int y3]) (rest := []) hx hb hml hown hts (c_X7_at l dC dI kI (b 2) 256 (d_lastSymbol d) y3 z4 e5) gX1_symbolOf_X7_at_n48 qX7_at rfl ⟨Nat.le_of_ble_eq_true rfl, Nat.le_of_ble_eq_true rfl⟩ (hNW.use0 (i := 56) rfl) (hts _ (List.mem_of_getElem? (i := 10) rfl)) (hts _ (List.mem_of_getElem? (i := 9) rfl)) ⟨rfl, rfl⟩ hNW hK hP hS (hP.sub (ws' := AWc (b 2) kI 256 (d_lastSymbol d)) [2] rfl) hK hl.1 rfl rfl (Nat.le_of_ble_eq_true rfl) dX1_symbolOf_37 z0 (fun H locs hP hS => ?_)
        exact ro_iret hx hb hr hlocks hS hJ dX1_symbolOf_40
      · have hJ := ite_f c3 hJ
        refine lv_aload_n hx hb dX1_symbolOf_17 rfl (lv_at hl 0 rfl) ?_
        refine va_get (D := (dC, dI)) (ci := 1) (v := .ref (b 1)) (C := RX1) (T := TX1) (N := 8) hx hb hts (fun _ h => List.mem_cons_of_mem _ (List.mem_append_right _ h)) hown hK hP 0 rfl rfl 0 (by decide) (hts _ (List.mem_of_getElem? (i := 1) rfl)) (fun _ h9 => h9) rfl dX1_symbolOf_18 ?_
        refine lv_iload_n hx hb dX1_symbolOf_21 rfl (lv_at hl 2 rfl) ?_
        obtain ⟨z6, e7, hJ⟩ := bnd hJ
        refine roSNi (As := [.ref (b 1), .int y3]) (rest := []) hx hb hml hown hts (c_X7_at l dC dI kI (b 1) 256 (d_prefix d) y3 z6 e7) gX1_symbolOf_X7_at_n48 qX7_at rfl ⟨Nat.le_of_ble_eq_true rfl, Nat.le_of_ble_eq_true rfl⟩ (hNW.use0 (i := 56) rfl) (hts _ (List.mem_of_getElem? (i := 10) rfl)) (hts _ (List.mem_of_getElem? (i := 9) rfl)) ⟨rfl, rfl⟩ hNW hK hP hS (hP.sub (ws' := AWc (b 1) kI 256 (d_prefix d)) [1] rfl) hK hl.1 rfl rfl (Nat.le_of_ble_eq_true rfl) dX1_symbolOf_22 z0 (fun H locs hP hS => ?_)
        refine lv_istore_n (lv' := [(3, .int z6), (0, .ref (b 0)), (2, .int y2), (4, .int y4)]) hx hb dX1_symbolOf_25 rfl hl (by decide) rfl (fun ls hl => ?_)
        refine lv_iinc (v := y4 + (-1)) (lv' := [(4, .int (y4 + (-1))), (3, .int z6), (0, .ref (b 0)), (2, .int y2)]) hx hb dX1_symbolOf_26 hl (k := 3) rfl rfl (by decide) rfl (fun ls hl => ?_)
        refine lv_goto (tgt := 11) hx hb dX1_symbolOf_29 (by decide) ?_
        exact ih y2 z6 (y4 + (-1)) H locs ls hP hS (lv_sub hl [2, 3, 1, 0] rfl) hJ
  refine lv_iload_n hx hb dX1_symbolOf_0 rfl (lv_at hl 1 rfl) ?_
  refine lv_istore_n (lv' := [(3, .int p0), (0, .ref (b 0)), (1, .int p0), (2, .int p1)]) hx hb dX1_symbolOf_1 rfl hl (by decide) rfl (fun ls hl => ?_)
  refine lv_aload_n hx hb dX1_symbolOf_2 rfl (lv_at hl 1 rfl) ?_
  refine lv_iload_n hx hb dX1_symbolOf_3 rfl (lv_at hl 2 rfl) ?_
  obtain ⟨z1, e2, hJ⟩ := bnd hJ
  refine roVi (As := [.int p0]) (rest := []) (ci := 1) (q0 := 0) hx hb hml hown hts (c_X1_lengthOf l dC dI kI b d p0 z1 e2) gX1_symbolOf_X1_lengthOf qX1_lengthOf rfl ⟨Nat.le_of_ble_eq_true rfl, Nat.le_of_ble_eq_true rfl⟩ ⟨rfl, rfl⟩ hNW hK hP hS hP hK rfl rfl rfl hl.1 rfl rfl (Nat.le_of_ble_eq_true rfl) dX1_symbolOf_4 z0 (fun H locs hP hS => ?_)
  refine lv_iconst (v := 1) hx hb dX1_symbolOf_7 (by decide) ?_
  refine lv_isub hx hb dX1_symbolOf_8 ?_
  refine lv_istore (lv' := [(4, .int (z1 - (1 : Int32))), (3, .int p0), (0, .ref (b 0)), (1, .int p0), (2, .int p1)]) hx hb dX1_symbolOf_9 hl (by decide) rfl (fun ls hl => ?_)
  exact L11 fu p1 p0 (z1 - (1 : Int32)) H locs ls hP hS (lv_sub hl [2, 4, 1, 0] rfl) hJ
theorem qX0_learn : (yX0_learn.cls = RX0) ∧ yX0_learn.cls ≠ "java/lang/invoke/MethodHandle" ∧ yX0_learn.cls ≠ "java/lang/invoke/VarHandle" ∧ (parseMethodDescriptor yX0_learn.desc).map (fun d => d.parameters.length) = some 1 := by decide +kernel
set_option maxHeartbeats 4000000 in
set_option maxRecDepth 100000 in
theorem c_X0_learn (fu : Nat) (l : Launch) (dC : Nat → ClassId) (dI : Nat → Nat → Nat) (kI : ClassId) (a : Nat → Nat) (b : Nat → Nat) (o : OS) (p0 : Int32) (sz : Nat) (z : Int32 × OS) (hJ : J_X0_learn fu o p0 = some z) : Met l yX0_learn wsX0_learn ({ frames := 3, cells := 0, slots := 0, locals := 65 }) (va_Pc [.ref (a 0), .int p0] (RWp dC dI sz (OWc a b kI o) [(kI, .int)])) (rwQi dC dI (va_A (OWc a b kI o) sz) (OWc a b kI z.2) z.1) 0 0 (va_A (OWc a b kI o) sz) := by
  refine rw_start (Qc := fun A => rwQi dC dI A (OWc a b kI z.2) z.1) (cc := cX0_learn) (maxL := 3) (ret := (some .int)) (by decide) rfl (Nat.le_of_ble_eq_true rfl) ?_
  intro p e s m args below meth c hx hb hr hml hown hts hlocks hNW hK A hA H locs ls hP hD hS hl
  have hown : s.vm.findClass RX0 = some m.cls := hown
  have hl : lv_has ls 3 [(0, .ref (a 0)), (1, .int p0)] := hl
  unfold J_X0_learn at hJ
  refine lv_aload_n hx hb dX0_learn_0 rfl (lv_at hl 0 rfl) ?_
  refine va_get (D := (dC, dI)) (ci := 0) (v := .int (o_previous o)) (C := RX0) (T := TX0) (N := 4) hx hb hts (fun _ h => List.mem_cons_of_mem _ (List.mem_append_left _ (List.mem_append_right _ h))) hown hK hP 0 rfl rfl 1 (by decide) (hts _ (List.mem_of_getElem? (i := 1) rfl)) (fun _ h9 => h9) rfl dX0_learn_1 ?_
  refine lv_iconst (v := -1) hx hb dX0_learn_4 (by decide) ?_
  refine lv_icmp_ne (tgt := 10) hx hb dX0_learn_5 (by decide) (fun c1 => ?_) (fun c1 => ?_)
  · have hJ := ite_f c1 hJ
    refine lv_aload_n hx hb dX0_learn_10 rfl (lv_at hl 0 rfl) ?_
    refine va_get (D := (dC, dI)) (ci := 0) (v := .ref (b 0)) (C := RX0) (T := TX0) (N := 4) hx hb hts (fun _ h => List.mem_cons_of_mem _ (List.mem_append_left _ (List.mem_append_right _ h))) hown hK hP 0 rfl rfl 0 (by decide) (hts _ (List.mem_of_getElem? (i := 2) rfl)) (fun _ h9 => h9) rfl dX0_learn_11 ?_
    refine lv_aload_n hx hb dX0_learn_14 rfl (lv_at hl 0 rfl) ?_
    refine va_get (D := (dC, dI)) (ci := 0) (v := .int (o_previous o)) (C := RX0) (T := TX0) (N := 4) hx hb hts (fun _ h => List.mem_cons_of_mem _ (List.mem_append_left _ (List.mem_append_right _ h))) hown hK hP 0 rfl rfl 1 (by decide) (hts _ (List.mem_of_getElem? (i := 1) rfl)) (fun _ h9 => h9) rfl dX0_learn_15 ?_
    refine lv_iload_n hx hb dX0_learn_18 rfl (lv_at hl 1 rfl) ?_
    obtain ⟨z2, e3, hJ⟩ := bnd hJ
    refine roVi (As := [.int (o_previous o), .int p0]) (rest := []) (ci := 1) (q0 := 0) hx hb hml hown hts (c_X1_longerBy fu l dC dI kI b (o_d o) (o_previous o) p0 z2 e3) gX0_learn_X1_longerBy qX1_longerBy rfl ⟨Nat.le_of_ble_eq_true rfl, Nat.le_of_ble_eq_true rfl⟩ ⟨rfl, rfl⟩ hNW hK hP hS (hP.sub (ws' := DWc b kI (o_d o)) [2, 3, 4, 5, 6, 7] rfl) hK rfl rfl rfl hl.1 rfl rfl (Nat.le_of_ble_eq_true rfl) dX0_learn_19 z0 (fun H locs hP hS => ?_)
    refine lv_istore_n (lv' := [(2, .int z2), (0, .ref (a 0)), (1, .int p0)]) hx hb dX0_learn_22 rfl hl (by decide) rfl (fun ls hl => ?_)
    refine lv_iload_n hx hb dX0_learn_23 rfl (lv_at hl 0 rfl) ?_
    refine lv_iconst (v := -1) hx hb dX0_learn_24 (by decide) ?_
    refine lv_icmp_ne (tgt := 38) hx hb dX0_learn_25 (by decide) (fun c4 => ?_) (fun c4 => ?_)
    · have hJ := ite_f c4 hJ
      refine lv_iload_n hx hb dX0_learn_38 rfl (lv_at hl 0 rfl) ?_
      obtain rfl := Option.some.inj hJ
      exact rw_iret hx hb hr hlocks rfl hP hD hS dX0_learn_39
    · have hJ := ite_t c4 hJ
      refine lv_aload_n hx hb dX0_learn_28 rfl (lv_at hl 1 rfl) ?_
      refine va_get (D := (dC, dI)) (ci := 0) (v := .ref (b 0)) (C := RX0) (T := TX0) (N := 4) hx hb hts (fun _ h => List.mem_cons_of_mem _ (List.mem_append_left _ (List.mem_append_right _ h))) hown hK hP 0 rfl rfl 0 (by decide) (hts _ (List.mem_of_getElem? (i := 2) rfl)) (fun _ h9 => h9) rfl dX0_learn_29 ?_
      obtain ⟨z5, e6, hJ⟩ := bnd hJ
      refine roVi (As := []) (rest := []) (ci := 1) (q0 := 0) hx hb hml hown hts (c_X1_hasNoRoom l dC dI kI b (o_d o) z5 e6) gX0_learn_X1_hasNoRoom qX1_hasNoRoom rfl ⟨Nat.le_of_ble_eq_true rfl, Nat.le_of_ble_eq_true rfl⟩ ⟨rfl, rfl⟩ hNW hK hP hS (hP.sub (ws' := DWc b kI (o_d o)) [2, 3, 4, 5, 6, 7] rfl) hK rfl rfl rfl hl.1 rfl rfl (Nat.le_of_ble_eq_true rfl) dX0_learn_32 z0 (fun H locs hP hS => ?_)
      refine lv_if_eq (tgt := 40) hx hb dX0_learn_35 (by decide) (fun c7 => ?_) (fun c7 => ?_)
      · have hJ := ite_t c7 hJ
        refine lv_aload_n hx hb dX0_learn_40 rfl (lv_at hl 1 rfl) ?_
        refine va_get (D := (dC, dI)) (ci := 0) (v := .ref (b 0)) (C := RX0) (T := TX0) (N := 4) hx hb hts (fun _ h => List.mem_cons_of_mem _ (List.mem_append_left _ (List.mem_append_right _ h))) hown hK hP 0 rfl rfl 0 (by decide) (hts _ (List.mem_of_getElem? (i := 2) rfl)) (fun _ h9 => h9) rfl dX0_learn_41 ?_
        refine lv_aload_n hx hb dX0_learn_44 rfl (lv_at hl 1 rfl) ?_
        refine va_get (D := (dC, dI)) (ci := 0) (v := .int (o_previous o)) (C := RX0) (T := TX0) (N := 4) hx hb hts (fun _ h => List.mem_cons_of_mem _ (List.mem_append_left _ (List.mem_append_right _ h))) hown hK hP 0 rfl rfl 1 (by decide) (hts _ (List.mem_of_getElem? (i := 1) rfl)) (fun _ h9 => h9) rfl dX0_learn_45 ?_
        refine lv_iload_n hx hb dX0_learn_48 rfl (lv_at hl 2 rfl) ?_
        obtain ⟨z8, e9, hJ⟩ := bnd hJ
        refine rwVi (As := [.int (o_previous o), .int p0]) (rest := []) (wc := DWc b kI (o_d o)) (wc' := DWc b kI z8.2) (ws' := OWc a b kI (mkO z8.2 (o_previous o) (o_symbols o) (o_count o))) (ci := 1) (q0 := 0) hx hb hml hown hts (c_X1_addLonger l dC dI kI b (o_d o) (o_previous o) p0 H.size z8 e9) gX0_learn_X1_addLonger qX1_addLonger rfl ⟨Nat.le_of_ble_eq_true rfl, Nat.le_of_ble_eq_true rfl⟩ ⟨rfl, rfl⟩ hNW hK hP hD hS hA [2, 3, 4, 5, 6, 7] [0, 1] rfl rfl (by decide) (by decide) (by decide) [0, 1, 2, 3, 4, 5, 6, 7] rfl (by decide) hK rfl rfl rfl hl.1 rfl rfl (Nat.le_of_ble_eq_true rfl) dX0_learn_49 z0 (fun H locs hP hD hS => ?_)
        obtain rfl := Option.some.inj hJ
        exact rw_iret hx hb hr hlocks rfl hP hD hS dX0_learn_52
      · have hJ := ite_f c7 hJ
        refine lv_iload_n hx hb dX0_learn_38 rfl (lv_at hl 0 rfl) ?_
        obtain rfl := Option.some.inj hJ
        exact rw_iret hx hb hr hlocks rfl hP hD hS dX0_learn_39
  · have hJ := ite_t c1 hJ
    refine lv_iconst (v := -1) hx hb dX0_learn_8 (by decide) ?_
    obtain rfl := Option.some.inj hJ
    exact rw_iret hx hb hr hlocks rfl hP hD hS dX0_learn_9
theorem qX1_spell : (yX1_spell.cls = RX1) ∧ yX1_spell.cls ≠ "java/lang/invoke/MethodHandle" ∧ yX1_spell.cls ≠ "java/lang/invoke/VarHandle" ∧ (parseMethodDescriptor yX1_spell.desc).map (fun d => d.parameters.length) = some 3 := by decide +kernel
set_option maxHeartbeats 4000000 in
set_option maxRecDepth 100000 in
theorem c_X1_spell (fu : Nat) (l : Launch) (dC : Nat → ClassId) (dI : Nat → Nat → Nat) (kI : ClassId) (b : Nat → Nat) (d : DS) (p0 : Int32) (ax1 : Nat) (n1 : Nat) (f1 : Nat → Int32) (p2 : Int32) (sz : Nat) (z : (Nat → Int32)) (hJ : J_X1_spell fu d p0 n1 f1 p2 = some z) : Met l yX1_spell wsX1_spell ({ frames := 2, cells := 0, slots := 0, locals := 42 }) (va_Pc [.ref (b 0), .int p0, .ref ax1, .int p2] (RWp dC dI sz ((DWc b kI d) ++ (AWc ax1 kI n1 f1)) [(kI, .int)])) (rwQv dC dI (va_A ((DWc b kI d) ++ (AWc ax1 kI n1 f1)) sz) ((DWc b kI d) ++ (AWc ax1 kI n1 z))) 0 0 (va_A ((DWc b kI d) ++ (AWc ax1 kI n1 f1)) sz) := by
  refine rw_start (Qc := fun A => rwQv dC dI A ((DWc b kI d) ++ (AWc ax1 kI n1 z))) (cc := cX1_spell) (maxL := 6) (ret := none) (by decide) rfl (Nat.le_of_ble_eq_true rfl) ?_
  intro p e s m args below meth c hx hb hr hml hown hts hlocks hNW hK A hA H locs ls hP hD hS hl
  have hown : s.vm.findClass RX1 = some m.cls := hown
  have hl : lv_has ls 6 [(0, .ref (b 0)), (1, .int p0), (2, .ref ax1), (3, .int p2)] := hl
  unfold J_X1_spell at hJ
  have L12 : ∀ (n : Nat) (f1 : Nat → Int32) (y3 : Int32) (y4 : Int32) (y5 : Int32) (H : Heap) (locs : List Loc) (ls : Array Slot), va_P (dC, dI) vwCl ((DWc b kI d) ++ (AWc ax1 kI n1 f1)) H → va_D A ((DWc b kI d) ++ (AWc ax1 kI n1 f1)) → va_S A s.heap H locs → lv_has ls 6 [(0, .ref (b 0)), (2, .ref ax1), (3, .int y3), (4, .int y4), (5, .int y5)] → J_X1_spell_b12 fu d n1 n f1 y3 y4 y5 = some z → W p l e ({ frames := 2, cells := 0, slots := 0, locals := 42 }) s m args below meth c H locs 0 0 (MQ below (rwQv dC dI A ((DWc b kI d) ++ (AWc ax1 kI n1 z))) args s 0 0 (A)) (F0 m 12 ls []) := by
    intro n
    induction n with
    | zero =>
      intro f1 y3 y4 y5 H locs ls hP hD hS hl hJ
      rw [J_X1_spell_b12] at hJ; cases hJ
    | succ n ih =>
      intro f1 y3 y4 y5 H locs ls hP hD hS hl hJ
      rw [J_X1_spell_b12] at hJ
      refine lv_iload hx hb dX1_spell_12 (lv_at hl 4 rfl) ?_
      refine lv_if_lt (tgt := 51) hx hb dX1_spell_14 (by decide) (fun c3 => ?_) (fun c3 => ?_)
      · have hJ := ite_t c3 hJ
        obtain rfl := Option.some.inj hJ
        exact rw_vret hx hb hr hlocks hP hD hS dX1_spell_51
      · have hJ := ite_f c3 hJ
        refine lv_aload_n hx hb dX1_spell_17 rfl (lv_at hl 1 rfl) ?_
        refine lv_iload_n hx hb dX1_spell_18 rfl (lv_at hl 2 rfl) ?_
        refine lv_iload hx hb dX1_spell_19 (lv_at hl 4 rfl) ?_
        refine lv_iadd hx hb dX1_spell_21 ?_
        refine lv_aload_n hx hb dX1_spell_22 rfl (lv_at hl 0 rfl) ?_
        refine va_get (D := (dC, dI)) (ci := 1) (v := .ref (b 2)) (C := RX1) (T := TX1) (N := 8) hx hb hts (fun _ h => List.mem_cons_of_mem _ (List.mem_append_right _ h)) hown hK hP 0 rfl rfl 1 (by decide) (hts _ (List.mem_of_getElem? (i := 1) rfl)) (fun _ h9 => h9) rfl dX1_spell_23 ?_
        refine lv_iload hx hb dX1_spell_26 (lv_at hl 3 rfl) ?_
        obtain ⟨z4, e5, hJ⟩ := bnd hJ
        refine roSNi (As := [.ref (b 2), .int y4]) (rest := [.int (y3 + y5), .ref ax1]) hx hb hml hown hts (c_X7_at l dC dI kI (b 2) 256 (d_lastSymbol d) y4 z4 e5) gX1_spell_X7_at_n48 qX7_at rfl ⟨Nat.le_of_ble_eq_true rfl, Nat.le_of_ble_eq_true rfl⟩ (hNW.use0 (i := 56) rfl) (hts _ (List.mem_of_getElem? (i := 10) rfl)) (hts _ (List.mem_of_getElem? (i := 9) rfl)) ⟨rfl, rfl⟩ hNW hK hP hS (hP.sub (ws' := AWc (b 2) kI 256 (d_lastSymbol d)) [2] rfl) hK hl.1 rfl rfl (Nat.le_of_ble_eq_true rfl) dX1_spell_28 z0 (fun H locs hP hS => ?_)
        obtain ⟨z6, e7, hJ⟩ := bnd hJ
        refine rwSNv (As := [.ref ax1, .int (y3 + y5), .int z4]) (rest := []) (wc := AWc ax1 kI n1 f1) (wc' := AWc ax1 kI n1 z6) (ws' := (DWc b kI d) ++ (AWc ax1 kI n1 z6)) hx hb hml hown hts (c_X7_put l dC dI kI ax1 n1 f1 (y3 + y5) z4 H.size z6 e7) gX1_spell_X7_put_n52 qX7_put rfl ⟨Nat.le_of_ble_eq_true rfl, Nat.le_of_ble_eq_true rfl⟩ (hNW.use0 (i := 60) rfl) (hts _ (List.mem_of_getElem? (i := 10) rfl)) (hts _ (List.mem_of_getElem? (i := 12) rfl)) ⟨rfl, rfl⟩ hNW hK hP hD hS hA [6] [0, 1, 2, 3, 4, 5] rfl rfl (by decide) (by decide) (by decide) [0, 1, 2, 3, 4, 5, 6] rfl (by decide) hK hl.1 rfl rfl (Nat.le_of_ble_eq_true rfl) dX1_spell_31 z0 (fun H locs hP hD hS => ?_)
        refine lv_aload_n hx hb dX1_spell_34 rfl (lv_at hl 0 rfl) ?_
        refine va_get (D := (dC, dI)) (ci := 1) (v := .ref (b 1)) (C := RX1) (T := TX1) (N := 8) hx hb hts (fun _ h => List.mem_cons_of_mem _ (List.mem_append_right _ h)) hown hK hP 0 rfl rfl 0 (by decide) (hts _ (List.mem_of_getElem? (i := 2) rfl)) (fun _ h9 => h9) rfl dX1_spell_35 ?_
        refine lv_iload hx hb dX1_spell_38 (lv_at hl 3 rfl) ?_
        obtain ⟨z8, e9, hJ⟩ := bnd hJ
        refine roSNi (As := [.ref (b 1), .int y4]) (rest := []) hx hb hml hown hts (c_X7_at l dC dI kI (b 1) 256 (d_prefix d) y4 z8 e9) gX1_spell_X7_at_n48 qX7_at rfl ⟨Nat.le_of_ble_eq_true rfl, Nat.le_of_ble_eq_true rfl⟩ (hNW.use0 (i := 56) rfl) (hts _ (List.mem_of_getElem? (i := 10) rfl)) (hts _ (List.mem_of_getElem? (i := 9) rfl)) ⟨rfl, rfl⟩ hNW hK hP hS (hP.sub (ws' := AWc (b 1) kI 256 (d_prefix d)) [1] rfl) hK hl.1 rfl rfl (Nat.le_of_ble_eq_true rfl) dX1_spell_40 z0 (fun H locs hP hS => ?_)
        refine lv_istore (lv' := [(4, .int z8), (0, .ref (b 0)), (2, .ref ax1), (3, .int y3), (5, .int y5)]) hx hb dX1_spell_43 hl (by decide) rfl (fun ls hl => ?_)
        refine lv_iinc (v := y5 + (-1)) (lv' := [(5, .int (y5 + (-1))), (4, .int z8), (0, .ref (b 0)), (2, .ref ax1), (3, .int y3)]) hx hb dX1_spell_45 hl (k := 4) rfl rfl (by decide) rfl (fun ls hl => ?_)
        refine lv_goto (tgt := 12) hx hb dX1_spell_48 (by decide) ?_
        exact ih z6 y3 z8 (y5 + (-1)) H locs ls hP hD hS (lv_sub hl [2, 3, 4, 1, 0] rfl) hJ
  refine lv_iload_n hx hb dX1_spell_0 rfl (lv_at hl 1 rfl) ?_
  refine lv_istore (lv' := [(4, .int p0), (0, .ref (b 0)), (1, .int p0), (2, .ref ax1), (3, .int p2)]) hx hb dX1_spell_1 hl (by decide) rfl (fun ls hl => ?_)
  refine lv_aload_n hx hb dX1_spell_3 rfl (lv_at hl 1 rfl) ?_
  refine lv_iload_n hx hb dX1_spell_4 rfl (lv_at hl 2 rfl) ?_
  obtain ⟨z1, e2, hJ⟩ := bnd hJ
  refine roVi (As := [.int p0]) (rest := []) (ci := 1) (q0 := 0) hx hb hml hown hts (c_X1_lengthOf l dC dI kI b d p0 z1 e2) gX1_spell_X1_lengthOf qX1_lengthOf rfl ⟨Nat.le_of_ble_eq_true rfl, Nat.le_of_ble_eq_true rfl⟩ ⟨rfl, rfl⟩ hNW hK hP hS (hP.sub (ws' := DWc b kI d) [0, 1, 2, 3, 4, 5] rfl) hK rfl rfl rfl hl.1 rfl rfl (Nat.le_of_ble_eq_true rfl) dX1_spell_5 z0 (fun H locs hP hS => ?_)
  refine lv_iconst (v := 1) hx hb dX1_spell_8 (by decide) ?_
  refine lv_isub hx hb dX1_spell_9 ?_
  refine lv_istore (lv' := [(5, .int (z1 - (1 : Int32))), (4, .int p0), (0, .ref (b 0)), (1, .int p0), (2, .ref ax1), (3, .int p2)]) hx hb dX1_spell_10 hl (by decide) rfl (fun ls hl => ?_)
  exact L12 fu f1 p2 p0 (z1 - (1 : Int32)) H locs ls hP hD hS (lv_sub hl [2, 4, 5, 1, 0] rfl) hJ
theorem qX0_takePhrase : (yX0_takePhrase.cls = RX0) ∧ yX0_takePhrase.cls ≠ "java/lang/invoke/MethodHandle" ∧ yX0_takePhrase.cls ≠ "java/lang/invoke/VarHandle" ∧ (parseMethodDescriptor yX0_takePhrase.desc).map (fun d => d.parameters.length) = some 3 := by decide +kernel
set_option maxHeartbeats 4000000 in
set_option maxRecDepth 100000 in
theorem c_X0_takePhrase (fu : Nat) (l : Launch) (dC : Nat → ClassId) (dI : Nat → Nat → Nat) (kI : ClassId) (a : Nat → Nat) (b : Nat → Nat) (o : OS) (p0 : Int32) (p1 : Int32) (p2 : Int32) (sz : Nat) (z : Int32 × OS) (hJ : J_X0_takePhrase fu o p0 p1 p2 = some z) : Met l yX0_takePhrase wsX0_takePhrase ({ frames := 4, cells := 0, slots := 0, locals := 87 }) (va_Pc [.ref (a 0), .int p0, .int p1, .int p2] (RWp dC dI sz (OWc a b kI o) [(kI, .int)])) (rwQi dC dI (va_A (OWc a b kI o) sz) (OWc a b kI z.2) z.1) 0 0 (va_A (OWc a b kI o) sz) := by
  refine rw_start (Qc := fun A => rwQi dC dI A (OWc a b kI z.2) z.1) (cc := cX0_takePhrase) (maxL := 6) (ret := (some .boolean)) (by decide) rfl (Nat.le_of_ble_eq_true rfl) ?_
  intro p e s m args below meth c hx hb hr hml hown hts hlocks hNW hK A hA H locs ls hP hD hS hl
  have hown : s.vm.findClass RX0 = some m.cls := hown
  have hl : lv_has ls 6 [(0, .ref (a 0)), (1, .int p0), (2, .int p1), (3, .int p2)] := hl
  unfold J_X0_takePhrase at hJ
  have L54 : ∀ (o : OS) (y4 : Int32) (k1 : Int32) (H : Heap) (locs : List Loc) (ls : Array Slot), va_P (dC, dI) vwCl (OWc a b kI o) H → va_D A (OWc a b kI o) → va_S A s.heap H locs → lv_has ls 6 [(0, .ref (a 0)), (4, .int y4)] → J_X0_takePhrase_b54 fu o y4 k1 = some z → W p l e ({ frames := 4, cells := 0, slots := 0, locals := 87 }) s m args below meth c H locs 0 0 (MQ below (rwQi dC dI A (OWc a b kI z.2) z.1) args s 0 0 (A)) (F0 m 54 ls [.int k1, .ref (a 0)]) := by
    intro o y4 k1 H locs ls hP hD hS hl hJ
    unfold J_X0_takePhrase_b54 at hJ
    refine va_put (D := (dC, dI)) (ci := 0) (v := .int k1) (ty := .int) (C := RX0) (T := TX0) (N := 4) hx hb hts (fun _ h => List.mem_cons_of_mem _ (List.mem_append_left _ (List.mem_append_right _ h))) tyX0 tyX0_ok nmX0 hown hK hP hD hS 0 rfl rfl 1 (by decide) (hts _ (List.mem_of_getElem? (i := 3) rfl)) (fun _ h9 => h9) rfl (by decide +kernel) rfl rfl (Nat.le_of_ble_eq_true rfl) dX0_takePhrase_54 (fun H locs hP hD hS => ?_)
    have hP : va_P (dC, dI) vwCl (OWc a b kI (mkO (o_d o) k1 (o_symbols o) (o_count o))) H := hP
    have hD : va_D A (OWc a b kI (mkO (o_d o) k1 (o_symbols o) (o_count o))) := hD
    refine lv_aload_n hx hb dX0_takePhrase_57 rfl (lv_at hl 0 rfl) ?_
    refine va_get (D := (dC, dI)) (ci := 0) (v := .ref (b 0)) (C := RX0) (T := TX0) (N := 4) hx hb hts (fun _ h => List.mem_cons_of_mem _ (List.mem_append_left _ (List.mem_append_right _ h))) hown hK hP 0 rfl rfl 0 (by decide) (hts _ (List.mem_of_getElem? (i := 1) rfl)) (fun _ h9 => h9) rfl dX0_takePhrase_58 ?_
    refine lv_aload_n hx hb dX0_takePhrase_61 rfl (lv_at hl 0 rfl) ?_
    refine va_get (D := (dC, dI)) (ci := 0) (v := .int k1) (C := RX0) (T := TX0) (N := 4) hx hb hts (fun _ h => List.mem_cons_of_mem _ (List.mem_append_left _ (List.mem_append_right _ h))) hown hK hP 0 rfl rfl 1 (by decide) (hts _ (List.mem_of_getElem? (i := 3) rfl)) (fun _ h9 => h9) rfl dX0_takePhrase_62 ?_
    refine lv_aload_n hx hb dX0_takePhrase_65 rfl (lv_at hl 0 rfl) ?_
    refine va_get (D := (dC, dI)) (ci := 0) (v := .ref (a 1)) (C := RX0) (T := TX0) (N := 4) hx hb hts (fun _ h => List.mem_cons_of_mem _ (List.mem_append_left _ (List.mem_append_right _ h))) hown hK hP 0 rfl rfl 2 (by decide) (hts _ (List.mem_of_getElem? (i := 4) rfl)) (fun _ h9 => h9) rfl dX0_takePhrase_66 ?_
    refine lv_aload_n hx hb dX0_takePhrase_69 rfl (lv_at hl 0 rfl) ?_
    refine va_get (D := (dC, dI)) (ci := 0) (v := .int (o_count o)) (C := RX0) (T := TX0) (N := 4) hx hb hts (fun _ h => List.mem_cons_of_mem _ (List.mem_append_left _ (List.mem_append_right _ h))) hown hK hP 0 rfl rfl 3 (by decide) (hts _ (List.mem_of_getElem? (i := 2) rfl)) (fun _ h9 => h9) rfl dX0_takePhrase_70 ?_
    obtain ⟨z9, e10, hJ⟩ := bnd hJ
    refine rwVv (As := [.int k1, .ref (a 1), .int (o_count o)]) (rest := []) (wc := (DWc b kI (o_d o)) ++ (AWc (a 1) kI 400 (o_symbols o))) (wc' := (DWc b kI (o_d o)) ++ (AWc (a 1) kI 400 z9)) (ws' := OWc a b kI (mkO (o_d o) k1 z9 (o_count o))) (ci := 1) (q0 := 0) hx hb hml hown hts (c_X1_spell fu l dC dI kI b (o_d o) k1 (a 1) 400 (o_symbols o) (o_count o) H.size z9 e10) gX0_takePhrase_X1_spell qX1_spell rfl ⟨Nat.le_of_ble_eq_true rfl, Nat.le_of_ble_eq_true rfl⟩ ⟨rfl, rfl⟩ hNW hK hP hD hS hA [2, 3, 4, 5, 6, 7, 1] [0] rfl rfl (by decide) (by decide) (by decide) [0, 7, 1, 2, 3, 4, 5, 6] rfl (by decide) hK rfl rfl rfl hl.1 rfl rfl (Nat.le_of_ble_eq_true rfl) dX0_takePhrase_73 z0 (fun H locs hP hD hS => ?_)
    refine lv_aload_n hx hb dX0_takePhrase_76 rfl (lv_at hl 0 rfl) ?_
    refine lv_dup hx hb dX0_takePhrase_77 rfl ?_
    refine va_get (D := (dC, dI)) (ci := 0) (v := .int (o_count o)) (C := RX0) (T := TX0) (N := 4) hx hb hts (fun _ h => List.mem_cons_of_mem _ (List.mem_append_left _ (List.mem_append_right _ h))) hown hK hP 0 rfl rfl 3 (by decide) (hts _ (List.mem_of_getElem? (i := 2) rfl)) (fun _ h9 => h9) rfl dX0_takePhrase_78 ?_
    refine lv_iload hx hb dX0_takePhrase_81 (lv_at hl 1 rfl) ?_
    refine lv_iadd hx hb dX0_takePhrase_83 ?_
    refine va_put (D := (dC, dI)) (ci := 0) (v := .int ((o_count o) + y4)) (ty := .int) (C := RX0) (T := TX0) (N := 4) hx hb hts (fun _ h => List.mem_cons_of_mem _ (List.mem_append_left _ (List.mem_append_right _ h))) tyX0 tyX0_ok nmX0 hown hK hP hD hS 0 rfl rfl 3 (by decide) (hts _ (List.mem_of_getElem? (i := 2) rfl)) (fun _ h9 => h9) rfl (by decide +kernel) rfl rfl (Nat.le_of_ble_eq_true rfl) dX0_takePhrase_84 (fun H locs hP hD hS => ?_)
    have hP : va_P (dC, dI) vwCl (OWc a b kI (mkO (o_d o) k1 z9 ((o_count o) + y4))) H := hP
    have hD : va_D A (OWc a b kI (mkO (o_d o) k1 z9 ((o_count o) + y4))) := hD
    refine lv_iconst (v := 1) hx hb dX0_takePhrase_87 (by decide) ?_
    obtain rfl := Option.some.inj hJ
    exact rw_zret hx hb hr hlocks rfl rfl hP hD hS dX0_takePhrase_88
  refine lv_aload_n hx hb dX0_takePhrase_0 rfl (lv_at hl 0 rfl) ?_
  refine va_get (D := (dC, dI)) (ci := 0) (v := .ref (b 0)) (C := RX0) (T := TX0) (N := 4) hx hb hts (fun _ h => List.mem_cons_of_mem _ (List.mem_append_left _ (List.mem_append_right _ h))) hown hK hP 0 rfl rfl 0 (by decide) (hts _ (List.mem_of_getElem? (i := 1) rfl)) (fun _ h9 => h9) rfl dX0_takePhrase_1 ?_
  refine lv_iload_n hx hb dX0_takePhrase_4 rfl (lv_at hl 2 rfl) ?_
  obtain ⟨z1, e2, hJ⟩ := bnd hJ
  refine roVi (As := [.int p1]) (rest := []) (ci := 1) (q0 := 0) hx hb hml hown hts (c_X1_lengthOf l dC dI kI b (o_d o) p1 z1 e2) gX0_takePhrase_X1_lengthOf qX1_lengthOf rfl ⟨Nat.le_of_ble_eq_true rfl, Nat.le_of_ble_eq_true rfl⟩ ⟨rfl, rfl⟩ hNW hK hP hS (hP.sub (ws' := DWc b kI (o_d o)) [2, 3, 4, 5, 6, 7] rfl) hK rfl rfl rfl hl.1 rfl rfl (Nat.le_of_ble_eq_true rfl) dX0_takePhrase_5 z0 (fun H locs hP hS => ?_)
  refine lv_iload_n hx hb dX0_takePhrase_8 rfl (lv_at hl 3 rfl) ?_
  refine lv_iadd hx hb dX0_takePhrase_9 ?_
  refine lv_istore (lv' := [(4, .int (z1 + p2)), (0, .ref (a 0)), (1, .int p0), (2, .int p1), (3, .int p2)]) hx hb dX0_takePhrase_10 hl (by decide) rfl (fun ls hl => ?_)
  refine lv_aload_n hx hb dX0_takePhrase_12 rfl (lv_at hl 1 rfl) ?_
  refine va_get (D := (dC, dI)) (ci := 0) (v := .int (o_count o)) (C := RX0) (T := TX0) (N := 4) hx hb hts (fun _ h => List.mem_cons_of_mem _ (List.mem_append_left _ (List.mem_append_right _ h))) hown hK hP 0 rfl rfl 3 (by decide) (hts _ (List.mem_of_getElem? (i := 2) rfl)) (fun _ h9 => h9) rfl dX0_takePhrase_13 ?_
  refine lv_iload hx hb dX0_takePhrase_16 (lv_at hl 0 rfl) ?_
  refine lv_iadd hx hb dX0_takePhrase_18 ?_
  refine lv_sipush (v := 400) hx hb dX0_takePhrase_19 (by decide) ?_
  refine lv_icmp_le (tgt := 27) hx hb dX0_takePhrase_22 (by decide) (fun c3 => ?_) (fun c3 => ?_)
  · have hJ := ite_t c3 hJ
    refine lv_aload_n hx hb dX0_takePhrase_27 rfl (lv_at hl 1 rfl) ?_
    refine lv_aload_n hx hb dX0_takePhrase_28 rfl (lv_at hl 1 rfl) ?_
    refine va_get (D := (dC, dI)) (ci := 0) (v := .ref (b 0)) (C := RX0) (T := TX0) (N := 4) hx hb hts (fun _ h => List.mem_cons_of_mem _ (List.mem_append_left _ (List.mem_append_right _ h))) hown hK hP 0 rfl rfl 0 (by decide) (hts _ (List.mem_of_getElem? (i := 1) rfl)) (fun _ h9 => h9) rfl dX0_takePhrase_29 ?_
    refine lv_iload_n hx hb dX0_takePhrase_32 rfl (lv_at hl 3 rfl) ?_
    refine lv_iconst (v := 0) hx hb dX0_takePhrase_33 (by decide) ?_
    obtain ⟨z4, e5, hJ⟩ := bnd hJ
    refine roVi (As := [.int p1, .int (0 : Int32)]) (rest := [.ref (a 0)]) (ci := 1) (q0 := 0) hx hb hml hown hts (c_X1_symbolOf fu l dC dI kI b (o_d o) p1 (0 : Int32) z4 e5) gX0_takePhrase_X1_symbolOf qX1_symbolOf rfl ⟨Nat.le_of_ble_eq_true rfl, Nat.le_of_ble_eq_true rfl⟩ ⟨rfl, rfl⟩ hNW hK hP hS (hP.sub (ws' := DWc b kI (o_d o)) [2, 3, 4, 5, 6, 7] rfl) hK rfl rfl rfl hl.1 rfl rfl (Nat.le_of_ble_eq_true rfl) dX0_takePhrase_34 z0 (fun H locs hP hS => ?_)
    obtain ⟨z6, e7, hJ⟩ := bnd hJ
    refine rwViW (As := [.int z4]) (rest := []) (ci := 0) (q0 := 0) hx hb hml hown hts (c_X0_learn fu l dC dI kI a b o z4 H.size z6 e7) gX0_takePhrase_X0_learn qX0_learn rfl ⟨Nat.le_of_ble_eq_true rfl, Nat.le_of_ble_eq_true rfl⟩ ⟨rfl, rfl⟩ hNW hK hP hD hS hA hK rfl rfl rfl hl.1 rfl rfl (Nat.le_of_ble_eq_true rfl) dX0_takePhrase_37 z0 (fun H locs hP hD hS => ?_)
    refine lv_istore (lv' := [(5, .int z6.1), (4, .int (z1 + p2)), (0, .ref (a 0)), (1, .int p0), (2, .int p1), (3, .int p2)]) hx hb dX0_takePhrase_40 hl (by decide) rfl (fun ls hl => ?_)
    refine lv_aload_n hx hb dX0_takePhrase_42 rfl (lv_at hl 2 rfl) ?_
    refine lv_iload_n hx hb dX0_takePhrase_43 rfl (lv_at hl 3 rfl) ?_
    refine lv_iconst (v := -1) hx hb dX0_takePhrase_44 (by decide) ?_
    refine lv_icmp_ne (tgt := 53) hx hb dX0_takePhrase_45 (by decide) (fun c8 => ?_) (fun c8 => ?_)
    · have hJ := ite_f c8 hJ
      refine lv_iload_n hx hb dX0_takePhrase_53 rfl (lv_at hl 3 rfl) ?_
      exact L54 z6.2 (z1 + p2) p0 H locs ls hP hD hS (lv_sub hl [2, 1] rfl) hJ
    · have hJ := ite_t c8 hJ
      refine lv_iload hx hb dX0_takePhrase_48 (lv_at hl 0 rfl) ?_
      refine lv_goto (tgt := 54) hx hb dX0_takePhrase_50 (by decide) ?_
      exact L54 z6.2 (z1 + p2) z6.1 H locs ls hP hD hS (lv_sub hl [2, 1] rfl) hJ
  · have hJ := ite_f c3 hJ
    refine lv_iconst (v := 0) hx hb dX0_takePhrase_25 (by decide) ?_
    obtain rfl := Option.some.inj hJ
    exact rw_zret hx hb hr hlocks rfl rfl hP hD hS dX0_takePhrase_26
theorem qX0_takeCode : (yX0_takeCode.cls = RX0) ∧ yX0_takeCode.cls ≠ "java/lang/invoke/MethodHandle" ∧ yX0_takeCode.cls ≠ "java/lang/invoke/VarHandle" ∧ (parseMethodDescriptor yX0_takeCode.desc).map (fun d => d.parameters.length) = some 1 := by decide +kernel
set_option maxHeartbeats 4000000 in
set_option maxRecDepth 100000 in
theorem c_X0_takeCode (fu : Nat) (l : Launch) (dC : Nat → ClassId) (dI : Nat → Nat → Nat) (kI : ClassId) (a : Nat → Nat) (b : Nat → Nat) (o : OS) (p0 : Int32) (sz : Nat) (z : Int32 × OS) (hJ : J_X0_takeCode fu o p0 = some z) : Met l yX0_takeCode wsX0_takeCode ({ frames := 5, cells := 0, slots := 0, locals := 112 }) (va_Pc [.ref (a 0), .int p0] (RWp dC dI sz (OWc a b kI o) [(kI, .int)])) (rwQi dC dI (va_A (OWc a b kI o) sz) (OWc a b kI z.2) z.1) 0 0 (va_A (OWc a b kI o) sz) := by
  refine rw_start (Qc := fun A => rwQi dC dI A (OWc a b kI z.2) z.1) (cc := cX0_takeCode) (maxL := 3) (ret := (some .boolean)) (by decide) rfl (Nat.le_of_ble_eq_true rfl) ?_
  intro p e s m args below meth c hx hb hr hml hown hts hlocks hNW hK A hA H locs ls hP hD hS hl
  have hown : s.vm.findClass RX0 = some m.cls := hown
  have hl : lv_has ls 3 [(0, .ref (a 0)), (1, .int p0)] := hl
  unfold J_X0_takeCode at hJ
  have L78 : ∀ (o : OS) (k0 : Int32) (H : Heap) (locs : List Loc) (ls : Array Slot), va_P (dC, dI) vwCl (OWc a b kI o) H → va_D A (OWc a b kI o) → va_S A s.heap H locs → lv_has ls 3 [(0, .ref (a 0))] → J_X0_takeCode_b78 fu o k0 = some z → W p l e ({ frames := 5, cells := 0, slots := 0, locals := 112 }) s m args below meth c H locs 0 0 (MQ below (rwQi dC dI A (OWc a b kI z.2) z.1) args s 0 0 (A)) (F0 m 78 ls [.int k0]) := by
    intro o k0 H locs ls hP hD hS hl hJ
    unfold J_X0_takeCode_b78 at hJ
    refine lv_istore_n (lv' := [(2, .int k0), (0, .ref (a 0))]) hx hb dX0_takeCode_78 rfl hl (by decide) rfl (fun ls hl => ?_)
    refine lv_iload_n hx hb dX0_takeCode_79 rfl (lv_at hl 0 rfl) ?_
    refine lv_if_eq (tgt := 100) hx hb dX0_takeCode_80 (by decide) (fun c15 => ?_) (fun c15 => ?_)
    · have hJ := ite_t c15 hJ
      refine lv_iconst (v := 0) hx hb dX0_takeCode_100 (by decide) ?_
      obtain rfl := Option.some.inj hJ
      exact rw_zret hx hb hr hlocks rfl rfl hP hD hS dX0_takeCode_101
    · have hJ := ite_f c15 hJ
      refine lv_aload_n hx hb dX0_takeCode_83 rfl (lv_at hl 1 rfl) ?_
      refine lv_iconst (v := -1) hx hb dX0_takeCode_84 (by decide) ?_
      refine lv_aload_n hx hb dX0_takeCode_85 rfl (lv_at hl 1 rfl) ?_
      refine va_get (D := (dC, dI)) (ci := 0) (v := .int (o_previous o)) (C := RX0) (T := TX0) (N := 4) hx hb hts (fun _ h => List.mem_cons_of_mem _ (List.mem_append_left _ (List.mem_append_right _ h))) hown hK hP 0 rfl rfl 1 (by decide) (hts _ (List.mem_of_getElem? (i := 2) rfl)) (fun _ h9 => h9) rfl dX0_takeCode_86 ?_
      refine lv_iconst (v := 1) hx hb dX0_takeCode_89 (by decide) ?_
      obtain ⟨z16, e17, hJ⟩ := bnd hJ
      refine rwViW (As := [.int (-1 : Int32), .int (o_previous o), .int (1 : Int32)]) (rest := []) (ci := 0) (q0 := 0) hx hb hml hown hts (c_X0_takePhrase fu l dC dI kI a b o (-1 : Int32) (o_previous o) (1 : Int32) H.size z16 e17) gX0_takeCode_X0_takePhrase qX0_takePhrase rfl ⟨Nat.le_of_ble_eq_true rfl, Nat.le_of_ble_eq_true rfl⟩ ⟨rfl, rfl⟩ hNW hK hP hD hS hA hK rfl rfl rfl hl.1 rfl rfl (Nat.le_of_ble_eq_true rfl) dX0_takeCode_90 z0 (fun H locs hP hD hS => ?_)
      refine lv_if_eq (tgt := 100) hx hb dX0_takeCode_93 (by decide) (fun c18 => ?_) (fun c18 => ?_)
      · have hJ := ite_t c18 hJ
        refine lv_iconst (v := 0) hx hb dX0_takeCode_100 (by decide) ?_
        obtain rfl := Option.some.inj hJ
        exact rw_zret hx hb hr hlocks rfl rfl hP hD hS dX0_takeCode_101
      · have hJ := ite_f c18 hJ
        refine lv_iconst (v := 1) hx hb dX0_takeCode_96 (by decide) ?_
        refine lv_goto (tgt := 101) hx hb dX0_takeCode_97 (by decide) ?_
        obtain rfl := Option.some.inj hJ
        exact rw_zret hx hb hr hlocks rfl rfl hP hD hS dX0_takeCode_101
  have L77 : ∀ (o : OS) (H : Heap) (locs : List Loc) (ls : Array Slot), va_P (dC, dI) vwCl (OWc a b kI o) H → va_D A (OWc a b kI o) → va_S A s.heap H locs → lv_has ls 3 [(0, .ref (a 0))] → J_X0_takeCode_b77 fu o = some z → W p l e ({ frames := 5, cells := 0, slots := 0, locals := 112 }) s m args below meth c H locs 0 0 (MQ below (rwQi dC dI A (OWc a b kI z.2) z.1) args s 0 0 (A)) (F0 m 77 ls []) := by
    intro o H locs ls hP hD hS hl hJ
    unfold J_X0_takeCode_b77 at hJ
    refine lv_iconst (v := 0) hx hb dX0_takeCode_77 (by decide) ?_
    exact L78 o (0 : Int32) H locs ls hP hD hS (lv_sub hl [0] rfl) hJ
  refine lv_iload_n hx hb dX0_takeCode_0 rfl (lv_at hl 1 rfl) ?_
  refine lv_aload_n hx hb dX0_takeCode_1 rfl (lv_at hl 0 rfl) ?_
  refine va_get (D := (dC, dI)) (ci := 0) (v := .ref (b 0)) (C := RX0) (T := TX0) (N := 4) hx hb hts (fun _ h => List.mem_cons_of_mem _ (List.mem_append_left _ (List.mem_append_right _ h))) hown hK hP 0 rfl rfl 0 (by decide) (hts _ (List.mem_of_getElem? (i := 1) rfl)) (fun _ h9 => h9) rfl dX0_takeCode_2 ?_
  refine va_getN (D := (dC, dI)) (ci := 1) (v := .int (d_alphabet (o_d o))) (C := RX1) (T := TX1) (N := 8) hx hb hts (fun _ h => List.mem_cons_of_mem _ (List.mem_append_right _ h)) hown hK hP 2 rfl rfl 5 (by decide) (hNW.use (i := 1) rfl) (fun _ h9 => h9) rfl dX0_takeCode_5 ?_
  refine lv_icmp_ne (tgt := 25) hx hb dX0_takeCode_8 (by decide) (fun c1 => ?_) (fun c1 => ?_)
  · have hJ := ite_f c1 hJ
    refine lv_aload_n hx hb dX0_takeCode_25 rfl (lv_at hl 0 rfl) ?_
    refine va_get (D := (dC, dI)) (ci := 0) (v := .ref (b 0)) (C := RX0) (T := TX0) (N := 4) hx hb hts (fun _ h => List.mem_cons_of_mem _ (List.mem_append_left _ (List.mem_append_right _ h))) hown hK hP 0 rfl rfl 0 (by decide) (hts _ (List.mem_of_getElem? (i := 1) rfl)) (fun _ h9 => h9) rfl dX0_takeCode_26 ?_
    refine lv_iload_n hx hb dX0_takeCode_29 rfl (lv_at hl 1 rfl) ?_
    obtain ⟨z2, e3, hJ⟩ := bnd hJ
    refine roVi (As := [.int p0]) (rest := []) (ci := 1) (q0 := 0) hx hb hml hown hts (c_X1_hasCode l dC dI kI b (o_d o) p0 z2 e3) gX0_takeCode_X1_hasCode qX1_hasCode rfl ⟨Nat.le_of_ble_eq_true rfl, Nat.le_of_ble_eq_true rfl⟩ ⟨rfl, rfl⟩ hNW hK hP hS (hP.sub (ws' := DWc b kI (o_d o)) [2, 3, 4, 5, 6, 7] rfl) hK rfl rfl rfl hl.1 rfl rfl (Nat.le_of_ble_eq_true rfl) dX0_takeCode_30 z0 (fun H locs hP hS => ?_)
    refine lv_if_eq (tgt := 44) hx hb dX0_takeCode_33 (by decide) (fun c4 => ?_) (fun c4 => ?_)
    · have hJ := ite_t c4 hJ
      refine lv_iload_n hx hb dX0_takeCode_44 rfl (lv_at hl 1 rfl) ?_
      refine lv_aload_n hx hb dX0_takeCode_45 rfl (lv_at hl 0 rfl) ?_
      refine va_get (D := (dC, dI)) (ci := 0) (v := .ref (b 0)) (C := RX0) (T := TX0) (N := 4) hx hb hts (fun _ h => List.mem_cons_of_mem _ (List.mem_append_left _ (List.mem_append_right _ h))) hown hK hP 0 rfl rfl 0 (by decide) (hts _ (List.mem_of_getElem? (i := 1) rfl)) (fun _ h9 => h9) rfl dX0_takeCode_46 ?_
      refine va_getN (D := (dC, dI)) (ci := 1) (v := .int (d_count (o_d o))) (C := RX1) (T := TX1) (N := 8) hx hb hts (fun _ h => List.mem_cons_of_mem _ (List.mem_append_right _ h)) hown hK hP 2 rfl rfl 7 (by decide) (hNW.use (i := 8) rfl) (fun _ h9 => h9) rfl dX0_takeCode_49 ?_
      refine lv_icmp_ne (tgt := 77) hx hb dX0_takeCode_52 (by decide) (fun c5 => ?_) (fun c5 => ?_)
      · have hJ := ite_f c5 hJ
        exact L77 o H locs ls hP hD hS (lv_sub hl [0] rfl) hJ
      · have hJ := ite_t c5 hJ
        refine lv_aload_n hx hb dX0_takeCode_55 rfl (lv_at hl 0 rfl) ?_
        refine va_get (D := (dC, dI)) (ci := 0) (v := .int (o_previous o)) (C := RX0) (T := TX0) (N := 4) hx hb hts (fun _ h => List.mem_cons_of_mem _ (List.mem_append_left _ (List.mem_append_right _ h))) hown hK hP 0 rfl rfl 1 (by decide) (hts _ (List.mem_of_getElem? (i := 2) rfl)) (fun _ h9 => h9) rfl dX0_takeCode_56 ?_
        refine lv_iconst (v := -1) hx hb dX0_takeCode_59 (by decide) ?_
        refine lv_icmp_eq (tgt := 77) hx hb dX0_takeCode_60 (by decide) (fun c6 => ?_) (fun c6 => ?_)
        · have hJ := ite_t c6 hJ
          exact L77 o H locs ls hP hD hS (lv_sub hl [0] rfl) hJ
        · have hJ := ite_f c6 hJ
          refine lv_aload_n hx hb dX0_takeCode_63 rfl (lv_at hl 0 rfl) ?_
          refine va_get (D := (dC, dI)) (ci := 0) (v := .ref (b 0)) (C := RX0) (T := TX0) (N := 4) hx hb hts (fun _ h => List.mem_cons_of_mem _ (List.mem_append_left _ (List.mem_append_right _ h))) hown hK hP 0 rfl rfl 0 (by decide) (hts _ (List.mem_of_getElem? (i := 1) rfl)) (fun _ h9 => h9) rfl dX0_takeCode_64 ?_
          obtain ⟨z7, e8, hJ⟩ := bnd hJ
          refine roVi (As := []) (rest := []) (ci := 1) (q0 := 0) hx hb hml hown hts (c_X1_hasNoRoom l dC dI kI b (o_d o) z7 e8) gX0_takeCode_X1_hasNoRoom qX1_hasNoRoom rfl ⟨Nat.le_of_ble_eq_true rfl, Nat.le_of_ble_eq_true rfl⟩ ⟨rfl, rfl⟩ hNW hK hP hS (hP.sub (ws' := DWc b kI (o_d o)) [2, 3, 4, 5, 6, 7] rfl) hK rfl rfl rfl hl.1 rfl rfl (Nat.le_of_ble_eq_true rfl) dX0_takeCode_67 z0 (fun H locs hP hS => ?_)
          refine lv_if_ne (tgt := 77) hx hb dX0_takeCode_70 (by decide) (fun c9 => ?_) (fun c9 => ?_)
          · have hJ := ite_f c9 hJ
            exact L77 o H locs ls hP hD hS (lv_sub hl [0] rfl) hJ
          · have hJ := ite_t c9 hJ
            refine lv_iconst (v := 1) hx hb dX0_takeCode_73 (by decide) ?_
            refine lv_goto (tgt := 78) hx hb dX0_takeCode_74 (by decide) ?_
            exact L78 o (1 : Int32) H locs ls hP hD hS (lv_sub hl [0] rfl) hJ
    · have hJ := ite_f c4 hJ
      refine lv_aload_n hx hb dX0_takeCode_36 rfl (lv_at hl 0 rfl) ?_
      refine lv_iload_n hx hb dX0_takeCode_37 rfl (lv_at hl 1 rfl) ?_
      refine lv_iload_n hx hb dX0_takeCode_38 rfl (lv_at hl 1 rfl) ?_
      refine lv_iconst (v := 0) hx hb dX0_takeCode_39 (by decide) ?_
      obtain ⟨z10, e11, hJ⟩ := bnd hJ
      refine rwViW (As := [.int p0, .int p0, .int (0 : Int32)]) (rest := []) (ci := 0) (q0 := 0) hx hb hml hown hts (c_X0_takePhrase fu l dC dI kI a b o p0 p0 (0 : Int32) H.size z10 e11) gX0_takeCode_X0_takePhrase qX0_takePhrase rfl ⟨Nat.le_of_ble_eq_true rfl, Nat.le_of_ble_eq_true rfl⟩ ⟨rfl, rfl⟩ hNW hK hP hD hS hA hK rfl rfl rfl hl.1 rfl rfl (Nat.le_of_ble_eq_true rfl) dX0_takeCode_40 z0 (fun H locs hP hD hS => ?_)
      obtain ⟨h12, hJ⟩ := ite_some hJ
      obtain rfl := Option.some.inj hJ
      exact rw_zret hx hb hr hlocks (nar_z h12) rfl hP hD hS dX0_takeCode_43
  · have hJ := ite_t c1 hJ
    refine lv_aload_n hx hb dX0_takeCode_11 rfl (lv_at hl 0 rfl) ?_
    refine va_get (D := (dC, dI)) (ci := 0) (v := .ref (b 0)) (C := RX0) (T := TX0) (N := 4) hx hb hts (fun _ h => List.mem_cons_of_mem _ (List.mem_append_left _ (List.mem_append_right _ h))) hown hK hP 0 rfl rfl 0 (by decide) (hts _ (List.mem_of_getElem? (i := 1) rfl)) (fun _ h9 => h9) rfl dX0_takeCode_12 ?_
    obtain ⟨z13, e14, hJ⟩ := bnd hJ
    refine rwVv (As := []) (rest := []) (wc := DWc b kI (o_d o)) (wc' := DWc b kI z13) (ws' := OWc a b kI (mkO z13 (o_previous o) (o_symbols o) (o_count o))) (ci := 1) (q0 := 0) hx hb hml hown hts (c_X1_keepFirstCodes fu l dC dI kI b (o_d o) H.size z13 e14) gX0_takeCode_X1_keepFirstCodes qX1_keepFirstCodes rfl ⟨Nat.le_of_ble_eq_true rfl, Nat.le_of_ble_eq_true rfl⟩ ⟨rfl, rfl⟩ hNW hK hP hD hS hA [2, 3, 4, 5, 6, 7] [0, 1] rfl rfl (by decide) (by decide) (by decide) [0, 1, 2, 3, 4, 5, 6, 7] rfl (by decide) hK rfl rfl rfl hl.1 rfl rfl (Nat.le_of_ble_eq_true rfl) dX0_takeCode_15 z0 (fun H locs hP hD hS => ?_)
    refine lv_aload_n hx hb dX0_takeCode_18 rfl (lv_at hl 0 rfl) ?_
    refine lv_iconst (v := -1) hx hb dX0_takeCode_19 (by decide) ?_
    refine va_put (D := (dC, dI)) (ci := 0) (v := .int (-1 : Int32)) (ty := .int) (C := RX0) (T := TX0) (N := 4) hx hb hts (fun _ h => List.mem_cons_of_mem _ (List.mem_append_left _ (List.mem_append_right _ h))) tyX0 tyX0_ok nmX0 hown hK hP hD hS 0 rfl rfl 1 (by decide) (hts _ (List.mem_of_getElem? (i := 2) rfl)) (fun _ h9 => h9) rfl (by decide +kernel) rfl rfl (Nat.le_of_ble_eq_true rfl) dX0_takeCode_20 (fun H locs hP hD hS => ?_)
    have hP : va_P (dC, dI) vwCl (OWc a b kI (mkO z13 (-1 : Int32) (o_symbols o) (o_count o))) H := hP
    have hD : va_D A (OWc a b kI (mkO z13 (-1 : Int32) (o_symbols o) (o_count o))) := hD
    refine lv_iconst (v := 1) hx hb dX0_takeCode_23 (by decide) ?_
    obtain rfl := Option.some.inj hJ
    exact rw_zret hx hb hr hlocks rfl rfl hP hD hS dX0_takeCode_24
theorem qX0_readCodes : (yX0_readCodes.cls = RX0) ∧ yX0_readCodes.cls ≠ "java/lang/invoke/MethodHandle" ∧ yX0_readCodes.cls ≠ "java/lang/invoke/VarHandle" ∧ (parseMethodDescriptor yX0_readCodes.desc).map (fun d => d.parameters.length) = some 1 := by decide +kernel
set_option maxHeartbeats 4000000 in
set_option maxRecDepth 100000 in
theorem c_X0_readCodes (fu : Nat) (l : Launch) (dC : Nat → ClassId) (dI : Nat → Nat → Nat) (kI : ClassId) (a : Nat → Nat) (b : Nat → Nat) (o : OS) (h0 : Nat) (t0 : TS) (xa0 : Nat) (nx : Nat) (fx : Nat → Int32) (sz : Nat) (z : Int32 × OS × TS) (hJ : J_X0_readCodes fu o t0 nx fx = some z) : Met l yX0_readCodes wsX0_readCodes ({ frames := 6, cells := 0, slots := 0, locals := 134 }) (va_Pc [.ref (a 0), .ref h0] (RWp dC dI sz ((OWc a b kI o) ++ (TWc h0 xa0 t0) ++ (AWc xa0 kI nx fx)) [(kI, .int)])) (rwQi dC dI (va_A ((OWc a b kI o) ++ (TWc h0 xa0 t0) ++ (AWc xa0 kI nx fx)) sz) ((OWc a b kI z.2.1) ++ (TWc h0 xa0 z.2.2) ++ (AWc xa0 kI nx fx)) z.1) 0 0 (va_A ((OWc a b kI o) ++ (TWc h0 xa0 t0) ++ (AWc xa0 kI nx fx)) sz) := by
  refine rw_start (Qc := fun A => rwQi dC dI A ((OWc a b kI z.2.1) ++ (TWc h0 xa0 z.2.2) ++ (AWc xa0 kI nx fx)) z.1) (cc := cX0_readCodes) (maxL := 3) (ret := (some .boolean)) (by decide) rfl (Nat.le_of_ble_eq_true rfl) ?_
  intro p e s m args below meth c hx hb hr hml hown hts hlocks hNW hK A hA H locs ls hP hD hS hl
  have hown : s.vm.findClass RX0 = some m.cls := hown
  have hl : lv_has ls 3 [(0, .ref (a 0)), (1, .ref h0)] := hl
  unfold J_X0_readCodes at hJ
  have L51 : ∀ (o : OS) (t0 : TS) (H : Heap) (locs : List Loc) (ls : Array Slot), va_P (dC, dI) vwCl ((OWc a b kI o) ++ (TWc h0 xa0 t0) ++ (AWc xa0 kI nx fx)) H → va_D A ((OWc a b kI o) ++ (TWc h0 xa0 t0) ++ (AWc xa0 kI nx fx)) → va_S A s.heap H locs → lv_has ls 3 [(1, .ref h0)] → J_X0_readCodes_b51 fu nx fx o t0 = some z → W p l e ({ frames := 6, cells := 0, slots := 0, locals := 134 }) s m args below meth c H locs 0 0 (MQ below (rwQi dC dI A ((OWc a b kI z.2.1) ++ (TWc h0 xa0 z.2.2) ++ (AWc xa0 kI nx fx)) z.1) args s 0 0 (A)) (F0 m 51 ls []) := by
    intro o t0 H locs ls hP hD hS hl hJ
    unfold J_X0_readCodes_b51 at hJ
    refine lv_aload_n hx hb dX0_readCodes_51 rfl (lv_at hl 0 rfl) ?_
    refine va_getN (D := (dC, dI)) (ci := 6) (v := .int (t_kind t0)) (C := RX6) (T := TX6) (N := 5) hx hb hts (fun _ h => List.mem_cons_of_mem _ (List.mem_append_left _ (List.mem_append_left _ (List.mem_append_right _ h)))) hown hK hP 8 rfl rfl 2 (by decide) (hNW.use (i := 33) rfl) (fun _ h9 => h9) rfl dX0_readCodes_52 ?_
    refine lv_if_ne (tgt := 62) hx hb dX0_readCodes_55 (by decide) (fun c13 => ?_) (fun c13 => ?_)
    · have hJ := ite_f c13 hJ
      refine lv_iconst (v := 0) hx hb dX0_readCodes_62 (by decide) ?_
      obtain rfl := Option.some.inj hJ
      exact rw_zret hx hb hr hlocks rfl rfl hP hD hS dX0_readCodes_63
    · have hJ := ite_t c13 hJ
      refine lv_iconst (v := 1) hx hb dX0_readCodes_58 (by decide) ?_
      refine lv_goto (tgt := 63) hx hb dX0_readCodes_59 (by decide) ?_
      obtain rfl := Option.some.inj hJ
      exact rw_zret hx hb hr hlocks rfl rfl hP hD hS dX0_readCodes_63
  have L6 : ∀ (n : Nat) (o : OS) (t0 : TS) (y2 : Int32) (H : Heap) (locs : List Loc) (ls : Array Slot), va_P (dC, dI) vwCl ((OWc a b kI o) ++ (TWc h0 xa0 t0) ++ (AWc xa0 kI nx fx)) H → va_D A ((OWc a b kI o) ++ (TWc h0 xa0 t0) ++ (AWc xa0 kI nx fx)) → va_S A s.heap H locs → lv_has ls 3 [(0, .ref (a 0)), (1, .ref h0), (2, .int y2)] → J_X0_readCodes_b6 fu nx fx n o t0 y2 = some z → W p l e ({ frames := 6, cells := 0, slots := 0, locals := 134 }) s m args below meth c H locs 0 0 (MQ below (rwQi dC dI A ((OWc a b kI z.2.1) ++ (TWc h0 xa0 z.2.2) ++ (AWc xa0 kI nx fx)) z.1) args s 0 0 (A)) (F0 m 6 ls []) := by
    intro n
    induction n with
    | zero =>
      intro o t0 y2 H locs ls hP hD hS hl hJ
      rw [J_X0_readCodes_b6] at hJ; cases hJ
    | succ n ih =>
      intro o t0 y2 H locs ls hP hD hS hl hJ
      rw [J_X0_readCodes_b6] at hJ
      refine lv_iload_n hx hb dX0_readCodes_6 rfl (lv_at hl 2 rfl) ?_
      refine lv_sipush (v := 800) hx hb dX0_readCodes_7 (by decide) ?_
      refine lv_icmp_ge (tgt := 51) hx hb dX0_readCodes_10 (by decide) (fun c3 => ?_) (fun c3 => ?_)
      · have hJ := ite_t c3 hJ
        exact L51 o t0 H locs ls hP hD hS (lv_sub hl [1] rfl) hJ
      · have hJ := ite_f c3 hJ
        refine lv_aload_n hx hb dX0_readCodes_13 rfl (lv_at hl 1 rfl) ?_
        refine va_getN (D := (dC, dI)) (ci := 6) (v := .int (t_kind t0)) (C := RX6) (T := TX6) (N := 5) hx hb hts (fun _ h => List.mem_cons_of_mem _ (List.mem_append_left _ (List.mem_append_left _ (List.mem_append_right _ h)))) hown hK hP 8 rfl rfl 2 (by decide) (hNW.use (i := 33) rfl) (fun _ h9 => h9) rfl dX0_readCodes_14 ?_
        refine lv_if_eq (tgt := 51) hx hb dX0_readCodes_17 (by decide) (fun c4 => ?_) (fun c4 => ?_)
        · have hJ := ite_t c4 hJ
          exact L51 o t0 H locs ls hP hD hS (lv_sub hl [1] rfl) hJ
        · have hJ := ite_f c4 hJ
          refine lv_aload_n hx hb dX0_readCodes_20 rfl (lv_at hl 1 rfl) ?_
          refine va_getN (D := (dC, dI)) (ci := 6) (v := .int (t_kind t0)) (C := RX6) (T := TX6) (N := 5) hx hb hts (fun _ h => List.mem_cons_of_mem _ (List.mem_append_left _ (List.mem_append_left _ (List.mem_append_right _ h)))) hown hK hP 8 rfl rfl 2 (by decide) (hNW.use (i := 33) rfl) (fun _ h9 => h9) rfl dX0_readCodes_21 ?_
          refine lv_iconst (v := 2) hx hb dX0_readCodes_24 (by decide) ?_
          refine lv_icmp_ne (tgt := 39) hx hb dX0_readCodes_25 (by decide) (fun c5 => ?_) (fun c5 => ?_)
          · have hJ := ite_f c5 hJ
            refine lv_iconst (v := 0) hx hb dX0_readCodes_39 (by decide) ?_
            obtain rfl := Option.some.inj hJ
            exact rw_zret hx hb hr hlocks rfl rfl hP hD hS dX0_readCodes_40
          · have hJ := ite_t c5 hJ
            refine lv_aload_n hx hb dX0_readCodes_28 rfl (lv_at hl 0 rfl) ?_
            refine lv_aload_n hx hb dX0_readCodes_29 rfl (lv_at hl 1 rfl) ?_
            obtain ⟨z6, e7, hJ⟩ := bnd hJ
            refine roVi (As := []) (rest := [.ref (a 0)]) (ci := 6) (q0 := 0) hx hb hml hown hts (c_X6_number fu l dC dI kI h0 t0 xa0 nx fx z6 e7) gX0_readCodes_X6_number qX6_number rfl ⟨Nat.le_of_ble_eq_true rfl, Nat.le_of_ble_eq_true rfl⟩ ⟨rfl, rfl⟩ hNW hK hP hS (hP.sub (ws' := (TWc h0 xa0 t0) ++ (AWc xa0 kI nx fx)) [8, 9] rfl) hK rfl rfl rfl hl.1 rfl rfl (Nat.le_of_ble_eq_true rfl) dX0_readCodes_30 z0 (fun H locs hP hS => ?_)
            obtain ⟨z8, e9, hJ⟩ := bnd hJ
            refine rwVi (As := [.int z6]) (rest := []) (wc := OWc a b kI o) (wc' := OWc a b kI z8.2) (ws' := (OWc a b kI z8.2) ++ (TWc h0 xa0 t0) ++ (AWc xa0 kI nx fx)) (ci := 0) (q0 := 0) hx hb hml hown hts (c_X0_takeCode fu l dC dI kI a b o z6 H.size z8 e9) gX0_readCodes_X0_takeCode qX0_takeCode rfl ⟨Nat.le_of_ble_eq_true rfl, Nat.le_of_ble_eq_true rfl⟩ ⟨rfl, rfl⟩ hNW hK hP hD hS hA [0, 1, 2, 3, 4, 5, 6, 7] [8, 9] rfl rfl (by decide) (by decide) (by decide) [2, 3, 4, 5, 6, 7, 8, 9, 0, 1] rfl (by decide) hK rfl rfl rfl hl.1 rfl rfl (Nat.le_of_ble_eq_true rfl) dX0_readCodes_33 z0 (fun H locs hP hD hS => ?_)
            refine lv_if_ne (tgt := 41) hx hb dX0_readCodes_36 (by decide) (fun c10 => ?_) (fun c10 => ?_)
            · have hJ := ite_f c10 hJ
              refine lv_aload_n hx hb dX0_readCodes_41 rfl (lv_at hl 1 rfl) ?_
              obtain ⟨z11, e12, hJ⟩ := bnd hJ
              refine rwVv (As := []) (rest := []) (wc := (TWc h0 xa0 t0) ++ (AWc xa0 kI nx fx)) (wc' := (TWc h0 xa0 z11) ++ (AWc xa0 kI nx fx)) (ws' := (OWc a b kI z8.2) ++ (TWc h0 xa0 z11) ++ (AWc xa0 kI nx fx)) (ci := 6) (q0 := 0) hx hb hml hown hts (c_X6_step fu l dC dI kI h0 t0 xa0 nx fx H.size z11 e12) gX0_readCodes_X6_step qX6_step rfl ⟨Nat.le_of_ble_eq_true rfl, Nat.le_of_ble_eq_true rfl⟩ ⟨rfl, rfl⟩ hNW hK hP hD hS hA [8, 9] [0, 1, 2, 3, 4, 5, 6, 7] rfl rfl (by decide) (by decide) (by decide) [0, 1, 2, 3, 4, 5, 6, 7, 8, 9] rfl (by decide) hK rfl rfl rfl hl.1 rfl rfl (Nat.le_of_ble_eq_true rfl) dX0_readCodes_42 z0 (fun H locs hP hD hS => ?_)
              refine lv_iinc (v := y2 + 1) (lv' := [(2, .int (y2 + 1)), (0, .ref (a 0)), (1, .ref h0)]) hx hb dX0_readCodes_45 hl (k := 2) rfl rfl (by decide) rfl (fun ls hl => ?_)
              refine lv_goto (tgt := 6) hx hb dX0_readCodes_48 (by decide) ?_
              exact ih z8.2 z11 (y2 + 1) H locs ls hP hD hS (lv_sub hl [1, 2, 0] rfl) hJ
            · have hJ := ite_t c10 hJ
              refine lv_iconst (v := 0) hx hb dX0_readCodes_39 (by decide) ?_
              obtain rfl := Option.some.inj hJ
              exact rw_zret hx hb hr hlocks rfl rfl hP hD hS dX0_readCodes_40
  refine lv_aload_n hx hb dX0_readCodes_0 rfl (lv_at hl 1 rfl) ?_
  obtain ⟨z1, e2, hJ⟩ := bnd hJ
  refine rwVv (As := []) (rest := []) (wc := (TWc h0 xa0 t0) ++ (AWc xa0 kI nx fx)) (wc' := (TWc h0 xa0 z1) ++ (AWc xa0 kI nx fx)) (ws' := (OWc a b kI o) ++ (TWc h0 xa0 z1) ++ (AWc xa0 kI nx fx)) (ci := 6) (q0 := 0) hx hb hml hown hts (c_X6_step fu l dC dI kI h0 t0 xa0 nx fx H.size z1 e2) gX0_readCodes_X6_step qX6_step rfl ⟨Nat.le_of_ble_eq_true rfl, Nat.le_of_ble_eq_true rfl⟩ ⟨rfl, rfl⟩ hNW hK hP hD hS hA [8, 9] [0, 1, 2, 3, 4, 5, 6, 7] rfl rfl (by decide) (by decide) (by decide) [0, 1, 2, 3, 4, 5, 6, 7, 8, 9] rfl (by decide) hK rfl rfl rfl hl.1 rfl rfl (Nat.le_of_ble_eq_true rfl) dX0_readCodes_1 z0 (fun H locs hP hD hS => ?_)
  refine lv_iconst (v := 0) hx hb dX0_readCodes_4 (by decide) ?_
  refine lv_istore_n (lv' := [(2, .int (0 : Int32)), (0, .ref (a 0)), (1, .ref h0)]) hx hb dX0_readCodes_5 rfl hl (by decide) rfl (fun ls hl => ?_)
  exact L6 fu o z1 (0 : Int32) H locs ls hP hD hS (lv_sub hl [1, 2, 0] rfl) hJ
theorem qX7_copyRow : (yX7_copyRow.cls = RX7) ∧ yX7_copyRow.cls ≠ "java/lang/invoke/MethodHandle" ∧ yX7_copyRow.cls ≠ "java/lang/invoke/VarHandle" ∧ (parseMethodDescriptor yX7_copyRow.desc).map (fun d => d.parameters.length) = some 3 := by decide +kernel
set_option maxHeartbeats 4000000 in
set_option maxRecDepth 100000 in
theorem c_X7_copyRow (l : Launch) (dC : Nat → ClassId) (dI : Nat → Nat → Nat) (kI : ClassId) (ax0 : Nat) (n0 : Nat) (f0 : Nat → Int32) (ax1 : Nat) (n1 : Nat) (f1 : Nat → Int32) (p2 : Int32) (sz : Nat) (z : (Nat → Int32)) (hJ : J_X7_copyRow n0 f0 n1 f1 p2 = some z) : Met l yX7_copyRow wsX7_copyRow ({ frames := 1, cells := 0, slots := 0, locals := 40 }) (va_Pc [.ref ax0, .ref ax1, .int p2] (RWp dC dI sz ((AWc ax0 kI n0 f0) ++ (AWc ax1 kI n1 f1)) [(kI, .int)])) (rwQv dC dI (va_A ((AWc ax0 kI n0 f0) ++ (AWc ax1 kI n1 f1)) sz) ((AWc ax0 kI n0 f0) ++ (AWc ax1 kI n1 z))) 0 0 (va_A ((AWc ax0 kI n0 f0) ++ (AWc ax1 kI n1 f1)) sz) := by
  refine rw_start (Qc := fun A => rwQv dC dI A ((AWc ax0 kI n0 f0) ++ (AWc ax1 kI n1 z))) (cc := cX7_copyRow) (maxL := 4) (ret := none) (by decide) rfl (Nat.le_of_ble_eq_true rfl) ?_
  intro p e s m args below meth c hx hb hr hml hown hts hlocks hNW hK A hA H locs ls hP hD hS hl
  have hown : s.vm.findClass RX7 = some m.cls := hown
  have hl : lv_has ls 4 [(0, .ref ax0), (1, .ref ax1), (2, .int p2)] := hl
  unfold J_X7_copyRow at hJ
  refine lv_iload_n hx hb dX7_copyRow_0 rfl (lv_at hl 2 rfl) ?_
  refine lv_aload_n hx hb dX7_copyRow_1 rfl (lv_at hl 0 rfl) ?_
  refine va_alen (v := nI n0) (x := (n0, .inl f0)) hx hb hK hP 0 0 rfl rfl rfl dX7_copyRow_2 ?_
  refine lv_aload_n hx hb dX7_copyRow_3 rfl (lv_at hl 1 rfl) ?_
  refine va_alen (v := nI n1) (x := (n1, .inl f1)) hx hb hK hP 1 0 rfl rfl rfl dX7_copyRow_4 ?_
  refine va_mmin hx hb (hml.trans hl.1.symm) hown (hts _ (List.mem_of_getElem? (i := 1) rfl)) (hts _ (List.mem_of_getElem? (i := 2) rfl)) (hts _ (List.mem_of_getElem? (i := 3) rfl)) (hts _ (List.mem_of_getElem? (i := 4) rfl)) (Nat.le_of_ble_eq_true rfl) (Nat.le_of_ble_eq_true rfl) (Nat.zero_le _) (Nat.zero_le _) dX7_copyRow_5 ?_
  refine va_mmin hx hb (hml.trans hl.1.symm) hown (hts _ (List.mem_of_getElem? (i := 1) rfl)) (hts _ (List.mem_of_getElem? (i := 2) rfl)) (hts _ (List.mem_of_getElem? (i := 3) rfl)) (hts _ (List.mem_of_getElem? (i := 4) rfl)) (Nat.le_of_ble_eq_true rfl) (Nat.le_of_ble_eq_true rfl) (Nat.zero_le _) (Nat.zero_le _) dX7_copyRow_8 ?_
  refine lv_istore_n (lv' := [(3, .int (if (if (nI n1) < (nI n0) then (nI n1) else (nI n0)) < p2 then (if (nI n1) < (nI n0) then (nI n1) else (nI n0)) else p2)), (0, .ref ax0), (1, .ref ax1), (2, .int p2)]) hx hb dX7_copyRow_11 rfl hl (by decide) rfl (fun ls hl => ?_)
  refine lv_iload_n hx hb dX7_copyRow_12 rfl (lv_at hl 0 rfl) ?_
  refine lv_if_le (tgt := 24) hx hb dX7_copyRow_13 (by decide) (fun c1 => ?_) (fun c1 => ?_)
  · have hJ := ite_t c1 hJ
    obtain rfl := Option.some.inj hJ
    exact rw_vret hx hb hr hlocks hP hD hS dX7_copyRow_24
  · have hJ := ite_f c1 hJ
    refine lv_aload_n hx hb dX7_copyRow_16 rfl (lv_at hl 1 rfl) ?_
    refine lv_iconst (v := 0) hx hb dX7_copyRow_17 (by decide) ?_
    refine lv_aload_n hx hb dX7_copyRow_18 rfl (lv_at hl 2 rfl) ?_
    refine lv_iconst (v := 0) hx hb dX7_copyRow_19 (by decide) ?_
    refine lv_iload_n hx hb dX7_copyRow_20 rfl (lv_at hl 0 rfl) ?_
    obtain ⟨g2, e3, hJ⟩ := bnd hJ
    refine cp_int (f := f0) (g := f1) hx hb hml hl.1 hown (hts _ (List.mem_of_getElem? (i := 5) rfl)) (hts _ (List.mem_of_getElem? (i := 6) rfl)) (hts _ (List.mem_of_getElem? (i := 7) rfl)) (hts _ (List.mem_of_getElem? (i := 8) rfl)) hK hP hD hS 0 1 0 0 rfl rfl rfl rfl e3 (Nat.le_of_ble_eq_true rfl) (by decide) dX7_copyRow_21 (fun H locs hP hD hS => ?_)
    have hP : va_P (dC, dI) vwCl ((AWc ax0 kI n0 f0) ++ (AWc ax1 kI n1 g2)) H := hP
    have hD : va_D A ((AWc ax0 kI n0 f0) ++ (AWc ax1 kI n1 g2)) := hD
    obtain rfl := Option.some.inj hJ
    exact rw_vret hx hb hr hlocks hP hD hS dX7_copyRow_24
theorem qX1_copyFrom : (yX1_copyFrom.cls = RX1) ∧ yX1_copyFrom.cls ≠ "java/lang/invoke/MethodHandle" ∧ yX1_copyFrom.cls ≠ "java/lang/invoke/VarHandle" ∧ (parseMethodDescriptor yX1_copyFrom.desc).map (fun d => d.parameters.length) = some 1 := by decide +kernel
set_option maxHeartbeats 4000000 in
set_option maxRecDepth 100000 in
theorem c_X1_copyFrom (l : Launch) (dC : Nat → ClassId) (dI : Nat → Nat → Nat) (kI : ClassId) (b : Nat → Nat) (d : DS) (b0 : Nat → Nat) (d0 : DS) (sz : Nat) (z : DS) (hJ : J_X1_copyFrom d d0 = some z) : Met l yX1_copyFrom wsX1_copyFrom ({ frames := 2, cells := 0, slots := 0, locals := 63 }) (va_Pc [.ref (b 0), .ref (b0 0)] (RWp dC dI sz ((DWc b kI d) ++ (DWc b0 kI d0)) [(kI, .int)])) (rwQv dC dI (va_A ((DWc b kI d) ++ (DWc b0 kI d0)) sz) ((DWc b kI z) ++ (DWc b0 kI d0))) 0 0 (va_A ((DWc b kI d) ++ (DWc b0 kI d0)) sz) := by
  refine rw_start (Qc := fun A => rwQv dC dI A ((DWc b kI z) ++ (DWc b0 kI d0))) (cc := cX1_copyFrom) (maxL := 2) (ret := none) (by decide) rfl (Nat.le_of_ble_eq_true rfl) ?_
  intro p e s m args below meth c hx hb hr hml hown hts hlocks hNW hK A hA H locs ls hP hD hS hl
  have hown : s.vm.findClass RX1 = some m.cls := hown
  have hl : lv_has ls 2 [(0, .ref (b 0)), (1, .ref (b0 0))] := hl
  unfold J_X1_copyFrom at hJ
  refine lv_aload_n hx hb dX1_copyFrom_0 rfl (lv_at hl 0 rfl) ?_
  refine lv_aload_n hx hb dX1_copyFrom_1 rfl (lv_at hl 1 rfl) ?_
  refine va_get (D := (dC, dI)) (ci := 1) (v := .int (d_alphabet d0)) (C := RX1) (T := TX1) (N := 8) hx hb hts (fun _ h => List.mem_cons_of_mem _ (List.mem_append_right _ h)) hown hK hP 6 rfl rfl 5 (by decide) (hts _ (List.mem_of_getElem? (i := 1) rfl)) (fun _ h9 => h9) rfl dX1_copyFrom_2 ?_
  refine va_put (D := (dC, dI)) (ci := 1) (v := .int (d_alphabet d0)) (ty := .int) (C := RX1) (T := TX1) (N := 8) hx hb hts (fun _ h => List.mem_cons_of_mem _ (List.mem_append_right _ h)) tyX1 tyX1_ok nmX1 hown hK hP hD hS 0 rfl rfl 5 (by decide) (hts _ (List.mem_of_getElem? (i := 1) rfl)) (fun _ h9 => h9) rfl (by decide +kernel) rfl rfl (Nat.le_of_ble_eq_true rfl) dX1_copyFrom_5 (fun H locs hP hD hS => ?_)
  have hP : va_P (dC, dI) vwCl ((DWc b kI (mkD (d_prefix d) (d_lastSymbol d) (d_lengths d) (d_newest d) (d_older d) (d_alphabet d0) (d_widest d) (d_count d))) ++ (DWc b0 kI d0)) H := hP
  have hD : va_D A ((DWc b kI (mkD (d_prefix d) (d_lastSymbol d) (d_lengths d) (d_newest d) (d_older d) (d_alphabet d0) (d_widest d) (d_count d))) ++ (DWc b0 kI d0)) := hD
  refine lv_aload_n hx hb dX1_copyFrom_8 rfl (lv_at hl 0 rfl) ?_
  refine lv_aload_n hx hb dX1_copyFrom_9 rfl (lv_at hl 1 rfl) ?_
  refine va_get (D := (dC, dI)) (ci := 1) (v := .int (d_widest d0)) (C := RX1) (T := TX1) (N := 8) hx hb hts (fun _ h => List.mem_cons_of_mem _ (List.mem_append_right _ h)) hown hK hP 6 rfl rfl 6 (by decide) (hts _ (List.mem_of_getElem? (i := 2) rfl)) (fun _ h9 => h9) rfl dX1_copyFrom_10 ?_
  refine va_put (D := (dC, dI)) (ci := 1) (v := .int (d_widest d0)) (ty := .int) (C := RX1) (T := TX1) (N := 8) hx hb hts (fun _ h => List.mem_cons_of_mem _ (List.mem_append_right _ h)) tyX1 tyX1_ok nmX1 hown hK hP hD hS 0 rfl rfl 6 (by decide) (hts _ (List.mem_of_getElem? (i := 2) rfl)) (fun _ h9 => h9) rfl (by decide +kernel) rfl rfl (Nat.le_of_ble_eq_true rfl) dX1_copyFrom_13 (fun H locs hP hD hS => ?_)
  have hP : va_P (dC, dI) vwCl ((DWc b kI (mkD (d_prefix d) (d_lastSymbol d) (d_lengths d) (d_newest d) (d_older d) (d_alphabet d0) (d_widest d0) (d_count d))) ++ (DWc b0 kI d0)) H := hP
  have hD : va_D A ((DWc b kI (mkD (d_prefix d) (d_lastSymbol d) (d_lengths d) (d_newest d) (d_older d) (d_alphabet d0) (d_widest d0) (d_count d))) ++ (DWc b0 kI d0)) := hD
  refine lv_aload_n hx hb dX1_copyFrom_16 rfl (lv_at hl 0 rfl) ?_
  refine lv_aload_n hx hb dX1_copyFrom_17 rfl (lv_at hl 1 rfl) ?_
  refine va_get (D := (dC, dI)) (ci := 1) (v := .int (d_count d0)) (C := RX1) (T := TX1) (N := 8) hx hb hts (fun _ h => List.mem_cons_of_mem _ (List.mem_append_right _ h)) hown hK hP 6 rfl rfl 7 (by decide) (hts _ (List.mem_of_getElem? (i := 3) rfl)) (fun _ h9 => h9) rfl dX1_copyFrom_18 ?_
  refine va_put (D := (dC, dI)) (ci := 1) (v := .int (d_count d0)) (ty := .int) (C := RX1) (T := TX1) (N := 8) hx hb hts (fun _ h => List.mem_cons_of_mem _ (List.mem_append_right _ h)) tyX1 tyX1_ok nmX1 hown hK hP hD hS 0 rfl rfl 7 (by decide) (hts _ (List.mem_of_getElem? (i := 3) rfl)) (fun _ h9 => h9) rfl (by decide +kernel) rfl rfl (Nat.le_of_ble_eq_true rfl) dX1_copyFrom_21 (fun H locs hP hD hS => ?_)
  have hP : va_P (dC, dI) vwCl ((DWc b kI (mkD (d_prefix d) (d_lastSymbol d) (d_lengths d) (d_newest d) (d_older d) (d_alphabet d0) (d_widest d0) (d_count d0))) ++ (DWc b0 kI d0)) H := hP
  have hD : va_D A ((DWc b kI (mkD (d_prefix d) (d_lastSymbol d) (d_lengths d) (d_newest d) (d_older d) (d_alphabet d0) (d_widest d0) (d_count d0))) ++ (DWc b0 kI d0)) := hD
  refine lv_aload_n hx hb dX1_copyFrom_24 rfl (lv_at hl 1 rfl) ?_
  refine va_get (D := (dC, dI)) (ci := 1) (v := .ref (b0 1)) (C := RX1) (T := TX1) (N := 8) hx hb hts (fun _ h => List.mem_cons_of_mem _ (List.mem_append_right _ h)) hown hK hP 6 rfl rfl 0 (by decide) (hts _ (List.mem_of_getElem? (i := 4) rfl)) (fun _ h9 => h9) rfl dX1_copyFrom_25 ?_
  refine lv_aload_n hx hb dX1_copyFrom_28 rfl (lv_at hl 0 rfl) ?_
  refine va_get (D := (dC, dI)) (ci := 1) (v := .ref (b 1)) (C := RX1) (T := TX1) (N := 8) hx hb hts (fun _ h => List.mem_cons_of_mem _ (List.mem_append_right _ h)) hown hK hP 0 rfl rfl 0 (by decide) (hts _ (List.mem_of_getElem? (i := 4) rfl)) (fun _ h9 => h9) rfl dX1_copyFrom_29 ?_
  refine lv_aload_n hx hb dX1_copyFrom_32 rfl (lv_at hl 0 rfl) ?_
  refine va_get (D := (dC, dI)) (ci := 1) (v := .int (d_count d0)) (C := RX1) (T := TX1) (N := 8) hx hb hts (fun _ h => List.mem_cons_of_mem _ (List.mem_append_right _ h)) hown hK hP 0 rfl rfl 7 (by decide) (hts _ (List.mem_of_getElem? (i := 3) rfl)) (fun _ h9 => h9) rfl dX1_copyFrom_33 ?_
  obtain ⟨z1, e2, hJ⟩ := bnd hJ
  refine rwSNv (As := [.ref (b0 1), .ref (b 1), .int (d_count d0)]) (rest := []) (wc := (AWc (b0 1) kI 256 (d_prefix d0)) ++ (AWc (b 1) kI 256 (d_prefix d))) (wc' := (AWc (b0 1) kI 256 (d_prefix d0)) ++ (AWc (b 1) kI 256 z1)) (ws' := (DWc b kI (mkD z1 (d_lastSymbol d) (d_lengths d) (d_newest d) (d_older d) (d_alphabet d0) (d_widest d0) (d_count d0))) ++ (DWc b0 kI d0)) hx hb hml hown hts (c_X7_copyRow l dC dI kI (b0 1) 256 (d_prefix d0) (b 1) 256 (d_prefix d) (d_count d0) H.size z1 e2) gX1_copyFrom_X7_copyRow_n63 qX7_copyRow rfl ⟨Nat.le_of_ble_eq_true rfl, Nat.le_of_ble_eq_true rfl⟩ (hNW.use0 (i := 54) rfl) (hts _ (List.mem_of_getElem? (i := 10) rfl)) (hts _ (List.mem_of_getElem? (i := 9) rfl)) ⟨rfl, rfl⟩ hNW hK hP hD hS hA [7, 1] [0, 2, 3, 4, 5, 6, 8, 9, 10, 11] rfl rfl (by decide) (by decide) (by decide) [0, 11, 1, 2, 3, 4, 5, 10, 6, 7, 8, 9] rfl (by decide) hK hl.1 rfl rfl (Nat.le_of_ble_eq_true rfl) dX1_copyFrom_36 z0 (fun H locs hP hD hS => ?_)
  refine lv_aload_n hx hb dX1_copyFrom_39 rfl (lv_at hl 1 rfl) ?_
  refine va_get (D := (dC, dI)) (ci := 1) (v := .ref (b0 2)) (C := RX1) (T := TX1) (N := 8) hx hb hts (fun _ h => List.mem_cons_of_mem _ (List.mem_append_right _ h)) hown hK hP 6 rfl rfl 1 (by decide) (hts _ (List.mem_of_getElem? (i := 5) rfl)) (fun _ h9 => h9) rfl dX1_copyFrom_40 ?_
  refine lv_aload_n hx hb dX1_copyFrom_43 rfl (lv_at hl 0 rfl) ?_
  refine va_get (D := (dC, dI)) (ci := 1) (v := .ref (b 2)) (C := RX1) (T := TX1) (N := 8) hx hb hts (fun _ h => List.mem_cons_of_mem _ (List.mem_append_right _ h)) hown hK hP 0 rfl rfl 1 (by decide) (hts _ (List.mem_of_getElem? (i := 5) rfl)) (fun _ h9 => h9) rfl dX1_copyFrom_44 ?_
  refine lv_aload_n hx hb dX1_copyFrom_47 rfl (lv_at hl 0 rfl) ?_
  refine va_get (D := (dC, dI)) (ci := 1) (v := .int (d_count d0)) (C := RX1) (T := TX1) (N := 8) hx hb hts (fun _ h => List.mem_cons_of_mem _ (List.mem_append_right _ h)) hown hK hP 0 rfl rfl 7 (by decide) (hts _ (List.mem_of_getElem? (i := 3) rfl)) (fun _ h9 => h9) rfl dX1_copyFrom_48 ?_
  obtain ⟨z3, e4, hJ⟩ := bnd hJ
  refine rwSNv (As := [.ref (b0 2), .ref (b 2), .int (d_count d0)]) (rest := []) (wc := (AWc (b0 2) kI 256 (d_lastSymbol d0)) ++ (AWc (b 2) kI 256 (d_lastSymbol d))) (wc' := (AWc (b0 2) kI 256 (d_lastSymbol d0)) ++ (AWc (b 2) kI 256 z3)) (ws' := (DWc b kI (mkD z1 z3 (d_lengths d) (d_newest d) (d_older d) (d_alphabet d0) (d_widest d0) (d_count d0))) ++ (DWc b0 kI d0)) hx hb hml hown hts (c_X7_copyRow l dC dI kI (b0 2) 256 (d_lastSymbol d0) (b 2) 256 (d_lastSymbol d) (d_count d0) H.size z3 e4) gX1_copyFrom_X7_copyRow_n63 qX7_copyRow rfl ⟨Nat.le_of_ble_eq_true rfl, Nat.le_of_ble_eq_true rfl⟩ (hNW.use0 (i := 54) rfl) (hts _ (List.mem_of_getElem? (i := 10) rfl)) (hts _ (List.mem_of_getElem? (i := 9) rfl)) ⟨rfl, rfl⟩ hNW hK hP hD hS hA [8, 2] [0, 1, 3, 4, 5, 6, 7, 9, 10, 11] rfl rfl (by decide) (by decide) (by decide) [0, 1, 11, 2, 3, 4, 5, 6, 10, 7, 8, 9] rfl (by decide) hK hl.1 rfl rfl (Nat.le_of_ble_eq_true rfl) dX1_copyFrom_51 z0 (fun H locs hP hD hS => ?_)
  refine lv_aload_n hx hb dX1_copyFrom_54 rfl (lv_at hl 1 rfl) ?_
  refine va_get (D := (dC, dI)) (ci := 1) (v := .ref (b0 3)) (C := RX1) (T := TX1) (N := 8) hx hb hts (fun _ h => List.mem_cons_of_mem _ (List.mem_append_right _ h)) hown hK hP 6 rfl rfl 2 (by decide) (hts _ (List.mem_of_getElem? (i := 6) rfl)) (fun _ h9 => h9) rfl dX1_copyFrom_55 ?_
  refine lv_aload_n hx hb dX1_copyFrom_58 rfl (lv_at hl 0 rfl) ?_
  refine va_get (D := (dC, dI)) (ci := 1) (v := .ref (b 3)) (C := RX1) (T := TX1) (N := 8) hx hb hts (fun _ h => List.mem_cons_of_mem _ (List.mem_append_right _ h)) hown hK hP 0 rfl rfl 2 (by decide) (hts _ (List.mem_of_getElem? (i := 6) rfl)) (fun _ h9 => h9) rfl dX1_copyFrom_59 ?_
  refine lv_aload_n hx hb dX1_copyFrom_62 rfl (lv_at hl 0 rfl) ?_
  refine va_get (D := (dC, dI)) (ci := 1) (v := .int (d_count d0)) (C := RX1) (T := TX1) (N := 8) hx hb hts (fun _ h => List.mem_cons_of_mem _ (List.mem_append_right _ h)) hown hK hP 0 rfl rfl 7 (by decide) (hts _ (List.mem_of_getElem? (i := 3) rfl)) (fun _ h9 => h9) rfl dX1_copyFrom_63 ?_
  obtain ⟨z5, e6, hJ⟩ := bnd hJ
  refine rwSNv (As := [.ref (b0 3), .ref (b 3), .int (d_count d0)]) (rest := []) (wc := (AWc (b0 3) kI 256 (d_lengths d0)) ++ (AWc (b 3) kI 256 (d_lengths d))) (wc' := (AWc (b0 3) kI 256 (d_lengths d0)) ++ (AWc (b 3) kI 256 z5)) (ws' := (DWc b kI (mkD z1 z3 z5 (d_newest d) (d_older d) (d_alphabet d0) (d_widest d0) (d_count d0))) ++ (DWc b0 kI d0)) hx hb hml hown hts (c_X7_copyRow l dC dI kI (b0 3) 256 (d_lengths d0) (b 3) 256 (d_lengths d) (d_count d0) H.size z5 e6) gX1_copyFrom_X7_copyRow_n63 qX7_copyRow rfl ⟨Nat.le_of_ble_eq_true rfl, Nat.le_of_ble_eq_true rfl⟩ (hNW.use0 (i := 54) rfl) (hts _ (List.mem_of_getElem? (i := 10) rfl)) (hts _ (List.mem_of_getElem? (i := 9) rfl)) ⟨rfl, rfl⟩ hNW hK hP hD hS hA [9, 3] [0, 1, 2, 4, 5, 6, 7, 8, 10, 11] rfl rfl (by decide) (by decide) (by decide) [0, 1, 2, 11, 3, 4, 5, 6, 7, 10, 8, 9] rfl (by decide) hK hl.1 rfl rfl (Nat.le_of_ble_eq_true rfl) dX1_copyFrom_66 z0 (fun H locs hP hD hS => ?_)
  refine lv_aload_n hx hb dX1_copyFrom_69 rfl (lv_at hl 1 rfl) ?_
  refine va_get (D := (dC, dI)) (ci := 1) (v := .ref (b0 4)) (C := RX1) (T := TX1) (N := 8) hx hb hts (fun _ h => List.mem_cons_of_mem _ (List.mem_append_right _ h)) hown hK hP 6 rfl rfl 3 (by decide) (hts _ (List.mem_of_getElem? (i := 7) rfl)) (fun _ h9 => h9) rfl dX1_copyFrom_70 ?_
  refine lv_aload_n hx hb dX1_copyFrom_73 rfl (lv_at hl 0 rfl) ?_
  refine va_get (D := (dC, dI)) (ci := 1) (v := .ref (b 4)) (C := RX1) (T := TX1) (N := 8) hx hb hts (fun _ h => List.mem_cons_of_mem _ (List.mem_append_right _ h)) hown hK hP 0 rfl rfl 3 (by decide) (hts _ (List.mem_of_getElem? (i := 7) rfl)) (fun _ h9 => h9) rfl dX1_copyFrom_74 ?_
  refine lv_aload_n hx hb dX1_copyFrom_77 rfl (lv_at hl 0 rfl) ?_
  refine va_get (D := (dC, dI)) (ci := 1) (v := .int (d_count d0)) (C := RX1) (T := TX1) (N := 8) hx hb hts (fun _ h => List.mem_cons_of_mem _ (List.mem_append_right _ h)) hown hK hP 0 rfl rfl 7 (by decide) (hts _ (List.mem_of_getElem? (i := 3) rfl)) (fun _ h9 => h9) rfl dX1_copyFrom_78 ?_
  obtain ⟨z7, e8, hJ⟩ := bnd hJ
  refine rwSNv (As := [.ref (b0 4), .ref (b 4), .int (d_count d0)]) (rest := []) (wc := (AWc (b0 4) kI 256 (d_newest d0)) ++ (AWc (b 4) kI 256 (d_newest d))) (wc' := (AWc (b0 4) kI 256 (d_newest d0)) ++ (AWc (b 4) kI 256 z7)) (ws' := (DWc b kI (mkD z1 z3 z5 z7 (d_older d) (d_alphabet d0) (d_widest d0) (d_count d0))) ++ (DWc b0 kI d0)) hx hb hml hown hts (c_X7_copyRow l dC dI kI (b0 4) 256 (d_newest d0) (b 4) 256 (d_newest d) (d_count d0) H.size z7 e8) gX1_copyFrom_X7_copyRow_n63 qX7_copyRow rfl ⟨Nat.le_of_ble_eq_true rfl, Nat.le_of_ble_eq_true rfl⟩ (hNW.use0 (i := 54) rfl) (hts _ (List.mem_of_getElem? (i := 10) rfl)) (hts _ (List.mem_of_getElem? (i := 9) rfl)) ⟨rfl, rfl⟩ hNW hK hP hD hS hA [10, 4] [0, 1, 2, 3, 5, 6, 7, 8, 9, 11] rfl rfl (by decide) (by decide) (by decide) [0, 1, 2, 3, 11, 4, 5, 6, 7, 8, 10, 9] rfl (by decide) hK hl.1 rfl rfl (Nat.le_of_ble_eq_true rfl) dX1_copyFrom_81 z0 (fun H locs hP hD hS => ?_)
  refine lv_aload_n hx hb dX1_copyFrom_84 rfl (lv_at hl 1 rfl) ?_
  refine va_get (D := (dC, dI)) (ci := 1) (v := .ref (b0 5)) (C := RX1) (T := TX1) (N := 8) hx hb hts (fun _ h => List.mem_cons_of_mem _ (List.mem_append_right _ h)) hown hK hP 6 rfl rfl 4 (by decide) (hts _ (List.mem_of_getElem? (i := 8) rfl)) (fun _ h9 => h9) rfl dX1_copyFrom_85 ?_
  refine lv_aload_n hx hb dX1_copyFrom_88 rfl (lv_at hl 0 rfl) ?_
  refine va_get (D := (dC, dI)) (ci := 1) (v := .ref (b 5)) (C := RX1) (T := TX1) (N := 8) hx hb hts (fun _ h => List.mem_cons_of_mem _ (List.mem_append_right _ h)) hown hK hP 0 rfl rfl 4 (by decide) (hts _ (List.mem_of_getElem? (i := 8) rfl)) (fun _ h9 => h9) rfl dX1_copyFrom_89 ?_
  refine lv_aload_n hx hb dX1_copyFrom_92 rfl (lv_at hl 0 rfl) ?_
  refine va_get (D := (dC, dI)) (ci := 1) (v := .int (d_count d0)) (C := RX1) (T := TX1) (N := 8) hx hb hts (fun _ h => List.mem_cons_of_mem _ (List.mem_append_right _ h)) hown hK hP 0 rfl rfl 7 (by decide) (hts _ (List.mem_of_getElem? (i := 3) rfl)) (fun _ h9 => h9) rfl dX1_copyFrom_93 ?_
  obtain ⟨z9, e10, hJ⟩ := bnd hJ
  refine rwSNv (As := [.ref (b0 5), .ref (b 5), .int (d_count d0)]) (rest := []) (wc := (AWc (b0 5) kI 256 (d_older d0)) ++ (AWc (b 5) kI 256 (d_older d))) (wc' := (AWc (b0 5) kI 256 (d_older d0)) ++ (AWc (b 5) kI 256 z9)) (ws' := (DWc b kI (mkD z1 z3 z5 z7 z9 (d_alphabet d0) (d_widest d0) (d_count d0))) ++ (DWc b0 kI d0)) hx hb hml hown hts (c_X7_copyRow l dC dI kI (b0 5) 256 (d_older d0) (b 5) 256 (d_older d) (d_count d0) H.size z9 e10) gX1_copyFrom_X7_copyRow_n63 qX7_copyRow rfl ⟨Nat.le_of_ble_eq_true rfl, Nat.le_of_ble_eq_true rfl⟩ (hNW.use0 (i := 54) rfl) (hts _ (List.mem_of_getElem? (i := 10) rfl)) (hts _ (List.mem_of_getElem? (i := 9) rfl)) ⟨rfl, rfl⟩ hNW hK hP hD hS hA [11, 5] [0, 1, 2, 3, 4, 6, 7, 8, 9, 10] rfl rfl (by decide) (by decide) (by decide) [0, 1, 2, 3, 4, 11, 5, 6, 7, 8, 9, 10] rfl (by decide) hK hl.1 rfl rfl (Nat.le_of_ble_eq_true rfl) dX1_copyFrom_96 z0 (fun H locs hP hD hS => ?_)
  obtain rfl := Option.some.inj hJ
  exact rw_vret hx hb hr hlocks hP hD hS dX1_copyFrom_99
theorem qX2_copyFrom : (yX2_copyFrom.cls = RX2) ∧ yX2_copyFrom.cls ≠ "java/lang/invoke/MethodHandle" ∧ yX2_copyFrom.cls ≠ "java/lang/invoke/VarHandle" ∧ (parseMethodDescriptor yX2_copyFrom.desc).map (fun d => d.parameters.length) = some 1 := by decide +kernel
set_option maxHeartbeats 4000000 in
set_option maxRecDepth 100000 in
theorem c_X2_copyFrom (l : Launch) (dC : Nat → ClassId) (dI : Nat → Nat → Nat) (kI : ClassId) (a : Nat → Nat) (b : Nat → Nat) (ee : ES) (a0 : Nat → Nat) (b0 : Nat → Nat) (ee0 : ES) (sz : Nat) (z : ES) (hJ : J_X2_copyFrom ee ee0 = some z) : Met l yX2_copyFrom wsX2_copyFrom ({ frames := 3, cells := 0, slots := 0, locals := 84 }) (va_Pc [.ref (a 0), .ref (a0 0)] (RWp dC dI sz ((EWc a b kI ee) ++ (EWc a0 b0 kI ee0)) [(kI, .int)])) (rwQv dC dI (va_A ((EWc a b kI ee) ++ (EWc a0 b0 kI ee0)) sz) ((EWc a b kI z) ++ (EWc a0 b0 kI ee0))) 0 0 (va_A ((EWc a b kI ee) ++ (EWc a0 b0 kI ee0)) sz) := by
  refine rw_start (Qc := fun A => rwQv dC dI A ((EWc a b kI z) ++ (EWc a0 b0 kI ee0))) (cc := cX2_copyFrom) (maxL := 2) (ret := none) (by decide) rfl (Nat.le_of_ble_eq_true rfl) ?_
  intro p e s m args below meth c hx hb hr hml hown hts hlocks hNW hK A hA H locs ls hP hD hS hl
  have hown : s.vm.findClass RX2 = some m.cls := hown
  have hl : lv_has ls 2 [(0, .ref (a 0)), (1, .ref (a0 0))] := hl
  unfold J_X2_copyFrom at hJ
  refine lv_aload_n hx hb dX2_copyFrom_0 rfl (lv_at hl 0 rfl) ?_
  refine va_get (D := (dC, dI)) (ci := 2) (v := .ref (b 0)) (C := RX2) (T := TX2) (N := 14) hx hb hts (fun _ h => List.mem_cons_of_mem _ (List.mem_append_left _ (List.mem_append_right _ h))) hown hK hP 0 rfl rfl 0 (by decide) (hts _ (List.mem_of_getElem? (i := 1) rfl)) (fun _ h9 => h9) rfl dX2_copyFrom_1 ?_
  refine lv_aload_n hx hb dX2_copyFrom_4 rfl (lv_at hl 1 rfl) ?_
  refine va_get (D := (dC, dI)) (ci := 2) (v := .ref (b0 0)) (C := RX2) (T := TX2) (N := 14) hx hb hts (fun _ h => List.mem_cons_of_mem _ (List.mem_append_left _ (List.mem_append_right _ h))) hown hK hP 10 rfl rfl 0 (by decide) (hts _ (List.mem_of_getElem? (i := 1) rfl)) (fun _ h9 => h9) rfl dX2_copyFrom_5 ?_
  obtain ⟨z1, e2, hJ⟩ := bnd hJ
  refine rwVv (As := [.ref (b0 0)]) (rest := []) (wc := (DWc b kI (e_d ee)) ++ (DWc b0 kI (e_d ee0))) (wc' := (DWc b kI z1) ++ (DWc b0 kI (e_d ee0))) (ws' := (EWc a b kI (mkE z1 (e_policy ee) (e_limit ee) (e_phrase ee) (e_encoded ee) (e_encodedLength ee) (e_written ee) (e_widths ee) (e_writtenLength ee) (e_bits ee) (e_clears ee) (e_recentCodes ee) (e_recentSymbols ee) (e_recentBits ee))) ++ (EWc a0 b0 kI ee0)) (ci := 1) (q0 := 0) hx hb hml hown hts (c_X1_copyFrom l dC dI kI b (e_d ee) b0 (e_d ee0) H.size z1 e2) gX2_copyFrom_X1_copyFrom qX1_copyFrom rfl ⟨Nat.le_of_ble_eq_true rfl, Nat.le_of_ble_eq_true rfl⟩ ⟨rfl, rfl⟩ hNW hK hP hD hS hA [4, 5, 6, 7, 8, 9, 14, 15, 16, 17, 18, 19] [0, 1, 2, 3, 10, 11, 12, 13] rfl rfl (by decide) (by decide) (by decide) [0, 1, 2, 3, 8, 9, 10, 11, 12, 13, 4, 5, 6, 7, 14, 15, 16, 17, 18, 19] rfl (by decide) hK rfl rfl rfl hl.1 rfl rfl (Nat.le_of_ble_eq_true rfl) dX2_copyFrom_8 z0 (fun H locs hP hD hS => ?_)
  refine lv_aload_n hx hb dX2_copyFrom_11 rfl (lv_at hl 0 rfl) ?_
  refine lv_aload_n hx hb dX2_copyFrom_12 rfl (lv_at hl 1 rfl) ?_
  refine va_get (D := (dC, dI)) (ci := 2) (v := .int (e_policy ee0)) (C := RX2) (T := TX2) (N := 14) hx hb hts (fun _ h => List.mem_cons_of_mem _ (List.mem_append_left _ (List.mem_append_right _ h))) hown hK hP 10 rfl rfl 1 (by decide) (hts _ (List.mem_of_getElem? (i := 2) rfl)) (fun _ h9 => h9) rfl dX2_copyFrom_13 ?_
  refine va_put (D := (dC, dI)) (ci := 2) (v := .int (e_policy ee0)) (ty := .int) (C := RX2) (T := TX2) (N := 14) hx hb hts (fun _ h => List.mem_cons_of_mem _ (List.mem_append_left _ (List.mem_append_right _ h))) tyX2 tyX2_ok nmX2 hown hK hP hD hS 0 rfl rfl 1 (by decide) (hts _ (List.mem_of_getElem? (i := 2) rfl)) (fun _ h9 => h9) rfl (by decide +kernel) rfl rfl (Nat.le_of_ble_eq_true rfl) dX2_copyFrom_16 (fun H locs hP hD hS => ?_)
  have hP : va_P (dC, dI) vwCl ((EWc a b kI (mkE z1 (e_policy ee0) (e_limit ee) (e_phrase ee) (e_encoded ee) (e_encodedLength ee) (e_written ee) (e_widths ee) (e_writtenLength ee) (e_bits ee) (e_clears ee) (e_recentCodes ee) (e_recentSymbols ee) (e_recentBits ee))) ++ (EWc a0 b0 kI ee0)) H := hP
  have hD : va_D A ((EWc a b kI (mkE z1 (e_policy ee0) (e_limit ee) (e_phrase ee) (e_encoded ee) (e_encodedLength ee) (e_written ee) (e_widths ee) (e_writtenLength ee) (e_bits ee) (e_clears ee) (e_recentCodes ee) (e_recentSymbols ee) (e_recentBits ee))) ++ (EWc a0 b0 kI ee0)) := hD
  refine lv_aload_n hx hb dX2_copyFrom_19 rfl (lv_at hl 0 rfl) ?_
  refine lv_aload_n hx hb dX2_copyFrom_20 rfl (lv_at hl 1 rfl) ?_
  refine va_get (D := (dC, dI)) (ci := 2) (v := .int (e_limit ee0)) (C := RX2) (T := TX2) (N := 14) hx hb hts (fun _ h => List.mem_cons_of_mem _ (List.mem_append_left _ (List.mem_append_right _ h))) hown hK hP 10 rfl rfl 2 (by decide) (hts _ (List.mem_of_getElem? (i := 3) rfl)) (fun _ h9 => h9) rfl dX2_copyFrom_21 ?_
  refine va_put (D := (dC, dI)) (ci := 2) (v := .int (e_limit ee0)) (ty := .int) (C := RX2) (T := TX2) (N := 14) hx hb hts (fun _ h => List.mem_cons_of_mem _ (List.mem_append_left _ (List.mem_append_right _ h))) tyX2 tyX2_ok nmX2 hown hK hP hD hS 0 rfl rfl 2 (by decide) (hts _ (List.mem_of_getElem? (i := 3) rfl)) (fun _ h9 => h9) rfl (by decide +kernel) rfl rfl (Nat.le_of_ble_eq_true rfl) dX2_copyFrom_24 (fun H locs hP hD hS => ?_)
  have hP : va_P (dC, dI) vwCl ((EWc a b kI (mkE z1 (e_policy ee0) (e_limit ee0) (e_phrase ee) (e_encoded ee) (e_encodedLength ee) (e_written ee) (e_widths ee) (e_writtenLength ee) (e_bits ee) (e_clears ee) (e_recentCodes ee) (e_recentSymbols ee) (e_recentBits ee))) ++ (EWc a0 b0 kI ee0)) H := hP
  have hD : va_D A ((EWc a b kI (mkE z1 (e_policy ee0) (e_limit ee0) (e_phrase ee) (e_encoded ee) (e_encodedLength ee) (e_written ee) (e_widths ee) (e_writtenLength ee) (e_bits ee) (e_clears ee) (e_recentCodes ee) (e_recentSymbols ee) (e_recentBits ee))) ++ (EWc a0 b0 kI ee0)) := hD
  refine lv_aload_n hx hb dX2_copyFrom_27 rfl (lv_at hl 0 rfl) ?_
  refine lv_aload_n hx hb dX2_copyFrom_28 rfl (lv_at hl 1 rfl) ?_
  refine va_get (D := (dC, dI)) (ci := 2) (v := .int (e_phrase ee0)) (C := RX2) (T := TX2) (N := 14) hx hb hts (fun _ h => List.mem_cons_of_mem _ (List.mem_append_left _ (List.mem_append_right _ h))) hown hK hP 10 rfl rfl 3 (by decide) (hts _ (List.mem_of_getElem? (i := 4) rfl)) (fun _ h9 => h9) rfl dX2_copyFrom_29 ?_
  refine va_put (D := (dC, dI)) (ci := 2) (v := .int (e_phrase ee0)) (ty := .int) (C := RX2) (T := TX2) (N := 14) hx hb hts (fun _ h => List.mem_cons_of_mem _ (List.mem_append_left _ (List.mem_append_right _ h))) tyX2 tyX2_ok nmX2 hown hK hP hD hS 0 rfl rfl 3 (by decide) (hts _ (List.mem_of_getElem? (i := 4) rfl)) (fun _ h9 => h9) rfl (by decide +kernel) rfl rfl (Nat.le_of_ble_eq_true rfl) dX2_copyFrom_32 (fun H locs hP hD hS => ?_)
  have hP : va_P (dC, dI) vwCl ((EWc a b kI (mkE z1 (e_policy ee0) (e_limit ee0) (e_phrase ee0) (e_encoded ee) (e_encodedLength ee) (e_written ee) (e_widths ee) (e_writtenLength ee) (e_bits ee) (e_clears ee) (e_recentCodes ee) (e_recentSymbols ee) (e_recentBits ee))) ++ (EWc a0 b0 kI ee0)) H := hP
  have hD : va_D A ((EWc a b kI (mkE z1 (e_policy ee0) (e_limit ee0) (e_phrase ee0) (e_encoded ee) (e_encodedLength ee) (e_written ee) (e_widths ee) (e_writtenLength ee) (e_bits ee) (e_clears ee) (e_recentCodes ee) (e_recentSymbols ee) (e_recentBits ee))) ++ (EWc a0 b0 kI ee0)) := hD
  refine lv_aload_n hx hb dX2_copyFrom_35 rfl (lv_at hl 0 rfl) ?_
  refine lv_aload_n hx hb dX2_copyFrom_36 rfl (lv_at hl 1 rfl) ?_
  refine va_get (D := (dC, dI)) (ci := 2) (v := .int (e_encodedLength ee0)) (C := RX2) (T := TX2) (N := 14) hx hb hts (fun _ h => List.mem_cons_of_mem _ (List.mem_append_left _ (List.mem_append_right _ h))) hown hK hP 10 rfl rfl 5 (by decide) (hts _ (List.mem_of_getElem? (i := 5) rfl)) (fun _ h9 => h9) rfl dX2_copyFrom_37 ?_
  refine va_put (D := (dC, dI)) (ci := 2) (v := .int (e_encodedLength ee0)) (ty := .int) (C := RX2) (T := TX2) (N := 14) hx hb hts (fun _ h => List.mem_cons_of_mem _ (List.mem_append_left _ (List.mem_append_right _ h))) tyX2 tyX2_ok nmX2 hown hK hP hD hS 0 rfl rfl 5 (by decide) (hts _ (List.mem_of_getElem? (i := 5) rfl)) (fun _ h9 => h9) rfl (by decide +kernel) rfl rfl (Nat.le_of_ble_eq_true rfl) dX2_copyFrom_40 (fun H locs hP hD hS => ?_)
  have hP : va_P (dC, dI) vwCl ((EWc a b kI (mkE z1 (e_policy ee0) (e_limit ee0) (e_phrase ee0) (e_encoded ee) (e_encodedLength ee0) (e_written ee) (e_widths ee) (e_writtenLength ee) (e_bits ee) (e_clears ee) (e_recentCodes ee) (e_recentSymbols ee) (e_recentBits ee))) ++ (EWc a0 b0 kI ee0)) H := hP
  have hD : va_D A ((EWc a b kI (mkE z1 (e_policy ee0) (e_limit ee0) (e_phrase ee0) (e_encoded ee) (e_encodedLength ee0) (e_written ee) (e_widths ee) (e_writtenLength ee) (e_bits ee) (e_clears ee) (e_recentCodes ee) (e_recentSymbols ee) (e_recentBits ee))) ++ (EWc a0 b0 kI ee0)) := hD
  refine lv_aload_n hx hb dX2_copyFrom_43 rfl (lv_at hl 1 rfl) ?_
  refine va_get (D := (dC, dI)) (ci := 2) (v := .ref (a0 1)) (C := RX2) (T := TX2) (N := 14) hx hb hts (fun _ h => List.mem_cons_of_mem _ (List.mem_append_left _ (List.mem_append_right _ h))) hown hK hP 10 rfl rfl 4 (by decide) (hts _ (List.mem_of_getElem? (i := 6) rfl)) (fun _ h9 => h9) rfl dX2_copyFrom_44 ?_
  refine lv_aload_n hx hb dX2_copyFrom_47 rfl (lv_at hl 0 rfl) ?_
  refine va_get (D := (dC, dI)) (ci := 2) (v := .ref (a 1)) (C := RX2) (T := TX2) (N := 14) hx hb hts (fun _ h => List.mem_cons_of_mem _ (List.mem_append_left _ (List.mem_append_right _ h))) hown hK hP 0 rfl rfl 4 (by decide) (hts _ (List.mem_of_getElem? (i := 6) rfl)) (fun _ h9 => h9) rfl dX2_copyFrom_48 ?_
  refine lv_aload_n hx hb dX2_copyFrom_51 rfl (lv_at hl 0 rfl) ?_
  refine va_get (D := (dC, dI)) (ci := 2) (v := .int (e_encodedLength ee0)) (C := RX2) (T := TX2) (N := 14) hx hb hts (fun _ h => List.mem_cons_of_mem _ (List.mem_append_left _ (List.mem_append_right _ h))) hown hK hP 0 rfl rfl 5 (by decide) (hts _ (List.mem_of_getElem? (i := 5) rfl)) (fun _ h9 => h9) rfl dX2_copyFrom_52 ?_
  obtain ⟨z3, e4, hJ⟩ := bnd hJ
  refine rwSNv (As := [.ref (a0 1), .ref (a 1), .int (e_encodedLength ee0)]) (rest := []) (wc := (AWc (a0 1) kI 400 (e_encoded ee0)) ++ (AWc (a 1) kI 400 (e_encoded ee))) (wc' := (AWc (a0 1) kI 400 (e_encoded ee0)) ++ (AWc (a 1) kI 400 z3)) (ws' := (EWc a b kI (mkE z1 (e_policy ee0) (e_limit ee0) (e_phrase ee0) z3 (e_encodedLength ee0) (e_written ee) (e_widths ee) (e_writtenLength ee) (e_bits ee) (e_clears ee) (e_recentCodes ee) (e_recentSymbols ee) (e_recentBits ee))) ++ (EWc a0 b0 kI ee0)) hx hb hml hown hts (c_X7_copyRow l dC dI kI (a0 1) 400 (e_encoded ee0) (a 1) 400 (e_encoded ee) (e_encodedLength ee0) H.size z3 e4) gX2_copyFrom_X7_copyRow_n137 qX7_copyRow rfl ⟨Nat.le_of_ble_eq_true rfl, Nat.le_of_ble_eq_true rfl⟩ (hNW.use0 (i := 55) rfl) (hts _ (List.mem_of_getElem? (i := 29) rfl)) (hts _ (List.mem_of_getElem? (i := 28) rfl)) ⟨rfl, rfl⟩ hNW hK hP hD hS hA [11, 1] [0, 2, 3, 4, 5, 6, 7, 8, 9, 10, 12, 13, 14, 15, 16, 17, 18, 19] rfl rfl (by decide) (by decide) (by decide) [0, 19, 1, 2, 3, 4, 5, 6, 7, 8, 9, 18, 10, 11, 12, 13, 14, 15, 16, 17] rfl (by decide) hK hl.1 rfl rfl (Nat.le_of_ble_eq_true rfl) dX2_copyFrom_55 z0 (fun H locs hP hD hS => ?_)
  refine lv_aload_n hx hb dX2_copyFrom_58 rfl (lv_at hl 0 rfl) ?_
  refine lv_aload_n hx hb dX2_copyFrom_59 rfl (lv_at hl 1 rfl) ?_
  refine va_get (D := (dC, dI)) (ci := 2) (v := .int (e_writtenLength ee0)) (C := RX2) (T := TX2) (N := 14) hx hb hts (fun _ h => List.mem_cons_of_mem _ (List.mem_append_left _ (List.mem_append_right _ h))) hown hK hP 10 rfl rfl 8 (by decide) (hts _ (List.mem_of_getElem? (i := 7) rfl)) (fun _ h9 => h9) rfl dX2_copyFrom_60 ?_
  refine va_put (D := (dC, dI)) (ci := 2) (v := .int (e_writtenLength ee0)) (ty := .int) (C := RX2) (T := TX2) (N := 14) hx hb hts (fun _ h => List.mem_cons_of_mem _ (List.mem_append_left _ (List.mem_append_right _ h))) tyX2 tyX2_ok nmX2 hown hK hP hD hS 0 rfl rfl 8 (by decide) (hts _ (List.mem_of_getElem? (i := 7) rfl)) (fun _ h9 => h9) rfl (by decide +kernel) rfl rfl (Nat.le_of_ble_eq_true rfl) dX2_copyFrom_63 (fun H locs hP hD hS => ?_)
  have hP : va_P (dC, dI) vwCl ((EWc a b kI (mkE z1 (e_policy ee0) (e_limit ee0) (e_phrase ee0) z3 (e_encodedLength ee0) (e_written ee) (e_widths ee) (e_writtenLength ee0) (e_bits ee) (e_clears ee) (e_recentCodes ee) (e_recentSymbols ee) (e_recentBits ee))) ++ (EWc a0 b0 kI ee0)) H := hP
  have hD : va_D A ((EWc a b kI (mkE z1 (e_policy ee0) (e_limit ee0) (e_phrase ee0) z3 (e_encodedLength ee0) (e_written ee) (e_widths ee) (e_writtenLength ee0) (e_bits ee) (e_clears ee) (e_recentCodes ee) (e_recentSymbols ee) (e_recentBits ee))) ++ (EWc a0 b0 kI ee0)) := hD
  refine lv_aload_n hx hb dX2_copyFrom_66 rfl (lv_at hl 1 rfl) ?_
  refine va_get (D := (dC, dI)) (ci := 2) (v := .ref (a0 2)) (C := RX2) (T := TX2) (N := 14) hx hb hts (fun _ h => List.mem_cons_of_mem _ (List.mem_append_left _ (List.mem_append_right _ h))) hown hK hP 10 rfl rfl 6 (by decide) (hts _ (List.mem_of_getElem? (i := 8) rfl)) (fun _ h9 => h9) rfl dX2_copyFrom_67 ?_
  refine lv_aload_n hx hb dX2_copyFrom_70 rfl (lv_at hl 0 rfl) ?_
  refine va_get (D := (dC, dI)) (ci := 2) (v := .ref (a 2)) (C := RX2) (T := TX2) (N := 14) hx hb hts (fun _ h => List.mem_cons_of_mem _ (List.mem_append_left _ (List.mem_append_right _ h))) hown hK hP 0 rfl rfl 6 (by decide) (hts _ (List.mem_of_getElem? (i := 8) rfl)) (fun _ h9 => h9) rfl dX2_copyFrom_71 ?_
  refine lv_aload_n hx hb dX2_copyFrom_74 rfl (lv_at hl 0 rfl) ?_
  refine va_get (D := (dC, dI)) (ci := 2) (v := .int (e_writtenLength ee0)) (C := RX2) (T := TX2) (N := 14) hx hb hts (fun _ h => List.mem_cons_of_mem _ (List.mem_append_left _ (List.mem_append_right _ h))) hown hK hP 0 rfl rfl 8 (by decide) (hts _ (List.mem_of_getElem? (i := 7) rfl)) (fun _ h9 => h9) rfl dX2_copyFrom_75 ?_
  obtain ⟨z5, e6, hJ⟩ := bnd hJ
  refine rwSNv (As := [.ref (a0 2), .ref (a 2), .int (e_writtenLength ee0)]) (rest := []) (wc := (AWc (a0 2) kI 800 (e_written ee0)) ++ (AWc (a 2) kI 800 (e_written ee))) (wc' := (AWc (a0 2) kI 800 (e_written ee0)) ++ (AWc (a 2) kI 800 z5)) (ws' := (EWc a b kI (mkE z1 (e_policy ee0) (e_limit ee0) (e_phrase ee0) z3 (e_encodedLength ee0) z5 (e_widths ee) (e_writtenLength ee0) (e_bits ee) (e_clears ee) (e_recentCodes ee) (e_recentSymbols ee) (e_recentBits ee))) ++ (EWc a0 b0 kI ee0)) hx hb hml hown hts (c_X7_copyRow l dC dI kI (a0 2) 800 (e_written ee0) (a 2) 800 (e_written ee) (e_writtenLength ee0) H.size z5 e6) gX2_copyFrom_X7_copyRow_n137 qX7_copyRow rfl ⟨Nat.le_of_ble_eq_true rfl, Nat.le_of_ble_eq_true rfl⟩ (hNW.use0 (i := 55) rfl) (hts _ (List.mem_of_getElem? (i := 29) rfl)) (hts _ (List.mem_of_getElem? (i := 28) rfl)) ⟨rfl, rfl⟩ hNW hK hP hD hS hA [12, 2] [0, 1, 3, 4, 5, 6, 7, 8, 9, 10, 11, 13, 14, 15, 16, 17, 18, 19] rfl rfl (by decide) (by decide) (by decide) [0, 1, 19, 2, 3, 4, 5, 6, 7, 8, 9, 10, 18, 11, 12, 13, 14, 15, 16, 17] rfl (by decide) hK hl.1 rfl rfl (Nat.le_of_ble_eq_true rfl) dX2_copyFrom_78 z0 (fun H locs hP hD hS => ?_)
  refine lv_aload_n hx hb dX2_copyFrom_81 rfl (lv_at hl 1 rfl) ?_
  refine va_get (D := (dC, dI)) (ci := 2) (v := .ref (a0 3)) (C := RX2) (T := TX2) (N := 14) hx hb hts (fun _ h => List.mem_cons_of_mem _ (List.mem_append_left _ (List.mem_append_right _ h))) hown hK hP 10 rfl rfl 7 (by decide) (hts _ (List.mem_of_getElem? (i := 9) rfl)) (fun _ h9 => h9) rfl dX2_copyFrom_82 ?_
  refine lv_aload_n hx hb dX2_copyFrom_85 rfl (lv_at hl 0 rfl) ?_
  refine va_get (D := (dC, dI)) (ci := 2) (v := .ref (a 3)) (C := RX2) (T := TX2) (N := 14) hx hb hts (fun _ h => List.mem_cons_of_mem _ (List.mem_append_left _ (List.mem_append_right _ h))) hown hK hP 0 rfl rfl 7 (by decide) (hts _ (List.mem_of_getElem? (i := 9) rfl)) (fun _ h9 => h9) rfl dX2_copyFrom_86 ?_
  refine lv_aload_n hx hb dX2_copyFrom_89 rfl (lv_at hl 0 rfl) ?_
  refine va_get (D := (dC, dI)) (ci := 2) (v := .int (e_writtenLength ee0)) (C := RX2) (T := TX2) (N := 14) hx hb hts (fun _ h => List.mem_cons_of_mem _ (List.mem_append_left _ (List.mem_append_right _ h))) hown hK hP 0 rfl rfl 8 (by decide) (hts _ (List.mem_of_getElem? (i := 7) rfl)) (fun _ h9 => h9) rfl dX2_copyFrom_90 ?_
  obtain ⟨z7, e8, hJ⟩ := bnd hJ
  refine rwSNv (As := [.ref (a0 3), .ref (a 3), .int (e_writtenLength ee0)]) (rest := []) (wc := (AWc (a0 3) kI 800 (e_widths ee0)) ++ (AWc (a 3) kI 800 (e_widths ee))) (wc' := (AWc (a0 3) kI 800 (e_widths ee0)) ++ (AWc (a 3) kI 800 z7)) (ws' := (EWc a b kI (mkE z1 (e_policy ee0) (e_limit ee0) (e_phrase ee0) z3 (e_encodedLength ee0) z5 z7 (e_writtenLength ee0) (e_bits ee) (e_clears ee) (e_recentCodes ee) (e_recentSymbols ee) (e_recentBits ee))) ++ (EWc a0 b0 kI ee0)) hx hb hml hown hts (c_X7_copyRow l dC dI kI (a0 3) 800 (e_widths ee0) (a 3) 800 (e_widths ee) (e_writtenLength ee0) H.size z7 e8) gX2_copyFrom_X7_copyRow_n137 qX7_copyRow rfl ⟨Nat.le_of_ble_eq_true rfl, Nat.le_of_ble_eq_true rfl⟩ (hNW.use0 (i := 55) rfl) (hts _ (List.mem_of_getElem? (i := 29) rfl)) (hts _ (List.mem_of_getElem? (i := 28) rfl)) ⟨rfl, rfl⟩ hNW hK hP hD hS hA [13, 3] [0, 1, 2, 4, 5, 6, 7, 8, 9, 10, 11, 12, 14, 15, 16, 17, 18, 19] rfl rfl (by decide) (by decide) (by decide) [0, 1, 2, 19, 3, 4, 5, 6, 7, 8, 9, 10, 11, 18, 12, 13, 14, 15, 16, 17] rfl (by decide) hK hl.1 rfl rfl (Nat.le_of_ble_eq_true rfl) dX2_copyFrom_93 z0 (fun H locs hP hD hS => ?_)
  refine lv_aload_n hx hb dX2_copyFrom_96 rfl (lv_at hl 0 rfl) ?_
  refine lv_aload_n hx hb dX2_copyFrom_97 rfl (lv_at hl 1 rfl) ?_
  refine va_get (D := (dC, dI)) (ci := 2) (v := .int (e_bits ee0)) (C := RX2) (T := TX2) (N := 14) hx hb hts (fun _ h => List.mem_cons_of_mem _ (List.mem_append_left _ (List.mem_append_right _ h))) hown hK hP 10 rfl rfl 9 (by decide) (hts _ (List.mem_of_getElem? (i := 10) rfl)) (fun _ h9 => h9) rfl dX2_copyFrom_98 ?_
  refine va_put (D := (dC, dI)) (ci := 2) (v := .int (e_bits ee0)) (ty := .int) (C := RX2) (T := TX2) (N := 14) hx hb hts (fun _ h => List.mem_cons_of_mem _ (List.mem_append_left _ (List.mem_append_right _ h))) tyX2 tyX2_ok nmX2 hown hK hP hD hS 0 rfl rfl 9 (by decide) (hts _ (List.mem_of_getElem? (i := 10) rfl)) (fun _ h9 => h9) rfl (by decide +kernel) rfl rfl (Nat.le_of_ble_eq_true rfl) dX2_copyFrom_101 (fun H locs hP hD hS => ?_)
  have hP : va_P (dC, dI) vwCl ((EWc a b kI (mkE z1 (e_policy ee0) (e_limit ee0) (e_phrase ee0) z3 (e_encodedLength ee0) z5 z7 (e_writtenLength ee0) (e_bits ee0) (e_clears ee) (e_recentCodes ee) (e_recentSymbols ee) (e_recentBits ee))) ++ (EWc a0 b0 kI ee0)) H := hP
  have hD : va_D A ((EWc a b kI (mkE z1 (e_policy ee0) (e_limit ee0) (e_phrase ee0) z3 (e_encodedLength ee0) z5 z7 (e_writtenLength ee0) (e_bits ee0) (e_clears ee) (e_recentCodes ee) (e_recentSymbols ee) (e_recentBits ee))) ++ (EWc a0 b0 kI ee0)) := hD
  refine lv_aload_n hx hb dX2_copyFrom_104 rfl (lv_at hl 0 rfl) ?_
  refine lv_aload_n hx hb dX2_copyFrom_105 rfl (lv_at hl 1 rfl) ?_
  refine va_get (D := (dC, dI)) (ci := 2) (v := .int (e_clears ee0)) (C := RX2) (T := TX2) (N := 14) hx hb hts (fun _ h => List.mem_cons_of_mem _ (List.mem_append_left _ (List.mem_append_right _ h))) hown hK hP 10 rfl rfl 10 (by decide) (hts _ (List.mem_of_getElem? (i := 11) rfl)) (fun _ h9 => h9) rfl dX2_copyFrom_106 ?_
  refine va_put (D := (dC, dI)) (ci := 2) (v := .int (e_clears ee0)) (ty := .int) (C := RX2) (T := TX2) (N := 14) hx hb hts (fun _ h => List.mem_cons_of_mem _ (List.mem_append_left _ (List.mem_append_right _ h))) tyX2 tyX2_ok nmX2 hown hK hP hD hS 0 rfl rfl 10 (by decide) (hts _ (List.mem_of_getElem? (i := 11) rfl)) (fun _ h9 => h9) rfl (by decide +kernel) rfl rfl (Nat.le_of_ble_eq_true rfl) dX2_copyFrom_109 (fun H locs hP hD hS => ?_)
  have hP : va_P (dC, dI) vwCl ((EWc a b kI (mkE z1 (e_policy ee0) (e_limit ee0) (e_phrase ee0) z3 (e_encodedLength ee0) z5 z7 (e_writtenLength ee0) (e_bits ee0) (e_clears ee0) (e_recentCodes ee) (e_recentSymbols ee) (e_recentBits ee))) ++ (EWc a0 b0 kI ee0)) H := hP
  have hD : va_D A ((EWc a b kI (mkE z1 (e_policy ee0) (e_limit ee0) (e_phrase ee0) z3 (e_encodedLength ee0) z5 z7 (e_writtenLength ee0) (e_bits ee0) (e_clears ee0) (e_recentCodes ee) (e_recentSymbols ee) (e_recentBits ee))) ++ (EWc a0 b0 kI ee0)) := hD
  refine lv_aload_n hx hb dX2_copyFrom_112 rfl (lv_at hl 0 rfl) ?_
  refine lv_aload_n hx hb dX2_copyFrom_113 rfl (lv_at hl 1 rfl) ?_
  refine va_get (D := (dC, dI)) (ci := 2) (v := .int (e_recentCodes ee0)) (C := RX2) (T := TX2) (N := 14) hx hb hts (fun _ h => List.mem_cons_of_mem _ (List.mem_append_left _ (List.mem_append_right _ h))) hown hK hP 10 rfl rfl 11 (by decide) (hts _ (List.mem_of_getElem? (i := 12) rfl)) (fun _ h9 => h9) rfl dX2_copyFrom_114 ?_
  refine va_put (D := (dC, dI)) (ci := 2) (v := .int (e_recentCodes ee0)) (ty := .int) (C := RX2) (T := TX2) (N := 14) hx hb hts (fun _ h => List.mem_cons_of_mem _ (List.mem_append_left _ (List.mem_append_right _ h))) tyX2 tyX2_ok nmX2 hown hK hP hD hS 0 rfl rfl 11 (by decide) (hts _ (List.mem_of_getElem? (i := 12) rfl)) (fun _ h9 => h9) rfl (by decide +kernel) rfl rfl (Nat.le_of_ble_eq_true rfl) dX2_copyFrom_117 (fun H locs hP hD hS => ?_)
  have hP : va_P (dC, dI) vwCl ((EWc a b kI (mkE z1 (e_policy ee0) (e_limit ee0) (e_phrase ee0) z3 (e_encodedLength ee0) z5 z7 (e_writtenLength ee0) (e_bits ee0) (e_clears ee0) (e_recentCodes ee0) (e_recentSymbols ee) (e_recentBits ee))) ++ (EWc a0 b0 kI ee0)) H := hP
  have hD : va_D A ((EWc a b kI (mkE z1 (e_policy ee0) (e_limit ee0) (e_phrase ee0) z3 (e_encodedLength ee0) z5 z7 (e_writtenLength ee0) (e_bits ee0) (e_clears ee0) (e_recentCodes ee0) (e_recentSymbols ee) (e_recentBits ee))) ++ (EWc a0 b0 kI ee0)) := hD
  refine lv_aload_n hx hb dX2_copyFrom_120 rfl (lv_at hl 0 rfl) ?_
  refine lv_aload_n hx hb dX2_copyFrom_121 rfl (lv_at hl 1 rfl) ?_
  refine va_get (D := (dC, dI)) (ci := 2) (v := .int (e_recentSymbols ee0)) (C := RX2) (T := TX2) (N := 14) hx hb hts (fun _ h => List.mem_cons_of_mem _ (List.mem_append_left _ (List.mem_append_right _ h))) hown hK hP 10 rfl rfl 12 (by decide) (hts _ (List.mem_of_getElem? (i := 13) rfl)) (fun _ h9 => h9) rfl dX2_copyFrom_122 ?_
  refine va_put (D := (dC, dI)) (ci := 2) (v := .int (e_recentSymbols ee0)) (ty := .int) (C := RX2) (T := TX2) (N := 14) hx hb hts (fun _ h => List.mem_cons_of_mem _ (List.mem_append_left _ (List.mem_append_right _ h))) tyX2 tyX2_ok nmX2 hown hK hP hD hS 0 rfl rfl 12 (by decide) (hts _ (List.mem_of_getElem? (i := 13) rfl)) (fun _ h9 => h9) rfl (by decide +kernel) rfl rfl (Nat.le_of_ble_eq_true rfl) dX2_copyFrom_125 (fun H locs hP hD hS => ?_)
  have hP : va_P (dC, dI) vwCl ((EWc a b kI (mkE z1 (e_policy ee0) (e_limit ee0) (e_phrase ee0) z3 (e_encodedLength ee0) z5 z7 (e_writtenLength ee0) (e_bits ee0) (e_clears ee0) (e_recentCodes ee0) (e_recentSymbols ee0) (e_recentBits ee))) ++ (EWc a0 b0 kI ee0)) H := hP
  have hD : va_D A ((EWc a b kI (mkE z1 (e_policy ee0) (e_limit ee0) (e_phrase ee0) z3 (e_encodedLength ee0) z5 z7 (e_writtenLength ee0) (e_bits ee0) (e_clears ee0) (e_recentCodes ee0) (e_recentSymbols ee0) (e_recentBits ee))) ++ (EWc a0 b0 kI ee0)) := hD
  refine lv_aload_n hx hb dX2_copyFrom_128 rfl (lv_at hl 0 rfl) ?_
  refine lv_aload_n hx hb dX2_copyFrom_129 rfl (lv_at hl 1 rfl) ?_
  refine va_get (D := (dC, dI)) (ci := 2) (v := .int (e_recentBits ee0)) (C := RX2) (T := TX2) (N := 14) hx hb hts (fun _ h => List.mem_cons_of_mem _ (List.mem_append_left _ (List.mem_append_right _ h))) hown hK hP 10 rfl rfl 13 (by decide) (hts _ (List.mem_of_getElem? (i := 14) rfl)) (fun _ h9 => h9) rfl dX2_copyFrom_130 ?_
  refine va_put (D := (dC, dI)) (ci := 2) (v := .int (e_recentBits ee0)) (ty := .int) (C := RX2) (T := TX2) (N := 14) hx hb hts (fun _ h => List.mem_cons_of_mem _ (List.mem_append_left _ (List.mem_append_right _ h))) tyX2 tyX2_ok nmX2 hown hK hP hD hS 0 rfl rfl 13 (by decide) (hts _ (List.mem_of_getElem? (i := 14) rfl)) (fun _ h9 => h9) rfl (by decide +kernel) rfl rfl (Nat.le_of_ble_eq_true rfl) dX2_copyFrom_133 (fun H locs hP hD hS => ?_)
  have hP : va_P (dC, dI) vwCl ((EWc a b kI (mkE z1 (e_policy ee0) (e_limit ee0) (e_phrase ee0) z3 (e_encodedLength ee0) z5 z7 (e_writtenLength ee0) (e_bits ee0) (e_clears ee0) (e_recentCodes ee0) (e_recentSymbols ee0) (e_recentBits ee0))) ++ (EWc a0 b0 kI ee0)) H := hP
  have hD : va_D A ((EWc a b kI (mkE z1 (e_policy ee0) (e_limit ee0) (e_phrase ee0) z3 (e_encodedLength ee0) z5 z7 (e_writtenLength ee0) (e_bits ee0) (e_clears ee0) (e_recentCodes ee0) (e_recentSymbols ee0) (e_recentBits ee0))) ++ (EWc a0 b0 kI ee0)) := hD
  obtain rfl := Option.some.inj hJ
  exact rw_vret hx hb hr hlocks hP hD hS dX2_copyFrom_136
theorem qX2_endPhrase : (yX2_endPhrase.cls = RX2) ∧ yX2_endPhrase.cls ≠ "java/lang/invoke/MethodHandle" ∧ yX2_endPhrase.cls ≠ "java/lang/invoke/VarHandle" ∧ (parseMethodDescriptor yX2_endPhrase.desc).map (fun d => d.parameters.length) = some 0 := by decide +kernel
set_option maxHeartbeats 4000000 in
set_option maxRecDepth 100000 in
theorem c_X2_endPhrase (fu : Nat) (l : Launch) (dC : Nat → ClassId) (dI : Nat → Nat → Nat) (kI : ClassId) (a : Nat → Nat) (b : Nat → Nat) (ee : ES) (sz : Nat) (z : Int32 × ES) (hJ : J_X2_endPhrase fu ee = some z) : Met l yX2_endPhrase wsX2_endPhrase ({ frames := 4, cells := 0, slots := 0, locals := 83 }) (va_Pc [.ref (a 0)] (RWp dC dI sz (EWc a b kI ee) [(kI, .int)])) (rwQi dC dI (va_A (EWc a b kI ee) sz) (EWc a b kI z.2) z.1) 0 0 (va_A (EWc a b kI ee) sz) := by
  refine rw_start (Qc := fun A => rwQi dC dI A (EWc a b kI z.2) z.1) (cc := cX2_endPhrase) (maxL := 1) (ret := (some .int)) (by decide) rfl (Nat.le_of_ble_eq_true rfl) ?_
  intro p e s m args below meth c hx hb hr hml hown hts hlocks hNW hK A hA H locs ls hP hD hS hl
  have hown : s.vm.findClass RX2 = some m.cls := hown
  have hl : lv_has ls 1 [(0, .ref (a 0))] := hl
  unfold J_X2_endPhrase at hJ
  refine lv_aload_n hx hb dX2_endPhrase_0 rfl (lv_at hl 0 rfl) ?_
  refine va_get (D := (dC, dI)) (ci := 2) (v := .int (e_phrase ee)) (C := RX2) (T := TX2) (N := 14) hx hb hts (fun _ h => List.mem_cons_of_mem _ (List.mem_append_left _ (List.mem_append_right _ h))) hown hK hP 0 rfl rfl 3 (by decide) (hts _ (List.mem_of_getElem? (i := 1) rfl)) (fun _ h9 => h9) rfl dX2_endPhrase_1 ?_
  refine lv_iconst (v := -1) hx hb dX2_endPhrase_4 (by decide) ?_
  refine lv_icmp_ne (tgt := 10) hx hb dX2_endPhrase_5 (by decide) (fun c1 => ?_) (fun c1 => ?_)
  · have hJ := ite_f c1 hJ
    refine lv_aload_n hx hb dX2_endPhrase_10 rfl (lv_at hl 0 rfl) ?_
    obtain ⟨z2, e3, hJ⟩ := bnd hJ
    refine rwVvW (As := []) (rest := []) (ci := 2) (q0 := 0) hx hb hml hown hts (c_X2_writePhrase fu l dC dI kI a b ee H.size z2 e3) gX2_endPhrase_X2_writePhrase qX2_writePhrase rfl ⟨Nat.le_of_ble_eq_true rfl, Nat.le_of_ble_eq_true rfl⟩ ⟨rfl, rfl⟩ hNW hK hP hD hS hA hK rfl rfl rfl hl.1 rfl rfl (Nat.le_of_ble_eq_true rfl) dX2_endPhrase_11 z0 (fun H locs hP hD hS => ?_)
    refine lv_aload_n hx hb dX2_endPhrase_14 rfl (lv_at hl 0 rfl) ?_
    obtain ⟨z4, e5, hJ⟩ := bnd hJ
    refine rwVvW (As := []) (rest := []) (ci := 2) (q0 := 0) hx hb hml hown hts (c_X2_writeClear fu l dC dI kI a b z2 H.size z4 e5) gX2_endPhrase_X2_writeClear qX2_writeClear rfl ⟨Nat.le_of_ble_eq_true rfl, Nat.le_of_ble_eq_true rfl⟩ ⟨rfl, rfl⟩ hNW hK hP hD hS hA hK rfl rfl rfl hl.1 rfl rfl (Nat.le_of_ble_eq_true rfl) dX2_endPhrase_15 z0 (fun H locs hP hD hS => ?_)
    refine lv_aload_n hx hb dX2_endPhrase_18 rfl (lv_at hl 0 rfl) ?_
    refine lv_iconst (v := -1) hx hb dX2_endPhrase_19 (by decide) ?_
    refine va_put (D := (dC, dI)) (ci := 2) (v := .int (-1 : Int32)) (ty := .int) (C := RX2) (T := TX2) (N := 14) hx hb hts (fun _ h => List.mem_cons_of_mem _ (List.mem_append_left _ (List.mem_append_right _ h))) tyX2 tyX2_ok nmX2 hown hK hP hD hS 0 rfl rfl 3 (by decide) (hts _ (List.mem_of_getElem? (i := 1) rfl)) (fun _ h9 => h9) rfl (by decide +kernel) rfl rfl (Nat.le_of_ble_eq_true rfl) dX2_endPhrase_20 (fun H locs hP hD hS => ?_)
    have hP : va_P (dC, dI) vwCl (EWc a b kI (mkE (e_d z4) (e_policy z4) (e_limit z4) (-1 : Int32) (e_encoded z4) (e_encodedLength z4) (e_written z4) (e_widths z4) (e_writtenLength z4) (e_bits z4) (e_clears z4) (e_recentCodes z4) (e_recentSymbols z4) (e_recentBits z4))) H := hP
    have hD : va_D A (EWc a b kI (mkE (e_d z4) (e_policy z4) (e_limit z4) (-1 : Int32) (e_encoded z4) (e_encodedLength z4) (e_written z4) (e_widths z4) (e_writtenLength z4) (e_bits z4) (e_clears z4) (e_recentCodes z4) (e_recentSymbols z4) (e_recentBits z4))) := hD
    refine lv_iconst (v := 2) hx hb dX2_endPhrase_23 (by decide) ?_
    obtain rfl := Option.some.inj hJ
    exact rw_iret hx hb hr hlocks rfl hP hD hS dX2_endPhrase_24
  · have hJ := ite_t c1 hJ
    refine lv_iconst (v := 0) hx hb dX2_endPhrase_8 (by decide) ?_
    obtain rfl := Option.some.inj hJ
    exact rw_iret hx hb hr hlocks rfl hP hD hS dX2_endPhrase_9
theorem qX1_countLonger : (yX1_countLonger.cls = RX1) ∧ yX1_countLonger.cls ≠ "java/lang/invoke/MethodHandle" ∧ yX1_countLonger.cls ≠ "java/lang/invoke/VarHandle" ∧ (parseMethodDescriptor yX1_countLonger.desc).map (fun d => d.parameters.length) = some 1 := by decide +kernel
set_option maxHeartbeats 4000000 in
set_option maxRecDepth 100000 in
theorem c_X1_countLonger (fu : Nat) (l : Launch) (dC : Nat → ClassId) (dI : Nat → Nat → Nat) (kI : ClassId) (b : Nat → Nat) (d : DS) (p0 : Int32) (z : Int32) (hJ : J_X1_countLonger fu d p0 = some z) : Met l yX1_countLonger wsX1_countLonger ({ frames := 1, cells := 0, slots := 0, locals := 21 }) (va_Pc [.ref (b 0), .int p0] (ROp dC dI (DWc b kI d) [(kI, .int)])) (roQi z) 0 0 (fun _ => False) := by
  refine ro_start (cc := cX1_countLonger) (maxL := 4) (ret := (some .int)) (by decide) rfl (Nat.le_of_ble_eq_true rfl) ?_
  intro p e s m args below meth c hx hb hr hml hown hts hlocks hNW hK H locs ls hP hS hl
  have hown : s.vm.findClass RX1 = some m.cls := hown
  have hl : lv_has ls 4 [(0, .ref (b 0)), (1, .int p0)] := hl
  unfold J_X1_countLonger at hJ
  have L11 : ∀ (n : Nat) (y2 : Int32) (y3 : Int32) (H : Heap) (locs : List Loc) (ls : Array Slot), va_P (dC, dI) vwCl (DWc b kI d) H → va_S (fun _ => False) s.heap H locs → lv_has ls 4 [(0, .ref (b 0)), (2, .int y2), (3, .int y3)] → J_X1_countLonger_b11 fu d n y2 y3 = some z → W p l e ({ frames := 1, cells := 0, slots := 0, locals := 21 }) s m args below meth c H locs 0 0 (MQ below (roQi z) args s 0 0 (fun _ => False)) (F0 m 11 ls []) := by
    intro n
    induction n with
    | zero =>
      intro y2 y3 H locs ls hP hS hl hJ
      rw [J_X1_countLonger_b11] at hJ; cases hJ
    | succ n ih =>
      intro y2 y3 H locs ls hP hS hl hJ
      rw [J_X1_countLonger_b11] at hJ
      refine lv_iload_n hx hb dX1_countLonger_11 rfl (lv_at hl 1 rfl) ?_
      refine lv_aload_n hx hb dX1_countLonger_12 rfl (lv_at hl 0 rfl) ?_
      refine va_get (D := (dC, dI)) (ci := 1) (v := .int (d_alphabet d)) (C := RX1) (T := TX1) (N := 8) hx hb hts (fun _ h => List.mem_cons_of_mem _ (List.mem_append_right _ h)) hown hK hP 0 rfl rfl 5 (by decide) (hts _ (List.mem_of_getElem? (i := 2) rfl)) (fun _ h9 => h9) rfl dX1_countLonger_13 ?_
      refine lv_icmp_ge (tgt := 39) hx hb dX1_countLonger_16 (by decide) (fun c3 => ?_) (fun c3 => ?_)
      · have hJ := ite_t c3 hJ
        refine lv_iload_n hx hb dX1_countLonger_39 rfl (lv_at hl 1 rfl) ?_
        exact ro_iret hx hb hr hlocks hS hJ dX1_countLonger_40
      · have hJ := ite_f c3 hJ
        refine lv_iload_n hx hb dX1_countLonger_19 rfl (lv_at hl 2 rfl) ?_
        refine lv_iconst (v := -1) hx hb dX1_countLonger_20 (by decide) ?_
        refine lv_icmp_eq (tgt := 39) hx hb dX1_countLonger_21 (by decide) (fun c4 => ?_) (fun c4 => ?_)
        · have hJ := ite_t c4 hJ
          refine lv_iload_n hx hb dX1_countLonger_39 rfl (lv_at hl 1 rfl) ?_
          exact ro_iret hx hb hr hlocks hS hJ dX1_countLonger_40
        · have hJ := ite_f c4 hJ
          refine lv_iinc (v := y2 + 1) (lv' := [(2, .int (y2 + 1)), (0, .ref (b 0)), (3, .int y3)]) hx hb dX1_countLonger_24 hl (k := 1) rfl rfl (by decide) rfl (fun ls hl => ?_)
          refine lv_aload_n hx hb dX1_countLonger_27 rfl (lv_at hl 1 rfl) ?_
          refine va_get (D := (dC, dI)) (ci := 1) (v := .ref (b 5)) (C := RX1) (T := TX1) (N := 8) hx hb hts (fun _ h => List.mem_cons_of_mem _ (List.mem_append_right _ h)) hown hK hP 0 rfl rfl 4 (by decide) (hts _ (List.mem_of_getElem? (i := 3) rfl)) (fun _ h9 => h9) rfl dX1_countLonger_28 ?_
          refine lv_iload_n hx hb dX1_countLonger_31 rfl (lv_at hl 2 rfl) ?_
          obtain ⟨z5, e6, hJ⟩ := bnd hJ
          refine roSNi (As := [.ref (b 5), .int y3]) (rest := []) hx hb hml hown hts (c_X7_at l dC dI kI (b 5) 256 (d_older d) y3 z5 e6) gX1_countLonger_X7_at_n48 qX7_at rfl ⟨Nat.le_of_ble_eq_true rfl, Nat.le_of_ble_eq_true rfl⟩ (hNW.use0 (i := 56) rfl) (hts _ (List.mem_of_getElem? (i := 5) rfl)) (hts _ (List.mem_of_getElem? (i := 4) rfl)) ⟨rfl, rfl⟩ hNW hK hP hS (hP.sub (ws' := AWc (b 5) kI 256 (d_older d)) [5] rfl) hK hl.1 rfl rfl (Nat.le_of_ble_eq_true rfl) dX1_countLonger_32 z0 (fun H locs hP hS => ?_)
          refine lv_istore_n (lv' := [(3, .int z5), (2, .int (y2 + 1)), (0, .ref (b 0))]) hx hb dX1_countLonger_35 rfl hl (by decide) rfl (fun ls hl => ?_)
          refine lv_goto (tgt := 11) hx hb dX1_countLonger_36 (by decide) ?_
          exact ih (y2 + 1) z5 H locs ls hP hS (lv_sub hl [2, 1, 0] rfl) hJ
  refine lv_iconst (v := 0) hx hb dX1_countLonger_0 (by decide) ?_
  refine lv_istore_n (lv' := [(2, .int (0 : Int32)), (0, .ref (b 0)), (1, .int p0)]) hx hb dX1_countLonger_1 rfl hl (by decide) rfl (fun ls hl => ?_)
  refine lv_aload_n hx hb dX1_countLonger_2 rfl (lv_at hl 1 rfl) ?_
  refine va_get (D := (dC, dI)) (ci := 1) (v := .ref (b 4)) (C := RX1) (T := TX1) (N := 8) hx hb hts (fun _ h => List.mem_cons_of_mem _ (List.mem_append_right _ h)) hown hK hP 0 rfl rfl 3 (by decide) (hts _ (List.mem_of_getElem? (i := 1) rfl)) (fun _ h9 => h9) rfl dX1_countLonger_3 ?_
  refine lv_iload_n hx hb dX1_countLonger_6 rfl (lv_at hl 2 rfl) ?_
  obtain ⟨z1, e2, hJ⟩ := bnd hJ
  refine roSNi (As := [.ref (b 4), .int p0]) (rest := []) hx hb hml hown hts (c_X7_at l dC dI kI (b 4) 256 (d_newest d) p0 z1 e2) gX1_countLonger_X7_at_n48 qX7_at rfl ⟨Nat.le_of_ble_eq_true rfl, Nat.le_of_ble_eq_true rfl⟩ (hNW.use0 (i := 56) rfl) (hts _ (List.mem_of_getElem? (i := 5) rfl)) (hts _ (List.mem_of_getElem? (i := 4) rfl)) ⟨rfl, rfl⟩ hNW hK hP hS (hP.sub (ws' := AWc (b 4) kI 256 (d_newest d)) [4] rfl) hK hl.1 rfl rfl (Nat.le_of_ble_eq_true rfl) dX1_countLonger_7 z0 (fun H locs hP hS => ?_)
  refine lv_istore_n (lv' := [(3, .int z1), (2, .int (0 : Int32)), (0, .ref (b 0)), (1, .int p0)]) hx hb dX1_countLonger_10 rfl hl (by decide) rfl (fun ls hl => ?_)
  exact L11 fu (0 : Int32) z1 H locs ls hP hS (lv_sub hl [2, 1, 0] rfl) hJ
theorem qX1_firstLongest : (yX1_firstLongest.cls = RX1) ∧ yX1_firstLongest.cls ≠ "java/lang/invoke/MethodHandle" ∧ yX1_firstLongest.cls ≠ "java/lang/invoke/VarHandle" ∧ (parseMethodDescriptor yX1_firstLongest.desc).map (fun d => d.parameters.length) = some 0 := by decide +kernel
set_option maxHeartbeats 4000000 in
set_option maxRecDepth 100000 in
theorem c_X1_firstLongest (fu : Nat) (l : Launch) (dC : Nat → ClassId) (dI : Nat → Nat → Nat) (kI : ClassId) (b : Nat → Nat) (d : DS) (z : Int32) (hJ : J_X1_firstLongest fu d = some z) : Met l yX1_firstLongest wsX1_firstLongest ({ frames := 2, cells := 0, slots := 0, locals := 42 }) (va_Pc [.ref (b 0)] (ROp dC dI (DWc b kI d) [(kI, .int)])) (roQi z) 0 0 (fun _ => False) := by
  refine ro_start (cc := cX1_firstLongest) (maxL := 3) (ret := (some .int)) (by decide) rfl (Nat.le_of_ble_eq_true rfl) ?_
  intro p e s m args below meth c hx hb hr hml hown hts hlocks hNW hK H locs ls hP hS hl
  have hown : s.vm.findClass RX1 = some m.cls := hown
  have hl : lv_has ls 3 [(0, .ref (b 0))] := hl
  unfold J_X1_firstLongest at hJ
  have L4 : ∀ (n : Nat) (y1 : Int32) (y2 : Int32) (H : Heap) (locs : List Loc) (ls : Array Slot), va_P (dC, dI) vwCl (DWc b kI d) H → va_S (fun _ => False) s.heap H locs → lv_has ls 3 [(0, .ref (b 0)), (1, .int y1), (2, .int y2)] → J_X1_firstLongest_b4 fu d n y1 y2 = some z → W p l e ({ frames := 2, cells := 0, slots := 0, locals := 42 }) s m args below meth c H locs 0 0 (MQ below (roQi z) args s 0 0 (fun _ => False)) (F0 m 4 ls []) := by
    intro n
    induction n with
    | zero =>
      intro y1 y2 H locs ls hP hS hl hJ
      rw [J_X1_firstLongest_b4] at hJ; cases hJ
    | succ n ih =>
      intro y1 y2 H locs ls hP hS hl hJ
      rw [J_X1_firstLongest_b4] at hJ
      refine lv_iload_n hx hb dX1_firstLongest_4 rfl (lv_at hl 2 rfl) ?_
      refine lv_aload_n hx hb dX1_firstLongest_5 rfl (lv_at hl 0 rfl) ?_
      refine va_get (D := (dC, dI)) (ci := 1) (v := .int (d_count d)) (C := RX1) (T := TX1) (N := 8) hx hb hts (fun _ h => List.mem_cons_of_mem _ (List.mem_append_right _ h)) hown hK hP 0 rfl rfl 7 (by decide) (hts _ (List.mem_of_getElem? (i := 1) rfl)) (fun _ h9 => h9) rfl dX1_firstLongest_6 ?_
      refine lv_icmp_ge (tgt := 33) hx hb dX1_firstLongest_9 (by decide) (fun c1 => ?_) (fun c1 => ?_)
      · have hJ := ite_t c1 hJ
        refine lv_iload_n hx hb dX1_firstLongest_33 rfl (lv_at hl 1 rfl) ?_
        exact ro_iret hx hb hr hlocks hS hJ dX1_firstLongest_34
      · have hJ := ite_f c1 hJ
        refine lv_aload_n hx hb dX1_firstLongest_12 rfl (lv_at hl 0 rfl) ?_
        refine lv_iload_n hx hb dX1_firstLongest_13 rfl (lv_at hl 2 rfl) ?_
        obtain ⟨z2, e3, hJ⟩ := bnd hJ
        refine roVi (As := [.int y2]) (rest := []) (ci := 1) (q0 := 0) hx hb hml hown hts (c_X1_lengthOf l dC dI kI b d y2 z2 e3) gX1_firstLongest_X1_lengthOf qX1_lengthOf rfl ⟨Nat.le_of_ble_eq_true rfl, Nat.le_of_ble_eq_true rfl⟩ ⟨rfl, rfl⟩ hNW hK hP hS hP hK rfl rfl rfl hl.1 rfl rfl (Nat.le_of_ble_eq_true rfl) dX1_firstLongest_14 z0 (fun H locs hP hS => ?_)
        refine lv_aload_n hx hb dX1_firstLongest_17 rfl (lv_at hl 0 rfl) ?_
        refine lv_iload_n hx hb dX1_firstLongest_18 rfl (lv_at hl 1 rfl) ?_
        obtain ⟨z4, e5, hJ⟩ := bnd hJ
        refine roVi (As := [.int y1]) (rest := [.int z2]) (ci := 1) (q0 := 0) hx hb hml hown hts (c_X1_lengthOf l dC dI kI b d y1 z4 e5) gX1_firstLongest_X1_lengthOf qX1_lengthOf rfl ⟨Nat.le_of_ble_eq_true rfl, Nat.le_of_ble_eq_true rfl⟩ ⟨rfl, rfl⟩ hNW hK hP hS hP hK rfl rfl rfl hl.1 rfl rfl (Nat.le_of_ble_eq_true rfl) dX1_firstLongest_19 z0 (fun H locs hP hS => ?_)
        refine lv_icmp_le (tgt := 27) hx hb dX1_firstLongest_22 (by decide) (fun c6 => ?_) (fun c6 => ?_)
        · have hJ := ite_t c6 hJ
          refine lv_iinc (v := y2 + 1) (lv' := [(2, .int (y2 + 1)), (0, .ref (b 0)), (1, .int y1)]) hx hb dX1_firstLongest_27 hl (k := 2) rfl rfl (by decide) rfl (fun ls hl => ?_)
          refine lv_goto (tgt := 4) hx hb dX1_firstLongest_30 (by decide) ?_
          exact ih y1 (y2 + 1) H locs ls hP hS (lv_sub hl [1, 2, 0] rfl) hJ
        · have hJ := ite_f c6 hJ
          refine lv_iload_n hx hb dX1_firstLongest_25 rfl (lv_at hl 2 rfl) ?_
          refine lv_istore_n (lv' := [(1, .int y2), (0, .ref (b 0)), (2, .int y2)]) hx hb dX1_firstLongest_26 rfl hl (by decide) rfl (fun ls hl => ?_)
          refine lv_iinc (v := y2 + 1) (lv' := [(2, .int (y2 + 1)), (1, .int y2), (0, .ref (b 0))]) hx hb dX1_firstLongest_27 hl (k := 2) rfl rfl (by decide) rfl (fun ls hl => ?_)
          refine lv_goto (tgt := 4) hx hb dX1_firstLongest_30 (by decide) ?_
          exact ih y2 (y2 + 1) H locs ls hP hS (lv_sub hl [2, 1, 0] rfl) hJ
  refine lv_iconst (v := 0) hx hb dX1_firstLongest_0 (by decide) ?_
  refine lv_istore_n (lv' := [(1, .int (0 : Int32)), (0, .ref (b 0))]) hx hb dX1_firstLongest_1 rfl hl (by decide) rfl (fun ls hl => ?_)
  refine lv_iconst (v := 1) hx hb dX1_firstLongest_2 (by decide) ?_
  refine lv_istore_n (lv' := [(2, .int (1 : Int32)), (1, .int (0 : Int32)), (0, .ref (b 0))]) hx hb dX1_firstLongest_3 rfl hl (by decide) rfl (fun ls hl => ?_)
  exact L4 fu (0 : Int32) (1 : Int32) H locs ls hP hS (lv_sub hl [2, 1, 0] rfl) hJ
theorem qX2_countWritten : (yX2_countWritten.cls = RX2) ∧ yX2_countWritten.cls ≠ "java/lang/invoke/MethodHandle" ∧ yX2_countWritten.cls ≠ "java/lang/invoke/VarHandle" ∧ (parseMethodDescriptor yX2_countWritten.desc).map (fun d => d.parameters.length) = some 1 := by decide +kernel
set_option maxHeartbeats 4000000 in
set_option maxRecDepth 100000 in
theorem c_X2_countWritten (fu : Nat) (l : Launch) (dC : Nat → ClassId) (dI : Nat → Nat → Nat) (kI : ClassId) (a : Nat → Nat) (b : Nat → Nat) (ee : ES) (p0 : Int32) (z : Int32) (hJ : J_X2_countWritten fu ee p0 = some z) : Met l yX2_countWritten wsX2_countWritten ({ frames := 1, cells := 0, slots := 0, locals := 21 }) (va_Pc [.ref (a 0), .int p0] (ROp dC dI (EWc a b kI ee) [(kI, .int)])) (roQi z) 0 0 (fun _ => False) := by
  refine ro_start (cc := cX2_countWritten) (maxL := 4) (ret := (some .int)) (by decide) rfl (Nat.le_of_ble_eq_true rfl) ?_
  intro p e s m args below meth c hx hb hr hml hown hts hlocks hNW hK H locs ls hP hS hl
  have hown : s.vm.findClass RX2 = some m.cls := hown
  have hl : lv_has ls 4 [(0, .ref (a 0)), (1, .int p0)] := hl
  unfold J_X2_countWritten at hJ
  have L4 : ∀ (n : Nat) (y1 : Int32) (y2 : Int32) (y3 : Int32) (H : Heap) (locs : List Loc) (ls : Array Slot), va_P (dC, dI) vwCl (EWc a b kI ee) H → va_S (fun _ => False) s.heap H locs → lv_has ls 4 [(0, .ref (a 0)), (1, .int y1), (2, .int y2), (3, .int y3)] → J_X2_countWritten_b4 fu ee n y1 y2 y3 = some z → W p l e ({ frames := 1, cells := 0, slots := 0, locals := 21 }) s m args below meth c H locs 0 0 (MQ below (roQi z) args s 0 0 (fun _ => False)) (F0 m 4 ls []) := by
    intro n
    induction n with
    | zero =>
      intro y1 y2 y3 H locs ls hP hS hl hJ
      rw [J_X2_countWritten_b4] at hJ; cases hJ
    | succ n ih =>
      intro y1 y2 y3 H locs ls hP hS hl hJ
      rw [J_X2_countWritten_b4] at hJ
      refine lv_iload_n hx hb dX2_countWritten_4 rfl (lv_at hl 3 rfl) ?_
      refine lv_aload_n hx hb dX2_countWritten_5 rfl (lv_at hl 0 rfl) ?_
      refine va_get (D := (dC, dI)) (ci := 2) (v := .int (e_writtenLength ee)) (C := RX2) (T := TX2) (N := 14) hx hb hts (fun _ h => List.mem_cons_of_mem _ (List.mem_append_right _ h)) hown hK hP 0 rfl rfl 8 (by decide) (hts _ (List.mem_of_getElem? (i := 1) rfl)) (fun _ h9 => h9) rfl dX2_countWritten_6 ?_
      refine lv_icmp_ge (tgt := 33) hx hb dX2_countWritten_9 (by decide) (fun c1 => ?_) (fun c1 => ?_)
      · have hJ := ite_t c1 hJ
        refine lv_iload_n hx hb dX2_countWritten_33 rfl (lv_at hl 2 rfl) ?_
        exact ro_iret hx hb hr hlocks hS hJ dX2_countWritten_34
      · have hJ := ite_f c1 hJ
        refine lv_aload_n hx hb dX2_countWritten_12 rfl (lv_at hl 0 rfl) ?_
        refine va_get (D := (dC, dI)) (ci := 2) (v := .ref (a 2)) (C := RX2) (T := TX2) (N := 14) hx hb hts (fun _ h => List.mem_cons_of_mem _ (List.mem_append_right _ h)) hown hK hP 0 rfl rfl 6 (by decide) (hts _ (List.mem_of_getElem? (i := 2) rfl)) (fun _ h9 => h9) rfl dX2_countWritten_13 ?_
        refine lv_iload_n hx hb dX2_countWritten_16 rfl (lv_at hl 3 rfl) ?_
        obtain ⟨z2, e3, hJ⟩ := bnd hJ
        refine roSNi (As := [.ref (a 2), .int y3]) (rest := []) hx hb hml hown hts (c_X7_at l dC dI kI (a 2) 800 (e_written ee) y3 z2 e3) gX2_countWritten_X7_at_n124 qX7_at rfl ⟨Nat.le_of_ble_eq_true rfl, Nat.le_of_ble_eq_true rfl⟩ (hNW.use0 (i := 68) rfl) (hts _ (List.mem_of_getElem? (i := 4) rfl)) (hts _ (List.mem_of_getElem? (i := 3) rfl)) ⟨rfl, rfl⟩ hNW hK hP hS (hP.sub (ws' := AWc (a 2) kI 800 (e_written ee)) [2] rfl) hK hl.1 rfl rfl (Nat.le_of_ble_eq_true rfl) dX2_countWritten_17 z0 (fun H locs hP hS => ?_)
        refine lv_iload_n hx hb dX2_countWritten_20 rfl (lv_at hl 1 rfl) ?_
        refine lv_icmp_ne (tgt := 27) hx hb dX2_countWritten_21 (by decide) (fun c4 => ?_) (fun c4 => ?_)
        · have hJ := ite_f c4 hJ
          refine lv_iinc (v := y3 + 1) (lv' := [(3, .int (y3 + 1)), (0, .ref (a 0)), (1, .int y1), (2, .int y2)]) hx hb dX2_countWritten_27 hl (k := 3) rfl rfl (by decide) rfl (fun ls hl => ?_)
          refine lv_goto (tgt := 4) hx hb dX2_countWritten_30 (by decide) ?_
          exact ih y1 y2 (y3 + 1) H locs ls hP hS (lv_sub hl [1, 2, 3, 0] rfl) hJ
        · have hJ := ite_t c4 hJ
          refine lv_iinc (v := y2 + 1) (lv' := [(2, .int (y2 + 1)), (0, .ref (a 0)), (1, .int y1), (3, .int y3)]) hx hb dX2_countWritten_24 hl (k := 2) rfl rfl (by decide) rfl (fun ls hl => ?_)
          refine lv_iinc (v := y3 + 1) (lv' := [(3, .int (y3 + 1)), (2, .int (y2 + 1)), (0, .ref (a 0)), (1, .int y1)]) hx hb dX2_countWritten_27 hl (k := 3) rfl rfl (by decide) rfl (fun ls hl => ?_)
          refine lv_goto (tgt := 4) hx hb dX2_countWritten_30 (by decide) ?_
          exact ih y1 (y2 + 1) (y3 + 1) H locs ls hP hS (lv_sub hl [2, 3, 1, 0] rfl) hJ
  refine lv_iconst (v := 0) hx hb dX2_countWritten_0 (by decide) ?_
  refine lv_istore_n (lv' := [(2, .int (0 : Int32)), (0, .ref (a 0)), (1, .int p0)]) hx hb dX2_countWritten_1 rfl hl (by decide) rfl (fun ls hl => ?_)
  refine lv_iconst (v := 0) hx hb dX2_countWritten_2 (by decide) ?_
  refine lv_istore_n (lv' := [(3, .int (0 : Int32)), (2, .int (0 : Int32)), (0, .ref (a 0)), (1, .int p0)]) hx hb dX2_countWritten_3 rfl hl (by decide) rfl (fun ls hl => ?_)
  exact L4 fu p0 (0 : Int32) (0 : Int32) H locs ls hP hS (lv_sub hl [2, 3, 1, 0] rfl) hJ
theorem qX2_bitsFrom : (yX2_bitsFrom.cls = RX2) ∧ yX2_bitsFrom.cls ≠ "java/lang/invoke/MethodHandle" ∧ yX2_bitsFrom.cls ≠ "java/lang/invoke/VarHandle" ∧ (parseMethodDescriptor yX2_bitsFrom.desc).map (fun d => d.parameters.length) = some 2 := by decide +kernel
set_option maxHeartbeats 4000000 in
set_option maxRecDepth 100000 in
theorem c_X2_bitsFrom (fu : Nat) (l : Launch) (dC : Nat → ClassId) (dI : Nat → Nat → Nat) (kI : ClassId) (a : Nat → Nat) (b : Nat → Nat) (ee : ES) (p0 : Int32) (p1 : Int32) (z : Int32) (hJ : J_X2_bitsFrom fu ee p0 p1 = some z) : Met l yX2_bitsFrom wsX2_bitsFrom ({ frames := 1, cells := 0, slots := 0, locals := 21 }) (va_Pc [.ref (a 0), .int p0, .int p1] (ROp dC dI (EWc a b kI ee) [(kI, .int)])) (roQi z) 0 0 (fun _ => False) := by
  refine ro_start (cc := cX2_bitsFrom) (maxL := 9) (ret := (some .int)) (by decide) rfl (Nat.le_of_ble_eq_true rfl) ?_
  intro p e s m args below meth c hx hb hr hml hown hts hlocks hNW hK H locs ls hP hS hl
  have hown : s.vm.findClass RX2 = some m.cls := hown
  have hl : lv_has ls 9 [(0, .ref (a 0)), (1, .int p0), (2, .int p1)] := hl
  unfold J_X2_bitsFrom at hJ
  have L51 : ∀ (n : Nat) (y1 : Int32) (y2 : Int32) (y3 : Int32) (y4 : Int32) (y5 : Int32) (y7 : Int32) (H : Heap) (locs : List Loc) (ls : Array Slot), va_P (dC, dI) vwCl (EWc a b kI ee) H → va_S (fun _ => False) s.heap H locs → lv_has ls 9 [(0, .ref (a 0)), (1, .int y1), (2, .int y2), (3, .int y3), (4, .int y4), (5, .int y5), (7, .int y7)] → ∀ (w : Int32 × Int32 × Int32 × Int32 × Int32 × Int32), J_X2_bitsFrom_b51 fu ee n y1 y2 y3 y4 y5 y7 = some w → (∀ (H : Heap) (locs : List Loc) (ls : Array Slot), va_P (dC, dI) vwCl (EWc a b kI ee) H → va_S (fun _ => False) s.heap H locs → lv_has ls 9 [(0, .ref (a 0)), (1, .int w.1), (2, .int w.2.1), (3, .int w.2.2.1), (4, .int w.2.2.2.1), (5, .int w.2.2.2.2.1), (7, .int w.2.2.2.2.2)] → W p l e ({ frames := 1, cells := 0, slots := 0, locals := 21 }) s m args below meth c H locs 0 0 (MQ below (roQi z) args s 0 0 (fun _ => False)) (F0 m 107 ls [])) → W p l e ({ frames := 1, cells := 0, slots := 0, locals := 21 }) s m args below meth c H locs 0 0 (MQ below (roQi z) args s 0 0 (fun _ => False)) (F0 m 51 ls []) := by
    intro n
    induction n with
    | zero =>
      intro y1 y2 y3 y4 y5 y7 H locs ls hP hS hl w hJ kk
      rw [J_X2_bitsFrom_b51] at hJ; cases hJ
    | succ n ih =>
      intro y1 y2 y3 y4 y5 y7 H locs ls hP hS hl w hJ kk
      rw [J_X2_bitsFrom_b51] at hJ
      refine lv_iload hx hb dX2_bitsFrom_51 (lv_at hl 6 rfl) ?_
      refine lv_iload hx hb dX2_bitsFrom_53 (lv_at hl 4 rfl) ?_
      refine lv_icmp_ge (tgt := 107) hx hb dX2_bitsFrom_55 (by decide) (fun c7 => ?_) (fun c7 => ?_)
      · have hJ := ite_t c7 hJ
        obtain rfl := Option.some.inj hJ
        exact kk H locs ls hP hS (lv_sub hl [0, 1, 2, 3, 4, 5, 6] rfl)
      · have hJ := ite_f c7 hJ
        refine lv_iload hx hb dX2_bitsFrom_58 (lv_at hl 6 rfl) ?_
        refine lv_iload_n hx hb dX2_bitsFrom_60 rfl (lv_at hl 1 rfl) ?_
        refine lv_iload_n hx hb dX2_bitsFrom_61 rfl (lv_at hl 2 rfl) ?_
        refine lv_iadd hx hb dX2_bitsFrom_62 ?_
        refine lv_icmp_ge (tgt := 107) hx hb dX2_bitsFrom_63 (by decide) (fun c8 => ?_) (fun c8 => ?_)
        · have hJ := ite_t c8 hJ
          obtain rfl := Option.some.inj hJ
          exact kk H locs ls hP hS (lv_sub hl [0, 1, 2, 3, 4, 5, 6] rfl)
        · have hJ := ite_f c8 hJ
          refine lv_aload_n hx hb dX2_bitsFrom_66 rfl (lv_at hl 0 rfl) ?_
          refine va_get (D := (dC, dI)) (ci := 2) (v := .ref (a 2)) (C := RX2) (T := TX2) (N := 14) hx hb hts (fun _ h => List.mem_cons_of_mem _ (List.mem_append_right _ h)) hown hK hP 0 rfl rfl 6 (by decide) (hts _ (List.mem_of_getElem? (i := 7) rfl)) (fun _ h9 => h9) rfl dX2_bitsFrom_67 ?_
          refine lv_iload hx hb dX2_bitsFrom_70 (lv_at hl 5 rfl) ?_
          obtain ⟨z9, e10, hJ⟩ := bnd hJ
          refine roSNi (As := [.ref (a 2), .int y5]) (rest := []) hx hb hml hown hts (c_X7_at l dC dI kI (a 2) 800 (e_written ee) y5 z9 e10) gX2_bitsFrom_X7_at_n124 qX7_at rfl ⟨Nat.le_of_ble_eq_true rfl, Nat.le_of_ble_eq_true rfl⟩ (hNW.use0 (i := 68) rfl) (hts _ (List.mem_of_getElem? (i := 9) rfl)) (hts _ (List.mem_of_getElem? (i := 8) rfl)) ⟨rfl, rfl⟩ hNW hK hP hS (hP.sub (ws' := AWc (a 2) kI 800 (e_written ee)) [2] rfl) hK hl.1 rfl rfl (Nat.le_of_ble_eq_true rfl) dX2_bitsFrom_72 z0 (fun H locs hP hS => ?_)
          refine lv_iload hx hb dX2_bitsFrom_75 (lv_at hl 4 rfl) ?_
          refine lv_iconst (v := 1) hx hb dX2_bitsFrom_77 (by decide) ?_
          refine lv_isub hx hb dX2_bitsFrom_78 ?_
          refine lv_iload hx hb dX2_bitsFrom_79 (lv_at hl 6 rfl) ?_
          refine lv_isub hx hb dX2_bitsFrom_81 ?_
          refine lv_iushr (v := (z9.toUInt32 >>> (((y4 - (1 : Int32)) - y7).toUInt32 &&& Int32.toUInt32 31)).toInt32) hx hb dX2_bitsFrom_82 rfl ?_
          refine lv_iconst (v := 1) hx hb dX2_bitsFrom_83 (by decide) ?_
          refine lv_iand hx hb dX2_bitsFrom_84 ?_
          refine lv_istore (lv' := [(8, .int (((z9.toUInt32 >>> (((y4 - (1 : Int32)) - y7).toUInt32 &&& Int32.toUInt32 31)).toInt32) &&& (1 : Int32))), (0, .ref (a 0)), (1, .int y1), (2, .int y2), (3, .int y3), (4, .int y4), (5, .int y5), (7, .int y7)]) hx hb dX2_bitsFrom_85 hl (by decide) rfl (fun ls hl => ?_)
          refine lv_iload_n hx hb dX2_bitsFrom_87 rfl (lv_at hl 4 rfl) ?_
          refine lv_iload hx hb dX2_bitsFrom_88 (lv_at hl 0 rfl) ?_
          refine lv_iload_n hx hb dX2_bitsFrom_90 rfl (lv_at hl 2 rfl) ?_
          refine lv_iload_n hx hb dX2_bitsFrom_91 rfl (lv_at hl 3 rfl) ?_
          refine lv_iadd hx hb dX2_bitsFrom_92 ?_
          refine lv_iconst (v := 1) hx hb dX2_bitsFrom_93 (by decide) ?_
          refine lv_isub hx hb dX2_bitsFrom_94 ?_
          refine lv_iload hx hb dX2_bitsFrom_95 (lv_at hl 7 rfl) ?_
          refine lv_isub hx hb dX2_bitsFrom_97 ?_
          refine lv_ishl hx hb dX2_bitsFrom_98 ?_
          refine lv_ior hx hb dX2_bitsFrom_99 ?_
          refine lv_istore_n (lv' := [(3, .int (y3 ||| ((((z9.toUInt32 >>> (((y4 - (1 : Int32)) - y7).toUInt32 &&& Int32.toUInt32 31)).toInt32) &&& (1 : Int32)) <<< ((((y1 + y2) - (1 : Int32)) - y7) &&& 31)))), (8, .int (((z9.toUInt32 >>> (((y4 - (1 : Int32)) - y7).toUInt32 &&& Int32.toUInt32 31)).toInt32) &&& (1 : Int32))), (0, .ref (a 0)), (1, .int y1), (2, .int y2), (4, .int y4), (5, .int y5), (7, .int y7)]) hx hb dX2_bitsFrom_100 rfl hl (by decide) rfl (fun ls hl => ?_)
          refine lv_iinc (v := y7 + 1) (lv' := [(7, .int (y7 + 1)), (3, .int (y3 ||| ((((z9.toUInt32 >>> (((y4 - (1 : Int32)) - y7).toUInt32 &&& Int32.toUInt32 31)).toInt32) &&& (1 : Int32)) <<< ((((y1 + y2) - (1 : Int32)) - y7) &&& 31)))), (8, .int (((z9.toUInt32 >>> (((y4 - (1 : Int32)) - y7).toUInt32 &&& Int32.toUInt32 31)).toInt32) &&& (1 : Int32))), (0, .ref (a 0)), (1, .int y1), (2, .int y2), (4, .int y4), (5, .int y5)]) hx hb dX2_bitsFrom_101 hl (k := 7) rfl rfl (by decide) rfl (fun ls hl => ?_)
          refine lv_goto (tgt := 51) hx hb dX2_bitsFrom_104 (by decide) ?_
          exact ih y1 y2 (y3 ||| ((((z9.toUInt32 >>> (((y4 - (1 : Int32)) - y7).toUInt32 &&& Int32.toUInt32 31)).toInt32) &&& (1 : Int32)) <<< ((((y1 + y2) - (1 : Int32)) - y7) &&& 31))) y4 y5 (y7 + 1) H locs ls hP hS (lv_sub hl [3, 4, 5, 1, 6, 7, 0] rfl) w hJ kk
  have L8 : ∀ (n : Nat) (y1 : Int32) (y2 : Int32) (y3 : Int32) (y4 : Int32) (y5 : Int32) (H : Heap) (locs : List Loc) (ls : Array Slot), va_P (dC, dI) vwCl (EWc a b kI ee) H → va_S (fun _ => False) s.heap H locs → lv_has ls 9 [(0, .ref (a 0)), (1, .int y1), (2, .int y2), (3, .int y3), (4, .int y4), (5, .int y5)] → J_X2_bitsFrom_b8 fu ee n y1 y2 y3 y4 y5 = some z → W p l e ({ frames := 1, cells := 0, slots := 0, locals := 21 }) s m args below meth c H locs 0 0 (MQ below (roQi z) args s 0 0 (fun _ => False)) (F0 m 8 ls []) := by
    intro n
    induction n with
    | zero =>
      intro y1 y2 y3 y4 y5 H locs ls hP hS hl hJ
      rw [J_X2_bitsFrom_b8] at hJ; cases hJ
    | succ n ih =>
      intro y1 y2 y3 y4 y5 H locs ls hP hS hl hJ
      rw [J_X2_bitsFrom_b8] at hJ
      refine lv_iload hx hb dX2_bitsFrom_8 (lv_at hl 5 rfl) ?_
      refine lv_aload_n hx hb dX2_bitsFrom_10 rfl (lv_at hl 0 rfl) ?_
      refine va_get (D := (dC, dI)) (ci := 2) (v := .int (e_writtenLength ee)) (C := RX2) (T := TX2) (N := 14) hx hb hts (fun _ h => List.mem_cons_of_mem _ (List.mem_append_right _ h)) hown hK hP 0 rfl rfl 8 (by decide) (hts _ (List.mem_of_getElem? (i := 1) rfl)) (fun _ h9 => h9) rfl dX2_bitsFrom_11 ?_
      refine lv_icmp_ge (tgt := 113) hx hb dX2_bitsFrom_14 (by decide) (fun c1 => ?_) (fun c1 => ?_)
      · have hJ := ite_t c1 hJ
        refine lv_iload_n hx hb dX2_bitsFrom_113 rfl (lv_at hl 3 rfl) ?_
        exact ro_iret hx hb hr hlocks hS hJ dX2_bitsFrom_114
      · have hJ := ite_f c1 hJ
        refine lv_iload hx hb dX2_bitsFrom_17 (lv_at hl 4 rfl) ?_
        refine lv_iload_n hx hb dX2_bitsFrom_19 rfl (lv_at hl 1 rfl) ?_
        refine lv_iload_n hx hb dX2_bitsFrom_20 rfl (lv_at hl 2 rfl) ?_
        refine lv_iadd hx hb dX2_bitsFrom_21 ?_
        refine lv_icmp_ge (tgt := 113) hx hb dX2_bitsFrom_22 (by decide) (fun c2 => ?_) (fun c2 => ?_)
        · have hJ := ite_t c2 hJ
          refine lv_iload_n hx hb dX2_bitsFrom_113 rfl (lv_at hl 3 rfl) ?_
          exact ro_iret hx hb hr hlocks hS hJ dX2_bitsFrom_114
        · have hJ := ite_f c2 hJ
          refine lv_iload hx hb dX2_bitsFrom_25 (lv_at hl 4 rfl) ?_
          refine lv_istore (lv' := [(6, .int y4), (0, .ref (a 0)), (1, .int y1), (2, .int y2), (3, .int y3), (4, .int y4), (5, .int y5)]) hx hb dX2_bitsFrom_27 hl (by decide) rfl (fun ls hl => ?_)
          refine lv_iload hx hb dX2_bitsFrom_29 (lv_at hl 5 rfl) ?_
          refine lv_aload_n hx hb dX2_bitsFrom_31 rfl (lv_at hl 1 rfl) ?_
          refine va_get (D := (dC, dI)) (ci := 2) (v := .ref (a 3)) (C := RX2) (T := TX2) (N := 14) hx hb hts (fun _ h => List.mem_cons_of_mem _ (List.mem_append_right _ h)) hown hK hP 0 rfl rfl 7 (by decide) (hts _ (List.mem_of_getElem? (i := 2) rfl)) (fun _ h9 => h9) rfl dX2_bitsFrom_32 ?_
          refine lv_iload hx hb dX2_bitsFrom_35 (lv_at hl 6 rfl) ?_
          obtain ⟨z3, e4, hJ⟩ := bnd hJ
          refine roSNi (As := [.ref (a 3), .int y5]) (rest := [.int y4]) hx hb hml hown hts (c_X7_at l dC dI kI (a 3) 800 (e_widths ee) y5 z3 e4) gX2_bitsFrom_X7_at_n124 qX7_at rfl ⟨Nat.le_of_ble_eq_true rfl, Nat.le_of_ble_eq_true rfl⟩ (hNW.use0 (i := 68) rfl) (hts _ (List.mem_of_getElem? (i := 9) rfl)) (hts _ (List.mem_of_getElem? (i := 8) rfl)) ⟨rfl, rfl⟩ hNW hK hP hS (hP.sub (ws' := AWc (a 3) kI 800 (e_widths ee)) [3] rfl) hK hl.1 rfl rfl (Nat.le_of_ble_eq_true rfl) dX2_bitsFrom_37 z0 (fun H locs hP hS => ?_)
          refine lv_iadd hx hb dX2_bitsFrom_40 ?_
          refine lv_istore (lv' := [(4, .int (y4 + z3)), (6, .int y4), (0, .ref (a 0)), (1, .int y1), (2, .int y2), (3, .int y3), (5, .int y5)]) hx hb dX2_bitsFrom_41 hl (by decide) rfl (fun ls hl => ?_)
          refine lv_iload hx hb dX2_bitsFrom_43 (lv_at hl 1 rfl) ?_
          refine lv_iload_n hx hb dX2_bitsFrom_45 rfl (lv_at hl 3 rfl) ?_
          refine va_mmax hx hb (hml.trans hl.1.symm) hown (hts _ (List.mem_of_getElem? (i := 3) rfl)) (hts _ (List.mem_of_getElem? (i := 4) rfl)) (hts _ (List.mem_of_getElem? (i := 5) rfl)) (hts _ (List.mem_of_getElem? (i := 6) rfl)) (Nat.le_of_ble_eq_true rfl) (Nat.le_of_ble_eq_true rfl) (Nat.zero_le _) (Nat.zero_le _) dX2_bitsFrom_46 ?_
          refine lv_istore (lv' := [(7, .int (if y4 < y1 then y1 else y4)), (4, .int (y4 + z3)), (6, .int y4), (0, .ref (a 0)), (1, .int y1), (2, .int y2), (3, .int y3), (5, .int y5)]) hx hb dX2_bitsFrom_49 hl (by decide) rfl (fun ls hl => ?_)
          obtain ⟨w5, e6, hJ⟩ := bnd hJ
          refine L51 fu y1 y2 y3 (y4 + z3) y5 (if y4 < y1 then y1 else y4) H locs ls hP hS (lv_sub hl [3, 4, 5, 6, 1, 7, 0] rfl) w5 e6 (fun H locs ls hP hS hl => ?_)
          have hl : lv_has ls 9 [(0, .ref (a 0)), (1, .int w5.1), (2, .int w5.2.1), (3, .int w5.2.2.1), (4, .int w5.2.2.2.1), (5, .int w5.2.2.2.2.1)] := lv_sub hl [0, 1, 2, 3, 4, 5] rfl
          refine lv_iinc (v := w5.2.2.2.2.1 + 1) (lv' := [(5, .int (w5.2.2.2.2.1 + 1)), (0, .ref (a 0)), (1, .int w5.1), (2, .int w5.2.1), (3, .int w5.2.2.1), (4, .int w5.2.2.2.1)]) hx hb dX2_bitsFrom_107 hl (k := 5) rfl rfl (by decide) rfl (fun ls hl => ?_)
          refine lv_goto (tgt := 8) hx hb dX2_bitsFrom_110 (by decide) ?_
          exact ih w5.1 w5.2.1 w5.2.2.1 w5.2.2.2.1 (w5.2.2.2.2.1 + 1) H locs ls hP hS (lv_sub hl [1, 2, 3, 4, 5, 0] rfl) hJ
  refine lv_iconst (v := 0) hx hb dX2_bitsFrom_0 (by decide) ?_
  refine lv_istore_n (lv' := [(3, .int (0 : Int32)), (0, .ref (a 0)), (1, .int p0), (2, .int p1)]) hx hb dX2_bitsFrom_1 rfl hl (by decide) rfl (fun ls hl => ?_)
  refine lv_iconst (v := 0) hx hb dX2_bitsFrom_2 (by decide) ?_
  refine lv_istore (lv' := [(4, .int (0 : Int32)), (3, .int (0 : Int32)), (0, .ref (a 0)), (1, .int p0), (2, .int p1)]) hx hb dX2_bitsFrom_3 hl (by decide) rfl (fun ls hl => ?_)
  refine lv_iconst (v := 0) hx hb dX2_bitsFrom_5 (by decide) ?_
  refine lv_istore (lv' := [(5, .int (0 : Int32)), (4, .int (0 : Int32)), (3, .int (0 : Int32)), (0, .ref (a 0)), (1, .int p0), (2, .int p1)]) hx hb dX2_bitsFrom_6 hl (by decide) rfl (fun ls hl => ?_)
  exact L8 fu p0 p1 (0 : Int32) (0 : Int32) (0 : Int32) H locs ls hP hS (lv_sub hl [3, 4, 5, 2, 1, 0] rfl) hJ
theorem qX2_covered : (yX2_covered.cls = RX2) ∧ yX2_covered.cls ≠ "java/lang/invoke/MethodHandle" ∧ yX2_covered.cls ≠ "java/lang/invoke/VarHandle" ∧ (parseMethodDescriptor yX2_covered.desc).map (fun d => d.parameters.length) = some 0 := by decide +kernel
set_option maxHeartbeats 4000000 in
set_option maxRecDepth 100000 in
theorem c_X2_covered (l : Launch) (dC : Nat → ClassId) (dI : Nat → Nat → Nat) (kI : ClassId) (a : Nat → Nat) (b : Nat → Nat) (ee : ES) (z : Int32) (hJ : J_X2_covered ee = some z) : Met l yX2_covered wsX2_covered ({ frames := 2, cells := 0, slots := 0, locals := 42 }) (va_Pc [.ref (a 0)] (ROp dC dI (EWc a b kI ee) [(kI, .int)])) (roQi z) 0 0 (fun _ => False) := by
  refine ro_start (cc := cX2_covered) (maxL := 1) (ret := (some .int)) (by decide) rfl (Nat.le_of_ble_eq_true rfl) ?_
  intro p e s m args below meth c hx hb hr hml hown hts hlocks hNW hK H locs ls hP hS hl
  have hown : s.vm.findClass RX2 = some m.cls := hown
  have hl : lv_has ls 1 [(0, .ref (a 0))] := hl
  unfold J_X2_covered at hJ
  refine lv_aload_n hx hb dX2_covered_0 rfl (lv_at hl 0 rfl) ?_
  refine va_get (D := (dC, dI)) (ci := 2) (v := .int (e_phrase ee)) (C := RX2) (T := TX2) (N := 14) hx hb hts (fun _ h => List.mem_cons_of_mem _ (List.mem_append_left _ (List.mem_append_right _ h))) hown hK hP 0 rfl rfl 3 (by decide) (hts _ (List.mem_of_getElem? (i := 1) rfl)) (fun _ h9 => h9) rfl dX2_covered_1 ?_
  refine lv_iconst (v := -1) hx hb dX2_covered_4 (by decide) ?_
  refine lv_icmp_ne (tgt := 15) hx hb dX2_covered_5 (by decide) (fun c1 => ?_) (fun c1 => ?_)
  · have hJ := ite_f c1 hJ
    refine lv_aload_n hx hb dX2_covered_15 rfl (lv_at hl 0 rfl) ?_
    refine va_get (D := (dC, dI)) (ci := 2) (v := .int (e_encodedLength ee)) (C := RX2) (T := TX2) (N := 14) hx hb hts (fun _ h => List.mem_cons_of_mem _ (List.mem_append_left _ (List.mem_append_right _ h))) hown hK hP 0 rfl rfl 5 (by decide) (hts _ (List.mem_of_getElem? (i := 2) rfl)) (fun _ h9 => h9) rfl dX2_covered_16 ?_
    refine lv_aload_n hx hb dX2_covered_19 rfl (lv_at hl 0 rfl) ?_
    refine va_get (D := (dC, dI)) (ci := 2) (v := .ref (b 0)) (C := RX2) (T := TX2) (N := 14) hx hb hts (fun _ h => List.mem_cons_of_mem _ (List.mem_append_left _ (List.mem_append_right _ h))) hown hK hP 0 rfl rfl 0 (by decide) (hts _ (List.mem_of_getElem? (i := 3) rfl)) (fun _ h9 => h9) rfl dX2_covered_20 ?_
    refine lv_aload_n hx hb dX2_covered_23 rfl (lv_at hl 0 rfl) ?_
    refine va_get (D := (dC, dI)) (ci := 2) (v := .int (e_phrase ee)) (C := RX2) (T := TX2) (N := 14) hx hb hts (fun _ h => List.mem_cons_of_mem _ (List.mem_append_left _ (List.mem_append_right _ h))) hown hK hP 0 rfl rfl 3 (by decide) (hts _ (List.mem_of_getElem? (i := 1) rfl)) (fun _ h9 => h9) rfl dX2_covered_24 ?_
    obtain ⟨z2, e3, hJ⟩ := bnd hJ
    refine roVi (As := [.int (e_phrase ee)]) (rest := [.int (e_encodedLength ee)]) (ci := 1) (q0 := 0) hx hb hml hown hts (c_X1_lengthOf l dC dI kI b (e_d ee) (e_phrase ee) z2 e3) gX2_covered_X1_lengthOf qX1_lengthOf rfl ⟨Nat.le_of_ble_eq_true rfl, Nat.le_of_ble_eq_true rfl⟩ ⟨rfl, rfl⟩ hNW hK hP hS (hP.sub (ws' := DWc b kI (e_d ee)) [4, 5, 6, 7, 8, 9] rfl) hK rfl rfl rfl hl.1 rfl rfl (Nat.le_of_ble_eq_true rfl) dX2_covered_27 z0 (fun H locs hP hS => ?_)
    refine lv_isub hx hb dX2_covered_30 ?_
    exact ro_iret hx hb hr hlocks hS hJ dX2_covered_31
  · have hJ := ite_t c1 hJ
    refine lv_aload_n hx hb dX2_covered_8 rfl (lv_at hl 0 rfl) ?_
    refine va_get (D := (dC, dI)) (ci := 2) (v := .int (e_encodedLength ee)) (C := RX2) (T := TX2) (N := 14) hx hb hts (fun _ h => List.mem_cons_of_mem _ (List.mem_append_left _ (List.mem_append_right _ h))) hown hK hP 0 rfl rfl 5 (by decide) (hts _ (List.mem_of_getElem? (i := 2) rfl)) (fun _ h9 => h9) rfl dX2_covered_9 ?_
    refine lv_goto (tgt := 31) hx hb dX2_covered_12 (by decide) ?_
    exact ro_iret hx hb hr hlocks hS hJ dX2_covered_31
theorem qX0_takeAll : (yX0_takeAll.cls = RX0) ∧ yX0_takeAll.cls ≠ "java/lang/invoke/MethodHandle" ∧ yX0_takeAll.cls ≠ "java/lang/invoke/VarHandle" ∧ (parseMethodDescriptor yX0_takeAll.desc).map (fun d => d.parameters.length) = some 2 := by decide +kernel
set_option maxHeartbeats 4000000 in
set_option maxRecDepth 100000 in
theorem c_X0_takeAll (fu : Nat) (l : Launch) (dC : Nat → ClassId) (dI : Nat → Nat → Nat) (kI : ClassId) (a : Nat → Nat) (b : Nat → Nat) (o : OS) (ax0 : Nat) (n0 : Nat) (f0 : Nat → Int32) (p1 : Int32) (sz : Nat) (z : Int32 × OS) (hJ : J_X0_takeAll fu o n0 f0 p1 = some z) : Met l yX0_takeAll wsX0_takeAll ({ frames := 6, cells := 0, slots := 0, locals := 134 }) (va_Pc [.ref (a 0), .ref ax0, .int p1] (RWp dC dI sz ((OWc a b kI o) ++ (AWc ax0 kI n0 f0)) [(kI, .int)])) (rwQi dC dI (va_A ((OWc a b kI o) ++ (AWc ax0 kI n0 f0)) sz) ((OWc a b kI z.2) ++ (AWc ax0 kI n0 f0)) z.1) 0 0 (va_A ((OWc a b kI o) ++ (AWc ax0 kI n0 f0)) sz) := by
  refine rw_start (Qc := fun A => rwQi dC dI A ((OWc a b kI z.2) ++ (AWc ax0 kI n0 f0)) z.1) (cc := cX0_takeAll) (maxL := 4) (ret := (some .boolean)) (by decide) rfl (Nat.le_of_ble_eq_true rfl) ?_
  intro p e s m args below meth c hx hb hr hml hown hts hlocks hNW hK A hA H locs ls hP hD hS hl
  have hown : s.vm.findClass RX0 = some m.cls := hown
  have hl : lv_has ls 4 [(0, .ref (a 0)), (1, .ref ax0), (2, .int p1)] := hl
  unfold J_X0_takeAll at hJ
  have L2 : ∀ (n : Nat) (o : OS) (y2 : Int32) (y3 : Int32) (H : Heap) (locs : List Loc) (ls : Array Slot), va_P (dC, dI) vwCl ((OWc a b kI o) ++ (AWc ax0 kI n0 f0)) H → va_D A ((OWc a b kI o) ++ (AWc ax0 kI n0 f0)) → va_S A s.heap H locs → lv_has ls 4 [(0, .ref (a 0)), (1, .ref ax0), (2, .int y2), (3, .int y3)] → J_X0_takeAll_b2 fu n0 f0 n o y2 y3 = some z → W p l e ({ frames := 6, cells := 0, slots := 0, locals := 134 }) s m args below meth c H locs 0 0 (MQ below (rwQi dC dI A ((OWc a b kI z.2) ++ (AWc ax0 kI n0 f0)) z.1) args s 0 0 (A)) (F0 m 2 ls []) := by
    intro n
    induction n with
    | zero =>
      intro o y2 y3 H locs ls hP hD hS hl hJ
      rw [J_X0_takeAll_b2] at hJ; cases hJ
    | succ n ih =>
      intro o y2 y3 H locs ls hP hD hS hl hJ
      rw [J_X0_takeAll_b2] at hJ
      refine lv_iload_n hx hb dX0_takeAll_2 rfl (lv_at hl 3 rfl) ?_
      refine lv_iload_n hx hb dX0_takeAll_3 rfl (lv_at hl 2 rfl) ?_
      refine lv_icmp_ge (tgt := 27) hx hb dX0_takeAll_4 (by decide) (fun c1 => ?_) (fun c1 => ?_)
      · have hJ := ite_t c1 hJ
        refine lv_iconst (v := 1) hx hb dX0_takeAll_27 (by decide) ?_
        obtain rfl := Option.some.inj hJ
        exact rw_zret hx hb hr hlocks rfl rfl hP hD hS dX0_takeAll_28
      · have hJ := ite_f c1 hJ
        refine lv_aload_n hx hb dX0_takeAll_7 rfl (lv_at hl 0 rfl) ?_
        refine lv_aload_n hx hb dX0_takeAll_8 rfl (lv_at hl 1 rfl) ?_
        refine lv_iload_n hx hb dX0_takeAll_9 rfl (lv_at hl 3 rfl) ?_
        obtain ⟨z2, e3, hJ⟩ := bnd hJ
        refine roSNi (As := [.ref ax0, .int y3]) (rest := [.ref (a 0)]) hx hb hml hown hts (c_X7_at l dC dI kI ax0 n0 f0 y3 z2 e3) gX0_takeAll_X7_at_n55 qX7_at rfl ⟨Nat.le_of_ble_eq_true rfl, Nat.le_of_ble_eq_true rfl⟩ (hNW.use0 (i := 59) rfl) (hts _ (List.mem_of_getElem? (i := 2) rfl)) (hts _ (List.mem_of_getElem? (i := 1) rfl)) ⟨rfl, rfl⟩ hNW hK hP hS (hP.sub (ws' := AWc ax0 kI n0 f0) [8] rfl) hK hl.1 rfl rfl (Nat.le_of_ble_eq_true rfl) dX0_takeAll_10 z0 (fun H locs hP hS => ?_)
        obtain ⟨z4, e5, hJ⟩ := bnd hJ
        refine rwVi (As := [.int z2]) (rest := []) (wc := OWc a b kI o) (wc' := OWc a b kI z4.2) (ws' := (OWc a b kI z4.2) ++ (AWc ax0 kI n0 f0)) (ci := 0) (q0 := 0) hx hb hml hown hts (c_X0_takeCode fu l dC dI kI a b o z2 H.size z4 e5) gX0_takeAll_X0_takeCode qX0_takeCode rfl ⟨Nat.le_of_ble_eq_true rfl, Nat.le_of_ble_eq_true rfl⟩ ⟨rfl, rfl⟩ hNW hK hP hD hS hA [0, 1, 2, 3, 4, 5, 6, 7] [8] rfl rfl (by decide) (by decide) (by decide) [1, 2, 3, 4, 5, 6, 7, 8, 0] rfl (by decide) hK rfl rfl rfl hl.1 rfl rfl (Nat.le_of_ble_eq_true rfl) dX0_takeAll_13 z0 (fun H locs hP hD hS => ?_)
        refine lv_if_ne (tgt := 21) hx hb dX0_takeAll_16 (by decide) (fun c6 => ?_) (fun c6 => ?_)
        · have hJ := ite_f c6 hJ
          refine lv_iinc (v := y3 + 1) (lv' := [(3, .int (y3 + 1)), (0, .ref (a 0)), (1, .ref ax0), (2, .int y2)]) hx hb dX0_takeAll_21 hl (k := 3) rfl rfl (by decide) rfl (fun ls hl => ?_)
          refine lv_goto (tgt := 2) hx hb dX0_takeAll_24 (by decide) ?_
          exact ih z4.2 y2 (y3 + 1) H locs ls hP hD hS (lv_sub hl [1, 2, 3, 0] rfl) hJ
        · have hJ := ite_t c6 hJ
          refine lv_iconst (v := 0) hx hb dX0_takeAll_19 (by decide) ?_
          obtain rfl := Option.some.inj hJ
          exact rw_zret hx hb hr hlocks rfl rfl hP hD hS dX0_takeAll_20
  refine lv_iconst (v := 0) hx hb dX0_takeAll_0 (by decide) ?_
  refine lv_istore_n (lv' := [(3, .int (0 : Int32)), (0, .ref (a 0)), (1, .ref ax0), (2, .int p1)]) hx hb dX0_takeAll_1 rfl hl (by decide) rfl (fun ls hl => ?_)
  exact L2 fu o p1 (0 : Int32) H locs ls hP hD hS (lv_sub hl [1, 2, 3, 0] rfl) hJ
theorem qX5_addSign : (yX5_addSign.cls = RX5) ∧ yX5_addSign.cls ≠ "java/lang/invoke/MethodHandle" ∧ yX5_addSign.cls ≠ "java/lang/invoke/VarHandle" ∧ (parseMethodDescriptor yX5_addSign.desc).map (fun d => d.parameters.length) = some 1 := by decide +kernel
set_option maxHeartbeats 4000000 in
set_option maxRecDepth 100000 in
theorem c_X5_addSign (l : Launch) (dC : Nat → ClassId) (dI : Nat → Nat → Nat) (kI : ClassId) (a : Nat → Nat) (w : SS) (p0 : Int32) (sz : Nat) (z : SS) (hJ : J_X5_addSign w p0 = some z) : Met l yX5_addSign wsX5_addSign ({ frames := 1, cells := 0, slots := 0, locals := 22 }) (va_Pc [.ref (a 0), .int p0] (RWp dC dI sz (SWc a kI w) [(kI, .int)])) (rwQv dC dI (va_A (SWc a kI w) sz) (SWc a kI z)) 0 0 (va_A (SWc a kI w) sz) := by
  refine rw_start (Qc := fun A => rwQv dC dI A (SWc a kI z)) (cc := cX5_addSign) (maxL := 2) (ret := none) (by decide) rfl (Nat.le_of_ble_eq_true rfl) ?_
  intro p e s m args below meth c hx hb hr hml hown hts hlocks hNW hK A hA H locs ls hP hD hS hl
  have hown : s.vm.findClass RX5 = some m.cls := hown
  have hl : lv_has ls 2 [(0, .ref (a 0)), (1, .int p0)] := hl
  unfold J_X5_addSign at hJ
  refine lv_aload_n hx hb dX5_addSign_0 rfl (lv_at hl 0 rfl) ?_
  refine va_get (D := (dC, dI)) (ci := 5) (v := .ref (a 1)) (C := RX5) (T := TX5) (N := 2) hx hb hts (fun _ h => List.mem_cons_of_mem _ (List.mem_append_right _ h)) hown hK hP 0 rfl rfl 0 (by decide) (hts _ (List.mem_of_getElem? (i := 1) rfl)) (fun _ h9 => h9) rfl dX5_addSign_1 ?_
  refine lv_aload_n hx hb dX5_addSign_4 rfl (lv_at hl 0 rfl) ?_
  refine va_get (D := (dC, dI)) (ci := 5) (v := .int (s_length w)) (C := RX5) (T := TX5) (N := 2) hx hb hts (fun _ h => List.mem_cons_of_mem _ (List.mem_append_right _ h)) hown hK hP 0 rfl rfl 1 (by decide) (hts _ (List.mem_of_getElem? (i := 2) rfl)) (fun _ h9 => h9) rfl dX5_addSign_5 ?_
  refine lv_iload_n hx hb dX5_addSign_8 rfl (lv_at hl 1 rfl) ?_
  obtain ⟨z1, e2, hJ⟩ := bnd hJ
  refine rwSNv (As := [.ref (a 1), .int (s_length w), .int p0]) (rest := []) (wc := AWc (a 1) kI 429 (s_text w)) (wc' := AWc (a 1) kI 429 z1) (ws' := SWc a kI (mkS z1 (s_length w))) hx hb hml hown hts (c_X7_put l dC dI kI (a 1) 429 (s_text w) (s_length w) p0 H.size z1 e2) gX5_addSign_X7_put_n85 qX7_put rfl ⟨Nat.le_of_ble_eq_true rfl, Nat.le_of_ble_eq_true rfl⟩ (hNW.use0 (i := 61) rfl) (hts _ (List.mem_of_getElem? (i := 4) rfl)) (hts _ (List.mem_of_getElem? (i := 3) rfl)) ⟨rfl, rfl⟩ hNW hK hP hD hS hA [1] [0] rfl rfl (by decide) (by decide) (by decide) [0, 1] rfl (by decide) hK hl.1 rfl rfl (Nat.le_of_ble_eq_true rfl) dX5_addSign_9 z0 (fun H locs hP hD hS => ?_)
  refine lv_aload_n hx hb dX5_addSign_12 rfl (lv_at hl 0 rfl) ?_
  refine lv_dup hx hb dX5_addSign_13 rfl ?_
  refine va_get (D := (dC, dI)) (ci := 5) (v := .int (s_length w)) (C := RX5) (T := TX5) (N := 2) hx hb hts (fun _ h => List.mem_cons_of_mem _ (List.mem_append_right _ h)) hown hK hP 0 rfl rfl 1 (by decide) (hts _ (List.mem_of_getElem? (i := 2) rfl)) (fun _ h9 => h9) rfl dX5_addSign_14 ?_
  refine lv_iconst (v := 1) hx hb dX5_addSign_17 (by decide) ?_
  refine lv_iadd hx hb dX5_addSign_18 ?_
  refine va_put (D := (dC, dI)) (ci := 5) (v := .int ((s_length w) + (1 : Int32))) (ty := .int) (C := RX5) (T := TX5) (N := 2) hx hb hts (fun _ h => List.mem_cons_of_mem _ (List.mem_append_right _ h)) tyX5 tyX5_ok nmX5 hown hK hP hD hS 0 rfl rfl 1 (by decide) (hts _ (List.mem_of_getElem? (i := 2) rfl)) (fun _ h9 => h9) rfl (by decide +kernel) rfl rfl (Nat.le_of_ble_eq_true rfl) dX5_addSign_19 (fun H locs hP hD hS => ?_)
  have hP : va_P (dC, dI) vwCl (SWc a kI (mkS z1 ((s_length w) + (1 : Int32)))) H := hP
  have hD : va_D A (SWc a kI (mkS z1 ((s_length w) + (1 : Int32)))) := hD
  obtain rfl := Option.some.inj hJ
  exact rw_vret hx hb hr hlocks hP hD hS dX5_addSign_22
theorem qX5_addNumber : (yX5_addNumber.cls = RX5) ∧ yX5_addNumber.cls ≠ "java/lang/invoke/MethodHandle" ∧ yX5_addNumber.cls ≠ "java/lang/invoke/VarHandle" ∧ (parseMethodDescriptor yX5_addNumber.desc).map (fun d => d.parameters.length) = some 1 := by decide +kernel
set_option maxHeartbeats 4000000 in
set_option maxRecDepth 100000 in
theorem c_X5_addNumber (l : Launch) (dC : Nat → ClassId) (dI : Nat → Nat → Nat) (kI : ClassId) (a : Nat → Nat) (w : SS) (p0 : Int32) (sz : Nat) (z : SS) (hJ : J_X5_addNumber w p0 = some z) : Met l yX5_addNumber wsX5_addNumber ({ frames := 2, cells := 0, slots := 0, locals := 43 }) (va_Pc [.ref (a 0), .int p0] (RWp dC dI sz (SWc a kI w) [(kI, .int)])) (rwQv dC dI (va_A (SWc a kI w) sz) (SWc a kI z)) 0 0 (va_A (SWc a kI w) sz) := by
  refine rw_start (Qc := fun A => rwQv dC dI A (SWc a kI z)) (cc := cX5_addNumber) (maxL := 2) (ret := none) (by decide) rfl (Nat.le_of_ble_eq_true rfl) ?_
  intro p e s m args below meth c hx hb hr hml hown hts hlocks hNW hK A hA H locs ls hP hD hS hl
  have hown : s.vm.findClass RX5 = some m.cls := hown
  have hl : lv_has ls 2 [(0, .ref (a 0)), (1, .int p0)] := hl
  unfold J_X5_addNumber at hJ
  have L37 : ∀ (w : SS) (y1 : Int32) (H : Heap) (locs : List Loc) (ls : Array Slot), va_P (dC, dI) vwCl (SWc a kI w) H → va_D A (SWc a kI w) → va_S A s.heap H locs → lv_has ls 2 [(0, .ref (a 0)), (1, .int y1)] → J_X5_addNumber_b37 w y1 = some z → W p l e ({ frames := 2, cells := 0, slots := 0, locals := 43 }) s m args below meth c H locs 0 0 (MQ below (rwQv dC dI A (SWc a kI z)) args s 0 0 (A)) (F0 m 37 ls []) := by
    intro w y1 H locs ls hP hD hS hl hJ
    unfold J_X5_addNumber_b37 at hJ
    refine lv_aload_n hx hb dX5_addNumber_37 rfl (lv_at hl 0 rfl) ?_
    refine lv_bipush (v := 48) hx hb dX5_addNumber_38 (by decide) ?_
    refine lv_iload_n hx hb dX5_addNumber_40 rfl (lv_at hl 1 rfl) ?_
    refine lv_bipush (v := 10) hx hb dX5_addNumber_41 (by decide) ?_
    refine lv_irem hx hb dX5_addNumber_43 (by decide) ?_
    refine lv_iadd hx hb dX5_addNumber_44 ?_
    obtain ⟨z7, e8, hJ⟩ := bnd hJ
    refine rwVvW (As := [.int ((48 : Int32) + (y1 - y1 / (10 : Int32) * (10 : Int32)))]) (rest := []) (ci := 5) (q0 := 0) hx hb hml hown hts (c_X5_addSign l dC dI kI a w ((48 : Int32) + (y1 - y1 / (10 : Int32) * (10 : Int32))) H.size z7 e8) gX5_addNumber_X5_addSign qX5_addSign rfl ⟨Nat.le_of_ble_eq_true rfl, Nat.le_of_ble_eq_true rfl⟩ ⟨rfl, rfl⟩ hNW hK hP hD hS hA hK rfl rfl rfl hl.1 rfl rfl (Nat.le_of_ble_eq_true rfl) dX5_addNumber_45 z0 (fun H locs hP hD hS => ?_)
    obtain rfl := Option.some.inj hJ
    exact rw_vret hx hb hr hlocks hP hD hS dX5_addNumber_48
  have L17 : ∀ (w : SS) (y1 : Int32) (H : Heap) (locs : List Loc) (ls : Array Slot), va_P (dC, dI) vwCl (SWc a kI w) H → va_D A (SWc a kI w) → va_S A s.heap H locs → lv_has ls 2 [(0, .ref (a 0)), (1, .int y1)] → J_X5_addNumber_b17 w y1 = some z → W p l e ({ frames := 2, cells := 0, slots := 0, locals := 43 }) s m args below meth c H locs 0 0 (MQ below (rwQv dC dI A (SWc a kI z)) args s 0 0 (A)) (F0 m 17 ls []) := by
    intro w y1 H locs ls hP hD hS hl hJ
    unfold J_X5_addNumber_b17 at hJ
    refine lv_iload_n hx hb dX5_addNumber_17 rfl (lv_at hl 1 rfl) ?_
    refine lv_bipush (v := 10) hx hb dX5_addNumber_18 (by decide) ?_
    refine lv_icmp_lt (tgt := 37) hx hb dX5_addNumber_20 (by decide) (fun c4 => ?_) (fun c4 => ?_)
    · have hJ := ite_t c4 hJ
      exact L37 w y1 H locs ls hP hD hS (lv_sub hl [0, 1] rfl) hJ
    · have hJ := ite_f c4 hJ
      refine lv_aload_n hx hb dX5_addNumber_23 rfl (lv_at hl 0 rfl) ?_
      refine lv_bipush (v := 48) hx hb dX5_addNumber_24 (by decide) ?_
      refine lv_iload_n hx hb dX5_addNumber_26 rfl (lv_at hl 1 rfl) ?_
      refine lv_bipush (v := 10) hx hb dX5_addNumber_27 (by decide) ?_
      refine lv_idiv hx hb dX5_addNumber_29 (by decide) ?_
      refine lv_bipush (v := 10) hx hb dX5_addNumber_30 (by decide) ?_
      refine lv_irem hx hb dX5_addNumber_32 (by decide) ?_
      refine lv_iadd hx hb dX5_addNumber_33 ?_
      obtain ⟨z5, e6, hJ⟩ := bnd hJ
      refine rwVvW (As := [.int ((48 : Int32) + ((y1 / (10 : Int32)) - (y1 / (10 : Int32)) / (10 : Int32) * (10 : Int32)))]) (rest := []) (ci := 5) (q0 := 0) hx hb hml hown hts (c_X5_addSign l dC dI kI a w ((48 : Int32) + ((y1 / (10 : Int32)) - (y1 / (10 : Int32)) / (10 : Int32) * (10 : Int32))) H.size z5 e6) gX5_addNumber_X5_addSign qX5_addSign rfl ⟨Nat.le_of_ble_eq_true rfl, Nat.le_of_ble_eq_true rfl⟩ ⟨rfl, rfl⟩ hNW hK hP hD hS hA hK rfl rfl rfl hl.1 rfl rfl (Nat.le_of_ble_eq_true rfl) dX5_addNumber_34 z0 (fun H locs hP hD hS => ?_)
      exact L37 z5 y1 H locs ls hP hD hS (lv_sub hl [0, 1] rfl) hJ
  refine lv_iload_n hx hb dX5_addNumber_0 rfl (lv_at hl 1 rfl) ?_
  refine lv_bipush (v := 100) hx hb dX5_addNumber_1 (by decide) ?_
  refine lv_icmp_lt (tgt := 17) hx hb dX5_addNumber_3 (by decide) (fun c1 => ?_) (fun c1 => ?_)
  · have hJ := ite_t c1 hJ
    exact L17 w p0 H locs ls hP hD hS (lv_sub hl [0, 1] rfl) hJ
  · have hJ := ite_f c1 hJ
    refine lv_aload_n hx hb dX5_addNumber_6 rfl (lv_at hl 0 rfl) ?_
    refine lv_bipush (v := 48) hx hb dX5_addNumber_7 (by decide) ?_
    refine lv_iload_n hx hb dX5_addNumber_9 rfl (lv_at hl 1 rfl) ?_
    refine lv_bipush (v := 100) hx hb dX5_addNumber_10 (by decide) ?_
    refine lv_idiv hx hb dX5_addNumber_12 (by decide) ?_
    refine lv_iadd hx hb dX5_addNumber_13 ?_
    obtain ⟨z2, e3, hJ⟩ := bnd hJ
    refine rwVvW (As := [.int ((48 : Int32) + (p0 / (100 : Int32)))]) (rest := []) (ci := 5) (q0 := 0) hx hb hml hown hts (c_X5_addSign l dC dI kI a w ((48 : Int32) + (p0 / (100 : Int32))) H.size z2 e3) gX5_addNumber_X5_addSign qX5_addSign rfl ⟨Nat.le_of_ble_eq_true rfl, Nat.le_of_ble_eq_true rfl⟩ ⟨rfl, rfl⟩ hNW hK hP hD hS hA hK rfl rfl rfl hl.1 rfl rfl (Nat.le_of_ble_eq_true rfl) dX5_addNumber_14 z0 (fun H locs hP hD hS => ?_)
    exact L17 z2 p0 H locs ls hP hD hS (lv_sub hl [0, 1] rfl) hJ
theorem qX5_addSymbols : (yX5_addSymbols.cls = RX5) ∧ yX5_addSymbols.cls ≠ "java/lang/invoke/MethodHandle" ∧ yX5_addSymbols.cls ≠ "java/lang/invoke/VarHandle" ∧ (parseMethodDescriptor yX5_addSymbols.desc).map (fun d => d.parameters.length) = some 1 := by decide +kernel
set_option maxHeartbeats 4000000 in
set_option maxRecDepth 100000 in
theorem c_X5_addSymbols (fu : Nat) (l : Launch) (dC : Nat → ClassId) (dI : Nat → Nat → Nat) (kI : ClassId) (a : Nat → Nat) (w : SS) (a0 : Nat → Nat) (b0 : Nat → Nat) (ee0 : ES) (sz : Nat) (z : SS) (hJ : J_X5_addSymbols fu w ee0 = some z) : Met l yX5_addSymbols wsX5_addSymbols ({ frames := 2, cells := 0, slots := 0, locals := 43 }) (va_Pc [.ref (a 0), .ref (a0 0)] (RWp dC dI sz ((SWc a kI w) ++ (EWc a0 b0 kI ee0)) [(kI, .int)])) (rwQv dC dI (va_A ((SWc a kI w) ++ (EWc a0 b0 kI ee0)) sz) ((SWc a kI z) ++ (EWc a0 b0 kI ee0))) 0 0 (va_A ((SWc a kI w) ++ (EWc a0 b0 kI ee0)) sz) := by
  refine rw_start (Qc := fun A => rwQv dC dI A ((SWc a kI z) ++ (EWc a0 b0 kI ee0))) (cc := cX5_addSymbols) (maxL := 3) (ret := none) (by decide) rfl (Nat.le_of_ble_eq_true rfl) ?_
  intro p e s m args below meth c hx hb hr hml hown hts hlocks hNW hK A hA H locs ls hP hD hS hl
  have hown : s.vm.findClass RX5 = some m.cls := hown
  have hl : lv_has ls 3 [(0, .ref (a 0)), (1, .ref (a0 0))] := hl
  unfold J_X5_addSymbols at hJ
  have L2 : ∀ (n : Nat) (w : SS) (y2 : Int32) (H : Heap) (locs : List Loc) (ls : Array Slot), va_P (dC, dI) vwCl ((SWc a kI w) ++ (EWc a0 b0 kI ee0)) H → va_D A ((SWc a kI w) ++ (EWc a0 b0 kI ee0)) → va_S A s.heap H locs → lv_has ls 3 [(0, .ref (a 0)), (1, .ref (a0 0)), (2, .int y2)] → J_X5_addSymbols_b2 fu ee0 n w y2 = some z → W p l e ({ frames := 2, cells := 0, slots := 0, locals := 43 }) s m args below meth c H locs 0 0 (MQ below (rwQv dC dI A ((SWc a kI z) ++ (EWc a0 b0 kI ee0))) args s 0 0 (A)) (F0 m 2 ls []) := by
    intro n
    induction n with
    | zero =>
      intro w y2 H locs ls hP hD hS hl hJ
      rw [J_X5_addSymbols_b2] at hJ; cases hJ
    | succ n ih =>
      intro w y2 H locs ls hP hD hS hl hJ
      rw [J_X5_addSymbols_b2] at hJ
      refine lv_iload_n hx hb dX5_addSymbols_2 rfl (lv_at hl 2 rfl) ?_
      refine lv_aload_n hx hb dX5_addSymbols_3 rfl (lv_at hl 1 rfl) ?_
      refine va_getN (D := (dC, dI)) (ci := 2) (v := .int (e_encodedLength ee0)) (C := RX2) (T := TX2) (N := 14) hx hb hts (fun _ h => List.mem_cons_of_mem _ (List.mem_append_left _ (List.mem_append_right _ h))) hown hK hP 2 rfl rfl 5 (by decide) (hNW.use (i := 19) rfl) (fun _ h9 => h9) rfl dX5_addSymbols_4 ?_
      refine lv_icmp_ge (tgt := 31) hx hb dX5_addSymbols_7 (by decide) (fun c1 => ?_) (fun c1 => ?_)
      · have hJ := ite_t c1 hJ
        obtain rfl := Option.some.inj hJ
        exact rw_vret hx hb hr hlocks hP hD hS dX5_addSymbols_31
      · have hJ := ite_f c1 hJ
        refine lv_aload_n hx hb dX5_addSymbols_10 rfl (lv_at hl 0 rfl) ?_
        refine lv_bipush (v := 97) hx hb dX5_addSymbols_11 (by decide) ?_
        refine lv_aload_n hx hb dX5_addSymbols_13 rfl (lv_at hl 1 rfl) ?_
        refine va_getN (D := (dC, dI)) (ci := 2) (v := .ref (a0 1)) (C := RX2) (T := TX2) (N := 14) hx hb hts (fun _ h => List.mem_cons_of_mem _ (List.mem_append_left _ (List.mem_append_right _ h))) hown hK hP 2 rfl rfl 4 (by decide) (hNW.use (i := 17) rfl) (fun _ h9 => h9) rfl dX5_addSymbols_14 ?_
        refine lv_iload_n hx hb dX5_addSymbols_17 rfl (lv_at hl 2 rfl) ?_
        obtain ⟨z2, e3, hJ⟩ := bnd hJ
        refine roSNi (As := [.ref (a0 1), .int y2]) (rest := [.int (97 : Int32), .ref (a 0)]) hx hb hml hown hts (c_X7_at l dC dI kI (a0 1) 400 (e_encoded ee0) y2 z2 e3) gX5_addSymbols_X7_at_n69 qX7_at rfl ⟨Nat.le_of_ble_eq_true rfl, Nat.le_of_ble_eq_true rfl⟩ (hNW.use0 (i := 63) rfl) (hts _ (List.mem_of_getElem? (i := 2) rfl)) (hts _ (List.mem_of_getElem? (i := 1) rfl)) ⟨rfl, rfl⟩ hNW hK hP hS (hP.sub (ws' := AWc (a0 1) kI 400 (e_encoded ee0)) [3] rfl) hK hl.1 rfl rfl (Nat.le_of_ble_eq_true rfl) dX5_addSymbols_18 z0 (fun H locs hP hS => ?_)
        refine lv_iadd hx hb dX5_addSymbols_21 ?_
        obtain ⟨z4, e5, hJ⟩ := bnd hJ
        refine rwVv (As := [.int ((97 : Int32) + z2)]) (rest := []) (wc := SWc a kI w) (wc' := SWc a kI z4) (ws' := (SWc a kI z4) ++ (EWc a0 b0 kI ee0)) (ci := 5) (q0 := 0) hx hb hml hown hts (c_X5_addSign l dC dI kI a w ((97 : Int32) + z2) H.size z4 e5) gX5_addSymbols_X5_addSign qX5_addSign rfl ⟨Nat.le_of_ble_eq_true rfl, Nat.le_of_ble_eq_true rfl⟩ ⟨rfl, rfl⟩ hNW hK hP hD hS hA [0, 1] [2, 3, 4, 5, 6, 7, 8, 9, 10, 11] rfl rfl (by decide) (by decide) (by decide) [10, 11, 0, 1, 2, 3, 4, 5, 6, 7, 8, 9] rfl (by decide) hK rfl rfl rfl hl.1 rfl rfl (Nat.le_of_ble_eq_true rfl) dX5_addSymbols_22 z0 (fun H locs hP hD hS => ?_)
        refine lv_iinc (v := y2 + 1) (lv' := [(2, .int (y2 + 1)), (0, .ref (a 0)), (1, .ref (a0 0))]) hx hb dX5_addSymbols_25 hl (k := 2) rfl rfl (by decide) rfl (fun ls hl => ?_)
        refine lv_goto (tgt := 2) hx hb dX5_addSymbols_28 (by decide) ?_
        exact ih z4 (y2 + 1) H locs ls hP hD hS (lv_sub hl [1, 2, 0] rfl) hJ
  refine lv_iconst (v := 0) hx hb dX5_addSymbols_0 (by decide) ?_
  refine lv_istore_n (lv' := [(2, .int (0 : Int32)), (0, .ref (a 0)), (1, .ref (a0 0))]) hx hb dX5_addSymbols_1 rfl hl (by decide) rfl (fun ls hl => ?_)
  exact L2 fu w (0 : Int32) H locs ls hP hD hS (lv_sub hl [1, 2, 0] rfl) hJ
